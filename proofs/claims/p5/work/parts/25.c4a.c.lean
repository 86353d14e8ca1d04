set_option maxHeartbeats 4000000 in
set_option maxRecDepth 100000 in
theorem m_isThing (l : Launch) (G : va_G) (y : Nat → ClassId) (b0 : Nat) (σ : th_M) (E : th_E) (hO : ok y E σ) (a : Nat) (h_a : kd E a = 13) (i : Int) (ri : rng i) (f1 : Nat → Int32) (ef1 : aF σ (ad E a 1) = f1) (hy0 : 1 ≤ mS f1 0 ∧ mS f1 0 ≤ 60) : Met l yX11_isThing wsX11_isThing ({ frames := 1, cells := 0, slots := 0, locals := 26 }) (th_P G y b0 σ [.ref a, .int (I i)]) (th_Qi G b0 (fun r σ1 => σ1 = σ ∧ (0 ≤ r ∧ r ≤ 1) ∧ ((r = 1 ∧ 0 ≤ i ∧ i < mS f1 0) ∨ (r = 0 ∧ ¬ (0 ≤ i ∧ i < mS f1 0))))) 0 0 (th_A b0) := by
  refine Met.ofW (cc := cX11_isThing) (maxL := 2) (ret := (some .boolean)) (by decide) rfl ?_
  intro p e s m args below meth c s₁ B hml hv
  obtain ⟨rfl, hH, hK⟩ := hv
  have hx := B.exec
  have hb := B.bytes
  have hr := B.returns
  have hts := atoms_spec (ws := wsX11_isThing) B.pre
  have hown : s.vm.findClass RX11 = some m.cls := findClass_of_methodNamed B.named
  have hlocks := B.notSynchronized
  have h00 : b0 ≤ s.heap.size := hH.1
  have hS : va_S (th_A b0) s.heap s.heap [] := va_S.rf
  have hl := lv_entry ([.ref a, .int (I i)]) (n := 2) (Nat.le_of_ble_eq_true rfl)
  rw [lg_entry_eq]
  generalize (lg_sl ([.ref a, .int (I i)]) ++ List.replicate (2 - (lg_sl ([.ref a, .int (I i)])).length) Slot.unset).toArray = ls at hl ⊢
  have hl : lv_has ls 2 [(0, .ref a), (1, .int (I i))] := hl
  refine lv_iload_n hx hb dX11_isThing_0 rfl (lv_at hl 1 rfl) ?_
  refine lv_iconst (v := I 0) hx hb dX11_isThing_1 (by decide) ?_
  refine lv_aload_n hx hb dX11_isThing_2 rfl (lv_at hl 0 rfl) ?_
  obtain ⟨_, hc_1⟩ := hO.cell h_a (by decide) (ci := 11) rfl
  refine th_calli (va_runV (As := []) (rest := [.int (I 0), .int (I i)]) ⟨hx, hb, hml, hown, hts⟩ (m_things l G y b0 σ E hO a h_a f1 ef1) (cwV 0 hts gX11_isThing_X11_things rfl rfl rfl (by decide +kernel) ⟨Nat.le_of_ble_eq_true rfl, Nat.le_of_ble_eq_true rfl⟩) (th_PV hK hH rfl hc_1) rfl rfl hl.1 rfl (lv_room (Nat.le_of_ble_eq_true rfl)) dX11_isThing_3 ⟨Nat.le_of_ble_eq_true rfl, Nat.le_of_ble_eq_true rfl⟩) hS (fun z_4 σ_s_3 H locs rz_4 hw_2 hH hS => ?_)
  obtain ⟨e9, hw_2⟩ := hw_2
  replace e9 := e9.symm
  subst e9
  have hw_2 : z_4 = mS f1 0 := hw_2
  refine lv_iconst (v := I 1) hx hb dX11_isThing_6 (by decide) ?_
  refine lv_isub hx hb dX11_isThing_7 ?_
  refine th_subo (fun z_5 rz_5 hz_5 => ?_)
  refine th_calli (va_runS (As := [.int (I i), .int (I 0), .int (I z_5)]) (rest := []) ⟨hx, hb, hml, hown, hts⟩ (w_isIn l G y b0 σ E hO i (show rng i from ri) 0 (show rng 0 from (show rng 0 from ⟨by decide, by decide⟩)) z_5 (show rng z_5 from rz_5)) (va_cwS 3 hts gX11_isThing_X11_isIn rfl rfl rfl (by decide +kernel) ⟨Nat.le_of_ble_eq_true rfl, Nat.le_of_ble_eq_true rfl⟩) (th_PS hK hH) rfl rfl hl.1 rfl (lv_room (Nat.le_of_ble_eq_true rfl)) dX11_isThing_8 ⟨Nat.le_of_ble_eq_true rfl, Nat.le_of_ble_eq_true rfl⟩) hS (fun z_8 σ_s_7 H locs rz_8 hw_6 hH hS => ?_)
  obtain ⟨e9, bhw_6, hw_6⟩ := hw_6
  replace e9 := e9.symm
  subst e9
  have hw_6 : (z_8 = 1 ∧ 0 ≤ i ∧ i ≤ z_5) ∨ (z_8 = 0 ∧ ¬ (0 ≤ i ∧ i ≤ z_5)) := hw_6
  exact th_zret hx hb hr hlocks hH hS (z := z_8) (by omega) ⟨rfl, ⟨by omega, by omega⟩, by omega⟩ dX11_isThing_11

set_option maxHeartbeats 4000000 in
set_option maxRecDepth 100000 in
theorem m_isTape (l : Launch) (G : va_G) (y : Nat → ClassId) (b0 : Nat) (σ : th_M) (E : th_E) (hO : ok y E σ) (a : Nat) (h_a : kd E a = 13) (i : Int) (ri : rng i) : Met l yX11_isTape wsX11_isTape ({ frames := 1, cells := 0, slots := 0, locals := 26 }) (th_P G y b0 σ [.ref a, .int (I i)]) (th_Qi G b0 (fun r σ1 => σ1 = σ ∧ (0 ≤ r ∧ r ≤ 1) ∧ ((r = 1 ∧ 0 ≤ i ∧ i ≤ gI σ a 12) ∨ (r = 0 ∧ ¬ (0 ≤ i ∧ i ≤ gI σ a 12))))) 0 0 (th_A b0) := by
  refine Met.ofW (cc := cX11_isTape) (maxL := 2) (ret := (some .boolean)) (by decide) rfl ?_
  intro p e s m args below meth c s₁ B hml hv
  obtain ⟨rfl, hH, hK⟩ := hv
  have hx := B.exec
  have hb := B.bytes
  have hr := B.returns
  have hts := atoms_spec (ws := wsX11_isTape) B.pre
  have hown : s.vm.findClass RX11 = some m.cls := findClass_of_methodNamed B.named
  have hlocks := B.notSynchronized
  have h00 : b0 ≤ s.heap.size := hH.1
  have hS : va_S (th_A b0) s.heap s.heap [] := va_S.rf
  have inX11 : ∀ w ∈ wsX110, w ∈ wsX11_isTape := by decide +kernel
  have fl0 := hts (.fieldLink RX11 114 "NestQueryModel" "taped" "I") (by decide +kernel)
  have hl := lv_entry ([.ref a, .int (I i)]) (n := 2) (Nat.le_of_ble_eq_true rfl)
  rw [lg_entry_eq]
  generalize (lg_sl ([.ref a, .int (I i)]) ++ List.replicate (2 - (lg_sl ([.ref a, .int (I i)])).length) Slot.unset).toArray = ls at hl ⊢
  have hl : lv_has ls 2 [(0, .ref a), (1, .int (I i))] := hl
  obtain ⟨a120, ea120, ra120, la120, ua120⟩ := hO.gi h_a (by decide) k13_12
  refine lv_iload_n hx hb dX11_isTape_0 rfl (lv_at hl 1 rfl) ?_
  refine lv_iconst (v := I 0) hx hb dX11_isTape_1 (by decide) ?_
  refine lv_aload_n hx hb dX11_isTape_2 rfl (lv_at hl 0 rfl) ?_
  refine ok.getIc hO h_a (by decide) k13_12 ea120 (fun _ _ he hv kk => th_get (ci := 11) (C := RX11) (T := TX11) (N := 66) hx hb hts inX11 hown hK hH he rfl 12 (by decide) fl0 hv dX11_isTape_3 kk) ?_
  refine th_calli (va_runS (As := [.int (I i), .int (I 0), .int (I a120)]) (rest := []) ⟨hx, hb, hml, hown, hts⟩ (w_isIn l G y b0 σ E hO i (show rng i from ri) 0 (show rng 0 from (show rng 0 from ⟨by decide, by decide⟩)) a120 (show rng a120 from ra120)) (va_cwS 3 hts gX11_isTape_X11_isIn rfl rfl rfl (by decide +kernel) ⟨Nat.le_of_ble_eq_true rfl, Nat.le_of_ble_eq_true rfl⟩) (th_PS hK hH) rfl rfl hl.1 rfl (lv_room (Nat.le_of_ble_eq_true rfl)) dX11_isTape_6 ⟨Nat.le_of_ble_eq_true rfl, Nat.le_of_ble_eq_true rfl⟩) hS (fun z_3 σ_s_2 H locs rz_3 hw_1 hH hS => ?_)
  obtain ⟨e9, bhw_1, hw_1⟩ := hw_1
  replace e9 := e9.symm
  subst e9
  have hw_1 : (z_3 = 1 ∧ 0 ≤ i ∧ i ≤ a120) ∨ (z_3 = 0 ∧ ¬ (0 ≤ i ∧ i ≤ a120)) := hw_1
  exact th_zret hx hb hr hlocks hH hS (z := z_3) (by omega) ⟨rfl, ⟨by omega, by omega⟩, by omega⟩ dX11_isTape_9

set_option maxHeartbeats 4000000 in
set_option maxRecDepth 100000 in
theorem m_isPath (l : Launch) (G : va_G) (y : Nat → ClassId) (b0 : Nat) (σ : th_M) (E : th_E) (hO : ok y E σ) (a : Nat) (h_a : kd E a = 13) (i : Int) (ri : rng i) (f8 : Nat → Int32) (ef8 : aF σ (ad E a 8) = f8) : Met l yX11_isPath wsX11_isPath ({ frames := 1, cells := 0, slots := 0, locals := 26 }) (th_P G y b0 σ [.ref a, .int (I i)]) (th_Qi G b0 (fun r σ1 => σ1 = σ ∧ (0 ≤ r ∧ r ≤ 1) ∧ ((r = 1 ∧ 0 ≤ i ∧ i ≤ 3 ∧ 1 ≤ (f8 i.toNat).toInt) ∨ r = 0))) 0 0 (th_A b0) := by
  refine Met.ofW (cc := cX11_isPath) (maxL := 2) (ret := (some .boolean)) (by decide) rfl ?_
  intro p e s m args below meth c s₁ B hml hv
  obtain ⟨rfl, hH, hK⟩ := hv
  have hx := B.exec
  have hb := B.bytes
  have hr := B.returns
  have hts := atoms_spec (ws := wsX11_isPath) B.pre
  have hown : s.vm.findClass RX11 = some m.cls := findClass_of_methodNamed B.named
  have hlocks := B.notSynchronized
  have h00 : b0 ≤ s.heap.size := hH.1
  have hS : va_S (th_A b0) s.heap s.heap [] := va_S.rf
  have inX11 : ∀ w ∈ wsX110, w ∈ wsX11_isPath := by decide +kernel
  have fl0 := hts (.fieldLink RX11 28 "NestQueryModel" "pathSize" "[I") (by decide +kernel)
  have hl := lv_entry ([.ref a, .int (I i)]) (n := 2) (Nat.le_of_ble_eq_true rfl)
  rw [lg_entry_eq]
  generalize (lg_sl ([.ref a, .int (I i)]) ++ List.replicate (2 - (lg_sl ([.ref a, .int (I i)])).length) Slot.unset).toArray = ls at hl ⊢
  have hl : lv_has ls 2 [(0, .ref a), (1, .int (I i))] := hl
  refine lv_iload_n hx hb dX11_isPath_0 rfl (lv_at hl 1 rfl) ?_
  refine lv_iconst (v := I 0) hx hb dX11_isPath_1 (by decide) ?_
  refine lv_iconst (v := I 3) hx hb dX11_isPath_2 (by decide) ?_
  refine th_calli (va_runS (As := [.int (I i), .int (I 0), .int (I 3)]) (rest := []) ⟨hx, hb, hml, hown, hts⟩ (w_isIn l G y b0 σ E hO i (show rng i from ri) 0 (show rng 0 from (show rng 0 from ⟨by decide, by decide⟩)) 3 (show rng 3 from (show rng 3 from ⟨by decide, by decide⟩))) (va_cwS 3 hts gX11_isPath_X11_isIn rfl rfl rfl (by decide +kernel) ⟨Nat.le_of_ble_eq_true rfl, Nat.le_of_ble_eq_true rfl⟩) (th_PS hK hH) rfl rfl hl.1 rfl (lv_room (Nat.le_of_ble_eq_true rfl)) dX11_isPath_3 ⟨Nat.le_of_ble_eq_true rfl, Nat.le_of_ble_eq_true rfl⟩) hS (fun z_3 σ_s_2 H locs rz_3 hw_1 hH hS => ?_)
  obtain ⟨e9, bhw_1, hw_1⟩ := hw_1
  replace e9 := e9.symm
  subst e9
  have hw_1 : (z_3 = 1 ∧ 0 ≤ i ∧ i ≤ 3) ∨ (z_3 = 0 ∧ ¬ (0 ≤ i ∧ i ≤ 3)) := hw_1
  refine lv_if_eq (tgt := 22) hx hb dX11_isPath_6 (by decide) (fun c_4 => ?_) (fun c_4 => ?_)
  · replace c_4 := (I_eq (a := z_3) (b := 0) rz_3 (show rng 0 from ⟨by decide, by decide⟩)).mp c_4
    refine lv_iconst (v := I 0) hx hb dX11_isPath_22 (by decide) ?_
    exact th_zret hx hb hr hlocks hH hS (z := 0) (by omega) ⟨rfl, ⟨by omega, by omega⟩, Or.inr rfl⟩ dX11_isPath_23
  · replace c_4 := mt (I_eq (a := z_3) (b := 0) rz_3 (show rng 0 from ⟨by decide, by decide⟩)).mpr c_4
    refine lv_aload_n hx hb dX11_isPath_9 rfl (lv_at hl 0 rfl) ?_
    refine ok.getR hO h_a (by decide) k13_8 (by decide) (fun _ _ he hv kk => th_get (ci := 11) (C := RX11) (T := TX11) (N := 66) hx hb hts inX11 hown hK hH he rfl 8 (by decide) fl0 hv dX11_isPath_10 kk) ?_
    refine lv_iload_n hx hb dX11_isPath_13 rfl (lv_at hl 1 rfl) ?_
    refine m_iald hx hb hK hH hO h_a k13_8 isA9 ef8 ri (by omega) (by omega) dX11_isPath_14 (fun z_5 ez_5 rz_5 elx9 => ?_)
    have uz_5 := elx9.2.1 rfl
    refine lv_if_le (tgt := 22) hx hb dX11_isPath_15 (by decide) (fun c_6 => ?_) (fun c_6 => ?_)
    · replace c_6 := (I_le (a := z_5) (b := 0) rz_5 (show rng 0 from ⟨by decide, by decide⟩)).mp c_6
      refine lv_iconst (v := I 0) hx hb dX11_isPath_22 (by decide) ?_
      exact th_zret hx hb hr hlocks hH hS (z := 0) (by omega) ⟨rfl, ⟨by omega, by omega⟩, Or.inr rfl⟩ dX11_isPath_23
    · replace c_6 := mt (I_le (a := z_5) (b := 0) rz_5 (show rng 0 from ⟨by decide, by decide⟩)).mpr c_6
      refine lv_iconst (v := I 1) hx hb dX11_isPath_18 (by decide) ?_
      refine lv_goto (tgt := 23) hx hb dX11_isPath_19 (by decide) ?_
      exact th_zret hx hb hr hlocks hH hS (z := 1) (by omega) ⟨rfl, ⟨by omega, by omega⟩, Or.inl ⟨rfl, by omega, by omega, by omega⟩⟩ dX11_isPath_23

set_option maxHeartbeats 4000000 in
set_option maxRecDepth 100000 in
theorem m_allWithin (l : Launch) (G : va_G) (y : Nat → ClassId) (b0 : Nat) (σ : th_M) (E : th_E) (hO : ok y E σ) (a : Nat) (h_a : kd E a = 13) (f1 : Nat → Int32) (ef1 : aF σ (ad E a 1) = f1) (hy0 : wf f1 0 (mS f1 0)) (hy1 : 1 ≤ mS f1 0 ∧ mS f1 0 ≤ 60) : Met l yX11_allWithin wsX11_allWithin ({ frames := 1, cells := 0, slots := 0, locals := 25 }) (th_P G y b0 σ [.ref a]) (th_Qv G b0 (fun σ1 => ok y E σ1 ∧ fr [13] E σ σ1 ∧ fm [24] E σ σ1 a ∧ (True))) 0 0 (th_A b0) := by
  refine Met.ofW (cc := cX11_allWithin) (maxL := 3) (ret := none) (by decide) rfl ?_
  intro p e s m args below meth c s₁ B hml hv
  obtain ⟨rfl, hH, hK⟩ := hv
  have hx := B.exec
  have hb := B.bytes
  have hr := B.returns
  have hts := atoms_spec (ws := wsX11_allWithin) B.pre
  have hown : s.vm.findClass RX11 = some m.cls := findClass_of_methodNamed B.named
  have hlocks := B.notSynchronized
  have h00 : b0 ≤ s.heap.size := hH.1
  have hS : va_S (th_A b0) s.heap s.heap [] := va_S.rf
  have hF : fr [13] E σ σ := fr.rf
  have hM : fm [24] E σ σ a := fm.rf
  have inX11 : ∀ w ∈ wsX110, w ∈ wsX11_allWithin := by decide +kernel
  have fl0 := hts (.fieldLink RX11 300 "NestQueryModel" "isGone" "Z") (by decide +kernel)
  have fl1 := hts (.fieldLink RX11 35 "NestQueryModel" "set" "[Z") (by decide +kernel)
  have fl2 := hts (.fieldLink RX11 9 "NestQueryModel" "tree" "[I") (by decide +kernel)
  have fl3 := hts (.fieldLink RX11 39 "NestQueryModel" "to" "[Z") (by decide +kernel)
  have hl := lv_entry ([.ref a]) (n := 3) (Nat.le_of_ble_eq_true rfl)
  rw [lg_entry_eq]
  generalize (lg_sl ([.ref a]) ++ List.replicate (3 - (lg_sl ([.ref a])).length) Slot.unset).toArray = ls at hl ⊢
  have hl : lv_has ls 3 [(0, .ref a)] := hl
  refine lv_iconst (v := I 0) hx hb dX11_allWithin_0 (by decide) ?_
  refine lv_istore_n (lv' := [(1, .int (I 0)), (0, .ref a)]) hx hb dX11_allWithin_1 rfl hl (by decide) rfl (fun ls hl => ?_)
  refine th_loop (α := Int) (pc := 2) (fun x9 => (mS f1 0 - x9).toNat) (fun x9 σ9 H9 l9 ls9 => ok y E σ9 ∧ fr [13] E σ σ9 ∧ fm [24] E σ σ9 a ∧ th_H G b0 σ9 H9 ∧ va_S (th_A b0) s.heap H9 l9 ∧ lv_has ls9 3 [(0, .ref a), (1, .int (I x9))] ∧ rng x9 ∧ (0 ≤ x9) ∧ (x9 ≤ 60) ∧ (aF σ9 (ad E a 1) = f1)) ?_ (0) σ _ _ _ ⟨hO, hF, hM, hH, hS, lv_sub hl [1, 0] rfl, (show rng 0 from ⟨by decide, by decide⟩), by first | (dsimp only; omega) | omega, by first | (dsimp only; omega) | omega, ef1⟩
  intro x9 σ_J_32 H locs ls hI9 ihJ_32
  obtain ⟨v1q31, ex9⟩ : ∃ z, z = x9 := ⟨_, rfl⟩
  subst ex9
  obtain ⟨hO, hF, hM, hH, hS, hl, rv1q31, J_32_0, J_32_1, J_32_2⟩ := hI9
  have hl : lv_has ls 3 [(0, .ref a), (1, .int (I v1q31))] := hl
  have rv1q31 : rng v1q31 := rv1q31
  have J_32_0 : 0 ≤ v1q31 := J_32_0
  have J_32_1 : v1q31 ≤ 60 := J_32_1
  have J_32_2 : aF σ_J_32 (ad E a 1) = f1 := J_32_2
  refine lv_iload_n hx hb dX11_allWithin_2 rfl (lv_at hl 1 rfl) ?_
  refine lv_aload_n hx hb dX11_allWithin_3 rfl (lv_at hl 0 rfl) ?_
  obtain ⟨_, hc_33⟩ := hO.cell h_a (by decide) (ci := 11) rfl
  refine th_calli (va_runV (As := []) (rest := [.int (I v1q31)]) ⟨hx, hb, hml, hown, hts⟩ (m_things l G y b0 σ_J_32 E hO a h_a f1 J_32_2) (cwV 0 hts gX11_allWithin_X11_things rfl rfl rfl (by decide +kernel) ⟨Nat.le_of_ble_eq_true rfl, Nat.le_of_ble_eq_true rfl⟩) (th_PV hK hH rfl hc_33) rfl rfl hl.1 rfl (lv_room (Nat.le_of_ble_eq_true rfl)) dX11_allWithin_4 ⟨Nat.le_of_ble_eq_true rfl, Nat.le_of_ble_eq_true rfl⟩) hS (fun z_36 σ_s_35 H locs rz_36 hw_34 hH hS => ?_)
  obtain ⟨e9, hw_34⟩ := hw_34
  replace e9 := e9.symm
  subst e9
  have hw_34 : z_36 = mS f1 0 := hw_34
  refine lv_icmp_ge (tgt := 64) hx hb dX11_allWithin_7 (by decide) (fun c_37 => ?_) (fun c_37 => ?_)
  · replace c_37 := (I_le (a := z_36) (b := v1q31) rz_36 rv1q31).mp c_37
    exact th_vret hx hb hr hlocks hH hS ⟨hO, hF, hM, trivial⟩ dX11_allWithin_64
  · replace c_37 := mt (I_le (a := z_36) (b := v1q31) rz_36 rv1q31).mpr c_37
    refine lv_aload_n hx hb dX11_allWithin_10 rfl (lv_at hl 0 rfl) ?_
    refine ok.getI hO h_a (by decide) k13_25 (fun _ _ he hv kk => th_get (ci := 11) (C := RX11) (T := TX11) (N := 66) hx hb hts inX11 hown hK hH he rfl 25 (by decide) fl0 hv dX11_allWithin_11 kk) (fun z_38 e_39 rz_38 lz_38 uz_38 => ?_)
    refine lv_if_eq (tgt := 64) hx hb dX11_allWithin_14 (by decide) (fun c_40 => ?_) (fun c_40 => ?_)
    · replace c_40 := (I_eq (a := z_38) (b := 0) rz_38 (show rng 0 from ⟨by decide, by decide⟩)).mp c_40
      exact th_vret hx hb hr hlocks hH hS ⟨hO, hF, hM, trivial⟩ dX11_allWithin_64
    · replace c_40 := mt (I_eq (a := z_38) (b := 0) rz_38 (show rng 0 from ⟨by decide, by decide⟩)).mpr c_40
      refine lv_aload_n hx hb dX11_allWithin_17 rfl (lv_at hl 0 rfl) ?_
      refine ok.getR hO h_a (by decide) k13_23 (by decide) (fun _ _ he hv kk => th_get (ci := 11) (C := RX11) (T := TX11) (N := 66) hx hb hts inX11 hown hK hH he rfl 23 (by decide) fl1 hv dX11_allWithin_18 kk) ?_
      refine lv_iload_n hx hb dX11_allWithin_21 rfl (lv_at hl 1 rfl) ?_
      refine m_zald hx hb hK hH hO h_a k13_23 rv1q31 (by omega) (by omega) dX11_allWithin_22 (fun z_41 rz_41 uz_41 => ?_)
      refine lv_if_ne (tgt := 29) hx hb dX11_allWithin_23 (by decide) (fun c_42 => ?_) (fun c_42 => ?_)
      · replace c_42 := mt (I_eq (a := z_41) (b := 0) rz_41 (show rng 0 from ⟨by decide, by decide⟩)).mpr c_42
        have hk1 := hy0 v1q31 (by omega) (by omega)
        refine lv_iload_n hx hb dX11_allWithin_29 rfl (lv_at hl 1 rfl) ?_
        refine lv_istore_n (lv' := [(2, .int (I v1q31)), (0, .ref a), (1, .int (I v1q31))]) hx hb dX11_allWithin_30 rfl hl (by decide) rfl (fun ls hl => ?_)
        refine th_loop (α := Int) (pc := 31) (fun x9 => (v1q31 + mS f1 v1q31 - x9).toNat) (fun x9 σ9 H9 l9 ls9 => ok y E σ9 ∧ fr [13] E σ σ9 ∧ fm [24] E σ σ9 a ∧ th_H G b0 σ9 H9 ∧ va_S (th_A b0) s.heap H9 l9 ∧ lv_has ls9 3 [(0, .ref a), (1, .int (I v1q31)), (2, .int (I x9))] ∧ rng x9 ∧ (v1q31 ≤ x9) ∧ (x9 ≤ 60) ∧ (0 ≤ x9) ∧ (gI σ9 a 25 = z_38) ∧ (aF σ9 (ad E a 1) = f1)) ?_ (v1q31) σ_J_32 _ _ _ ⟨hO, hF, hM, hH, hS, lv_sub hl [1, 2, 0] rfl, rv1q31, by first | (dsimp only; omega) | omega, by first | (dsimp only; omega) | omega, by first | (dsimp only; omega) | omega, e_39, J_32_2⟩
        intro x9 σ_J_44 H locs ls hI9 ihJ_44
        obtain ⟨v2q43, ex9⟩ : ∃ z, z = x9 := ⟨_, rfl⟩
        subst ex9
        obtain ⟨hO, hF, hM, hH, hS, hl, rv2q43, J_44_0, J_44_1, J_44_2, J_44_3, J_44_4⟩ := hI9
        have hl : lv_has ls 3 [(0, .ref a), (1, .int (I v1q31)), (2, .int (I v2q43))] := hl
        have rv2q43 : rng v2q43 := rv2q43
        have J_44_0 : v1q31 ≤ v2q43 := J_44_0
        have J_44_1 : v2q43 ≤ 60 := J_44_1
        have J_44_2 : 0 ≤ v2q43 := J_44_2
        have J_44_3 : gI σ_J_44 a 25 = z_38 := J_44_3
        have J_44_4 : aF σ_J_44 (ad E a 1) = f1 := J_44_4
        refine lv_iload_n hx hb dX11_allWithin_31 rfl (lv_at hl 2 rfl) ?_
        refine lv_iload_n hx hb dX11_allWithin_32 rfl (lv_at hl 1 rfl) ?_
        refine lv_aload_n hx hb dX11_allWithin_33 rfl (lv_at hl 0 rfl) ?_
        refine ok.getR hO h_a (by decide) k13_1 (by decide) (fun _ _ he hv kk => th_get (ci := 11) (C := RX11) (T := TX11) (N := 66) hx hb hts inX11 hown hK hH he rfl 1 (by decide) fl2 hv dX11_allWithin_34 kk) ?_
        refine lv_iload_n hx hb dX11_allWithin_37 rfl (lv_at hl 1 rfl) ?_
        refine th_calli (va_runS (As := [.ref (ad E a 1), .int (I v1q31)]) (rest := [.int (I v1q31), .int (I v2q43)]) ⟨hx, hb, hml, hown, hts⟩ (w_size l G y b0 σ_J_44 E hO (ad E a 1) 240 f1 (hO.roww h_a k13_1 isA1 J_44_4 rfl) v1q31 (show rng v1q31 from rv1q31) (by omega) (by omega) (by omega)) (va_cwS 2 hts gX11_allWithin_X11_size rfl rfl rfl (by decide +kernel) ⟨Nat.le_of_ble_eq_true rfl, Nat.le_of_ble_eq_true rfl⟩) (th_PS hK hH) rfl rfl hl.1 rfl (lv_room (Nat.le_of_ble_eq_true rfl)) dX11_allWithin_38 ⟨Nat.le_of_ble_eq_true rfl, Nat.le_of_ble_eq_true rfl⟩) hS (fun z_47 σ_s_46 H locs rz_47 hw_45 hH hS => ?_)
        obtain ⟨e9, hw_45⟩ := hw_45
        replace e9 := e9.symm
        subst e9
        have hw_45 : z_47 = mS f1 v1q31 := hw_45
        refine lv_iadd hx hb dX11_allWithin_41 ?_
        refine th_addo (fun z_48 rz_48 hz_48 => ?_)
        refine lv_icmp_ge (tgt := 58) hx hb dX11_allWithin_42 (by decide) (fun c_49 => ?_) (fun c_49 => ?_)
        · replace c_49 := (I_le (a := z_48) (b := v2q43) rz_48 rv2q43).mp c_49
          refine lv_iinc (v := I (v1q31 + 1)) (lv' := [(1, .int (I (v1q31 + 1))), (0, .ref a), (2, .int (I v2q43))]) hx hb dX11_allWithin_58 hl (k := 1) rfl (I_add _ _) (by decide) rfl (fun ls hl => ?_)
          refine lv_goto (tgt := 2) hx hb dX11_allWithin_61 (by decide) ?_
          replace hl : lv_has ls 3 [(1, .int (I (v1q31 + 1))), (0, .ref a)] := lv_sub hl [0, 1] rfl
          exact ihJ_32 (v1q31 + 1) σ_J_44 _ _ _ (by first | (dsimp only; omega) | omega) ⟨hO, hF, hM, hH, hS, lv_sub hl [1, 0] rfl, ⟨by first | (dsimp only; omega) | omega, by first | (dsimp only; omega) | omega⟩, by first | (dsimp only; omega) | omega, by first | (dsimp only; omega) | omega, J_44_4⟩
        · replace c_49 := mt (I_le (a := z_48) (b := v2q43) rz_48 rv2q43).mpr c_49
          refine lv_aload_n hx hb dX11_allWithin_45 rfl (lv_at hl 0 rfl) ?_
          refine ok.getR hO h_a (by decide) k13_24 (by decide) (fun _ _ he hv kk => th_get (ci := 11) (C := RX11) (T := TX11) (N := 66) hx hb hts inX11 hown hK hH he rfl 24 (by decide) fl3 hv dX11_allWithin_46 kk) ?_
          refine lv_iload_n hx hb dX11_allWithin_49 rfl (lv_at hl 2 rfl) ?_
          refine lv_iconst (v := I 1) hx hb dX11_allWithin_50 (by decide) ?_
          refine m_zast hx hb hK hH hS h00 hO h_a k13_24 (by decide) rv2q43 (by omega) (by omega) (by omega) dX11_allWithin_51 (fun σ_s_50 H locs hO hF9 hM9 hH hS => ?_)
          replace hM := hM.tu hM9 (by decide)
          replace hF := hF.tu hF9 (by decide)
          have e_51 : gI σ_s_50 a 25 = z_38 := (hM9.i (by decide)).trans J_44_3
          have e_52 : aF σ_s_50 (ad E a 1) = f1 := (hM9.a (by decide) (by decide)).trans J_44_4
          refine lv_iinc (v := I (v2q43 + 1)) (lv' := [(2, .int (I (v2q43 + 1))), (0, .ref a), (1, .int (I v1q31))]) hx hb dX11_allWithin_52 hl (k := 2) rfl (I_add _ _) (by decide) rfl (fun ls hl => ?_)
          refine lv_goto (tgt := 31) hx hb dX11_allWithin_55 (by decide) ?_
          exact ihJ_44 (v2q43 + 1) σ_s_50 _ _ _ (by first | (dsimp only; omega) | omega) ⟨hO, hF, hM, hH, hS, lv_sub hl [1, 2, 0] rfl, ⟨by first | (dsimp only; omega) | omega, by first | (dsimp only; omega) | omega⟩, by first | (dsimp only; omega) | omega, by first | (dsimp only; omega) | omega, by first | (dsimp only; omega) | omega, e_51, e_52⟩
      · replace c_42 := (I_eq (a := z_41) (b := 0) rz_41 (show rng 0 from ⟨by decide, by decide⟩)).mp c_42
        refine lv_goto (tgt := 58) hx hb dX11_allWithin_26 (by decide) ?_
        refine lv_iinc (v := I (v1q31 + 1)) (lv' := [(1, .int (I (v1q31 + 1))), (0, .ref a)]) hx hb dX11_allWithin_58 hl (k := 1) rfl (I_add _ _) (by decide) rfl (fun ls hl => ?_)
        refine lv_goto (tgt := 2) hx hb dX11_allWithin_61 (by decide) ?_
        exact ihJ_32 (v1q31 + 1) σ_J_32 _ _ _ (by first | (dsimp only; omega) | omega) ⟨hO, hF, hM, hH, hS, lv_sub hl [1, 0] rfl, ⟨by first | (dsimp only; omega) | omega, by first | (dsimp only; omega) | omega⟩, by first | (dsimp only; omega) | omega, by first | (dsimp only; omega) | omega, J_32_2⟩

set_option maxHeartbeats 4000000 in
set_option maxRecDepth 100000 in
theorem m_keyOrAll (l : Launch) (G : va_G) (y : Nat → ClassId) (b0 : Nat) (σ : th_M) (E : th_E) (hO : ok y E σ) (a : Nat) (h_a : kd E a = 13) (f1 : Nat → Int32) (ef1 : aF σ (ad E a 1) = f1) (Bf : Int → Int) (hsr : sr E σ a Bf) (hy0 : wf f1 0 (mS f1 0)) (hy1 : 1 ≤ mS f1 0 ∧ mS f1 0 ≤ 60) (hy2 : 0 ≤ gI σ a 17 ∧ gI σ a 17 ≤ gI σ a 13 ∧ gI σ a 13 ≤ gI σ a 11 ∧ gI σ a 11 ≤ 400) : Met l yX11_keyOrAll wsX11_keyOrAll ({ frames := 3, cells := 0, slots := 0, locals := 90 }) (th_P G y b0 σ [.ref a]) (th_Qv G b0 (fun σ1 => ok y E σ1 ∧ fr [13] E σ σ1 ∧ fm [13, 14, 15, 16, 17, 18, 19, 20, 24] E σ σ1 a ∧ ((gI σ a 13 ≤ gI σ1 a 13 ∧ gI σ1 a 13 ≤ gI σ a 11 ∧ 0 ≤ gI σ1 a 17 ∧ gI σ1 a 17 ≤ gI σ1 a 13)))) 0 0 (th_A b0) := by
  refine Met.ofW (cc := cX11_keyOrAll) (maxL := 5) (ret := none) (by decide) rfl ?_
  intro p e s m args below meth c s₁ B hml hv
  obtain ⟨rfl, hH, hK⟩ := hv
  have hx := B.exec
  have hb := B.bytes
  have hr := B.returns
  have hts := atoms_spec (ws := wsX11_keyOrAll) B.pre
  have hown : s.vm.findClass RX11 = some m.cls := findClass_of_methodNamed B.named
  have hlocks := B.notSynchronized
  have h00 : b0 ≤ s.heap.size := hH.1
  have hS : va_S (th_A b0) s.heap s.heap [] := va_S.rf
  have hF : fr [13] E σ σ := fr.rf
  have hM : fm [13, 14, 15, 16, 17, 18, 19, 20, 24] E σ σ a := fm.rf
  have inX11 : ∀ w ∈ wsX110, w ∈ wsX11_keyOrAll := by decide +kernel
  have fl0 := hts (.fieldLink RX11 300 "NestQueryModel" "isGone" "Z") (by decide +kernel)
  have fl1 := hts (.fieldLink RX11 35 "NestQueryModel" "set" "[Z") (by decide +kernel)
  have fl2 := hts (.fieldLink RX11 9 "NestQueryModel" "tree" "[I") (by decide +kernel)
  have fl3 := hts (.fieldLink RX11 39 "NestQueryModel" "to" "[Z") (by decide +kernel)
  have hl := lv_entry ([.ref a]) (n := 5) (Nat.le_of_ble_eq_true rfl)
  rw [lg_entry_eq]
  generalize (lg_sl ([.ref a]) ++ List.replicate (5 - (lg_sl ([.ref a])).length) Slot.unset).toArray = ls at hl ⊢
  have hl : lv_has ls 5 [(0, .ref a)] := hl
  obtain ⟨a110, ea110, ra110, la110, ua110⟩ := hO.gi h_a (by decide) k13_11
  obtain ⟨a130, ea130, ra130, la130, ua130⟩ := hO.gi h_a (by decide) k13_13
  obtain ⟨a140, ea140, ra140, la140, ua140⟩ := hO.gi h_a (by decide) k13_14
  obtain ⟨a170, ea170, ra170, la170, ua170⟩ := hO.gi h_a (by decide) k13_17
  obtain ⟨a190, ea190, ra190, la190, ua190⟩ := hO.gi h_a (by decide) k13_19
  refine lv_aload_n hx hb dX11_keyOrAll_0 rfl (lv_at hl 0 rfl) ?_
  refine lv_bipush (v := I 42) hx hb dX11_keyOrAll_1 (by decide) ?_
  obtain ⟨_, hc_1⟩ := hO.cell h_a (by decide) (ci := 11) rfl
  refine th_calli (va_runV (As := [.int (I 42)]) (rest := []) ⟨hx, hb, hml, hown, hts⟩ (m_isMarked l G y b0 σ E hO a h_a 42 (show rng 42 from (show rng 42 from ⟨by decide, by decide⟩)) Bf hsr (by omega)) (cwV 1 hts gX11_keyOrAll_X11_isMarked rfl rfl rfl (by decide +kernel) ⟨Nat.le_of_ble_eq_true rfl, Nat.le_of_ble_eq_true rfl⟩) (th_PV hK hH rfl hc_1) rfl rfl hl.1 rfl (lv_room (Nat.le_of_ble_eq_true rfl)) dX11_keyOrAll_3 ⟨Nat.le_of_ble_eq_true rfl, Nat.le_of_ble_eq_true rfl⟩) hS (fun z_4 σ_s_3 H locs rz_4 hw_2 hH hS => ?_)
  obtain ⟨e9, bhw_2, hw_2⟩ := hw_2
  replace e9 := e9.symm
  subst e9
  have hw_2 : z_4 = 0 ∨ (z_4 = 1 ∧ gI σ a 19 = 0 ∧ gI σ a 14 = 3 ∧ Bf (gI σ a 17) = 42) := hw_2
  refine lv_istore_n (lv' := [(1, .int (I z_4)), (0, .ref a)]) hx hb dX11_keyOrAll_6 rfl hl (by decide) rfl (fun ls hl => ?_)
  refine lv_iload_n hx hb dX11_keyOrAll_7 rfl (lv_at hl 0 rfl) ?_
  refine lv_if_eq (tgt := 15) hx hb dX11_keyOrAll_8 (by decide) (fun c_5 => ?_) (fun c_5 => ?_)
  · replace c_5 := (I_eq (a := z_4) (b := 0) rz_4 (show rng 0 from ⟨by decide, by decide⟩)).mp c_5
    clear hw_2
    refine lv_aload_n hx hb dX11_keyOrAll_15 rfl (lv_at hl 1 rfl) ?_
    obtain ⟨_, hc_6⟩ := hO.cell h_a (by decide) (ci := 11) rfl
    refine th_calli (va_runV (As := []) (rest := []) ⟨hx, hb, hml, hown, hts⟩ (m_wordNow l G y b0 σ E hO a h_a) (cwV 0 hts gX11_keyOrAll_X11_wordNow rfl rfl rfl (by decide +kernel) ⟨Nat.le_of_ble_eq_true rfl, Nat.le_of_ble_eq_true rfl⟩) (th_PV hK hH rfl hc_6) rfl rfl hl.1 rfl (lv_room (Nat.le_of_ble_eq_true rfl)) dX11_keyOrAll_16 ⟨Nat.le_of_ble_eq_true rfl, Nat.le_of_ble_eq_true rfl⟩) hS (fun z_9 σ_s_8 H locs rz_9 hw_7 hH hS => ?_)
    obtain ⟨hO9, hF9, hM9, hw_7⟩ := hw_7
    replace hM := hM.tu hM9 (by decide)
    replace hF := hF.tu hF9 (by decide)
    have e_10 : aF σ_s_8 (ad E a 1) = f1 := (hM9.a (by decide) (by decide)).trans ef1
    have e_11 : gI σ_s_8 a 11 = a110 := (hM9.i (by decide)).trans ea110
    have e_12 : gI σ_s_8 a 13 = a130 := (hM9.i (by decide)).trans ea130
    have e_13 : gI σ_s_8 a 14 = a140 := (hM9.i (by decide)).trans ea140
    have e_14 : gI σ_s_8 a 17 = a170 := (hM9.i (by decide)).trans ea170
    replace hsr := hsr.mv hM9 (by decide) (by decide) (by decide) (by decide) (by decide)
    replace hO := hO9
    have hw_7 : bdo (gI σ a 19) (gI σ_s_8 a 19) := hw_7
    refine lv_istore_n (lv' := [(2, .int (I z_9)), (1, .int (I z_4)), (0, .ref a)]) hx hb dX11_keyOrAll_19 rfl hl (by decide) rfl (fun ls hl => ?_)
    refine lv_aload_n hx hb dX11_keyOrAll_20 rfl (lv_at hl 2 rfl) ?_
    obtain ⟨_, hc_15⟩ := hO.cell h_a (by decide) (ci := 11) rfl
    refine th_callv (va_runV (As := []) (rest := []) ⟨hx, hb, hml, hown, hts⟩ (m_pass l G y b0 σ_s_8 E hO a h_a Bf hsr (by omega)) (cwV 0 hts gX11_keyOrAll_X11_pass rfl rfl rfl (by decide +kernel) ⟨Nat.le_of_ble_eq_true rfl, Nat.le_of_ble_eq_true rfl⟩) (th_PV hK hH rfl hc_15) rfl rfl hl.1 rfl (lv_room (Nat.le_of_ble_eq_true rfl)) dX11_keyOrAll_21 ⟨Nat.le_of_ble_eq_true rfl, Nat.le_of_ble_eq_true rfl⟩) hS (fun σ_s_17 H locs hw_16 hH hS => ?_)
    obtain ⟨hO9, hF9, hM9, hw_16⟩ := hw_16
    replace hM := hM.tu hM9 (by decide)
    replace hF := hF.tu hF9 (by decide)
    have e_18 : aF σ_s_17 (ad E a 1) = f1 := (hM9.a (by decide) (by decide)).trans e_10
    have e_19 : gI σ_s_17 a 11 = a110 := (hM9.i (by decide)).trans e_11
    replace hsr := hsr.mv hM9 (by decide) (by decide) (by decide) (by decide) (by decide)
    replace hO := hO9
    have hw_16 : (gI σ_s_8 a 13 ≤ gI σ_s_17 a 13 ∧ gI σ_s_17 a 13 ≤ gI σ_s_8 a 11 ∧ 0 ≤ gI σ_s_17 a 17 ∧ gI σ_s_17 a 17 ≤ gI σ_s_17 a 13) ∧ pgo (gI σ_s_17 a 19) (gI σ_s_17 a 14) (gI σ_s_8 a 13) (gI σ_s_17 a 13) ∧ gI σ_s_17 a 19 = gI σ_s_8 a 19 := hw_16
    obtain ⟨z_20, e_21, rz_20, lz_20, uz_20⟩ := hO.gi h_a (by decide) k13_13
    obtain ⟨z_22, e_23, rz_22, lz_22, uz_22⟩ := hO.gi h_a (by decide) k13_17
    refine lv_iconst (v := I 0) hx hb dX11_keyOrAll_24 (by decide) ?_
    refine lv_istore_n (lv' := [(3, .int (I 0)), (2, .int (I z_9)), (1, .int (I z_4)), (0, .ref a)]) hx hb dX11_keyOrAll_25 rfl hl (by decide) rfl (fun ls hl => ?_)
    refine th_loop (α := Int) (pc := 26) (fun x9 => (mS f1 0 - x9).toNat) (fun x9 σ9 H9 l9 ls9 => ok y E σ9 ∧ fr [13] E σ σ9 ∧ fm [13, 14, 15, 16, 17, 18, 19, 20, 24] E σ σ9 a ∧ sr E σ9 a Bf ∧ th_H G b0 σ9 H9 ∧ va_S (th_A b0) s.heap H9 l9 ∧ lv_has ls9 5 [(0, .ref a), (1, .int (I z_4)), (2, .int (I z_9)), (3, .int (I x9))] ∧ rng x9 ∧ (0 ≤ x9) ∧ (x9 ≤ 60) ∧ (gI σ9 a 11 = a110) ∧ (gI σ9 a 13 = z_20) ∧ (gI σ9 a 17 = z_22) ∧ (aF σ9 (ad E a 1) = f1)) ?_ (0) σ_s_17 _ _ _ ⟨hO, hF, hM, hsr, hH, hS, lv_sub hl [3, 2, 1, 0] rfl, (show rng 0 from ⟨by decide, by decide⟩), by first | (dsimp only; omega) | omega, by first | (dsimp only; omega) | omega, e_19, e_21, e_23, e_18⟩
    intro x9 σ_J_200 H locs ls hI9 ihJ_200
    obtain ⟨v3q199, ex9⟩ : ∃ z, z = x9 := ⟨_, rfl⟩
    subst ex9
    obtain ⟨hO, hF, hM, hsr, hH, hS, hl, rv3q199, J_200_0, J_200_1, J_200_2, J_200_3, J_200_4, J_200_5⟩ := hI9
    have hl : lv_has ls 5 [(0, .ref a), (1, .int (I z_4)), (2, .int (I z_9)), (3, .int (I v3q199))] := hl
    have rv3q199 : rng v3q199 := rv3q199
    have J_200_0 : 0 ≤ v3q199 := J_200_0
    have J_200_1 : v3q199 ≤ 60 := J_200_1
    have J_200_2 : gI σ_J_200 a 11 = a110 := J_200_2
    have J_200_3 : gI σ_J_200 a 13 = z_20 := J_200_3
    have J_200_4 : gI σ_J_200 a 17 = z_22 := J_200_4
    have J_200_5 : aF σ_J_200 (ad E a 1) = f1 := J_200_5
    refine lv_iload_n hx hb dX11_keyOrAll_26 rfl (lv_at hl 3 rfl) ?_
    refine lv_aload_n hx hb dX11_keyOrAll_27 rfl (lv_at hl 0 rfl) ?_
    obtain ⟨_, hc_201⟩ := hO.cell h_a (by decide) (ci := 11) rfl
    refine th_calli (va_runV (As := []) (rest := [.int (I v3q199)]) ⟨hx, hb, hml, hown, hts⟩ (m_things l G y b0 σ_J_200 E hO a h_a f1 J_200_5) (cwV 0 hts gX11_keyOrAll_X11_things rfl rfl rfl (by decide +kernel) ⟨Nat.le_of_ble_eq_true rfl, Nat.le_of_ble_eq_true rfl⟩) (th_PV hK hH rfl hc_201) rfl rfl hl.1 rfl (lv_room (Nat.le_of_ble_eq_true rfl)) dX11_keyOrAll_28 ⟨Nat.le_of_ble_eq_true rfl, Nat.le_of_ble_eq_true rfl⟩) hS (fun z_204 σ_s_203 H locs rz_204 hw_202 hH hS => ?_)
    obtain ⟨e9, hw_202⟩ := hw_202
    replace e9 := e9.symm
    subst e9
    have hw_202 : z_204 = mS f1 0 := hw_202
    refine lv_icmp_ge (tgt := 164) hx hb dX11_keyOrAll_31 (by decide) (fun c_205 => ?_) (fun c_205 => ?_)
    · replace c_205 := (I_le (a := z_204) (b := v3q199) rz_204 rv3q199).mp c_205
      exact th_vret hx hb hr hlocks hH hS ⟨hO, hF, hM, by omega⟩ dX11_keyOrAll_164
    · replace c_205 := mt (I_le (a := z_204) (b := v3q199) rz_204 rv3q199).mpr c_205
      refine lv_aload_n hx hb dX11_keyOrAll_34 rfl (lv_at hl 0 rfl) ?_
      refine ok.getI hO h_a (by decide) k13_25 (fun _ _ he hv kk => th_get (ci := 11) (C := RX11) (T := TX11) (N := 66) hx hb hts inX11 hown hK hH he rfl 25 (by decide) fl0 hv dX11_keyOrAll_35 kk) (fun z_206 e_207 rz_206 lz_206 uz_206 => ?_)
      refine lv_if_eq (tgt := 164) hx hb dX11_keyOrAll_38 (by decide) (fun c_208 => ?_) (fun c_208 => ?_)
      · replace c_208 := (I_eq (a := z_206) (b := 0) rz_206 (show rng 0 from ⟨by decide, by decide⟩)).mp c_208
        exact th_vret hx hb hr hlocks hH hS ⟨hO, hF, hM, by omega⟩ dX11_keyOrAll_164
      · replace c_208 := mt (I_eq (a := z_206) (b := 0) rz_206 (show rng 0 from ⟨by decide, by decide⟩)).mpr c_208
        refine lv_aload_n hx hb dX11_keyOrAll_41 rfl (lv_at hl 0 rfl) ?_
        refine ok.getR hO h_a (by decide) k13_23 (by decide) (fun _ _ he hv kk => th_get (ci := 11) (C := RX11) (T := TX11) (N := 66) hx hb hts inX11 hown hK hH he rfl 23 (by decide) fl1 hv dX11_keyOrAll_42 kk) ?_
        refine lv_iload_n hx hb dX11_keyOrAll_45 rfl (lv_at hl 3 rfl) ?_
        refine m_zald hx hb hK hH hO h_a k13_23 rv3q199 (by omega) (by omega) dX11_keyOrAll_46 (fun z_209 rz_209 uz_209 => ?_)
        refine lv_if_eq (tgt := 158) hx hb dX11_keyOrAll_47 (by decide) (fun c_210 => ?_) (fun c_210 => ?_)
        · replace c_210 := (I_eq (a := z_209) (b := 0) rz_209 (show rng 0 from ⟨by decide, by decide⟩)).mp c_210
          refine lv_iinc (v := I (v3q199 + 1)) (lv' := [(3, .int (I (v3q199 + 1))), (0, .ref a), (1, .int (I z_4)), (2, .int (I z_9))]) hx hb dX11_keyOrAll_158 hl (k := 3) rfl (I_add _ _) (by decide) rfl (fun ls hl => ?_)
          refine lv_goto (tgt := 26) hx hb dX11_keyOrAll_161 (by decide) ?_
          exact ihJ_200 (v3q199 + 1) σ_J_200 _ _ _ (by first | (dsimp only; omega) | omega) ⟨hO, hF, hM, hsr, hH, hS, lv_sub hl [1, 2, 3, 0] rfl, ⟨by first | (dsimp only; omega) | omega, by first | (dsimp only; omega) | omega⟩, by first | (dsimp only; omega) | omega, by first | (dsimp only; omega) | omega, J_200_2, J_200_3, J_200_4, J_200_5⟩
        · replace c_210 := mt (I_eq (a := z_209) (b := 0) rz_209 (show rng 0 from ⟨by decide, by decide⟩)).mpr c_210
          refine lv_aload_n hx hb dX11_keyOrAll_50 rfl (lv_at hl 0 rfl) ?_
          refine ok.getR hO h_a (by decide) k13_1 (by decide) (fun _ _ he hv kk => th_get (ci := 11) (C := RX11) (T := TX11) (N := 66) hx hb hts inX11 hown hK hH he rfl 1 (by decide) fl2 hv dX11_keyOrAll_51 kk) ?_
          refine lv_iload_n hx hb dX11_keyOrAll_54 rfl (lv_at hl 3 rfl) ?_
          refine th_calli (va_runS (As := [.ref (ad E a 1), .int (I v3q199)]) (rest := []) ⟨hx, hb, hml, hown, hts⟩ (w_holds l G y b0 σ_J_200 E hO (ad E a 1) 240 f1 (hO.roww h_a k13_1 isA1 J_200_5 rfl) v3q199 (show rng v3q199 from rv3q199) (by omega) (by omega) (by omega)) (va_cwS 2 hts gX11_keyOrAll_X11_holds rfl rfl rfl (by decide +kernel) ⟨Nat.le_of_ble_eq_true rfl, Nat.le_of_ble_eq_true rfl⟩) (th_PS hK hH) rfl rfl hl.1 rfl (lv_room (Nat.le_of_ble_eq_true rfl)) dX11_keyOrAll_55 ⟨Nat.le_of_ble_eq_true rfl, Nat.le_of_ble_eq_true rfl⟩) hS (fun z_213 σ_s_212 H locs rz_213 hw_211 hH hS => ?_)
          obtain ⟨e9, bhw_211, hw_211⟩ := hw_211
          replace e9 := e9.symm
          subst e9
          have hw_211 : (z_213 = 1 ∧ 2 ≤ mK f1 v3q199) ∨ (z_213 = 0 ∧ ¬ 2 ≤ mK f1 v3q199) := hw_211
          refine lv_if_eq (tgt := 158) hx hb dX11_keyOrAll_58 (by decide) (fun c_214 => ?_) (fun c_214 => ?_)
          · replace c_214 := (I_eq (a := z_213) (b := 0) rz_213 (show rng 0 from ⟨by decide, by decide⟩)).mp c_214
            refine lv_iinc (v := I (v3q199 + 1)) (lv' := [(3, .int (I (v3q199 + 1))), (0, .ref a), (1, .int (I z_4)), (2, .int (I z_9))]) hx hb dX11_keyOrAll_158 hl (k := 3) rfl (I_add _ _) (by decide) rfl (fun ls hl => ?_)
            refine lv_goto (tgt := 26) hx hb dX11_keyOrAll_161 (by decide) ?_
            exact ihJ_200 (v3q199 + 1) σ_J_200 _ _ _ (by first | (dsimp only; omega) | omega) ⟨hO, hF, hM, hsr, hH, hS, lv_sub hl [1, 2, 3, 0] rfl, ⟨by first | (dsimp only; omega) | omega, by first | (dsimp only; omega) | omega⟩, by first | (dsimp only; omega) | omega, by first | (dsimp only; omega) | omega, J_200_2, J_200_3, J_200_4, J_200_5⟩
          · replace c_214 := mt (I_eq (a := z_213) (b := 0) rz_213 (show rng 0 from ⟨by decide, by decide⟩)).mpr c_214
            refine lv_iload_n hx hb dX11_keyOrAll_61 rfl (lv_at hl 1 rfl) ?_
            refine lv_if_ne (tgt := 80) hx hb dX11_keyOrAll_62 (by decide) (fun c_215 => ?_) (fun c_215 => ?_)
            · replace c_215 := mt (I_eq (a := z_4) (b := 0) rz_4 (show rng 0 from ⟨by decide, by decide⟩)).mpr c_215
              have hk3 := hy0 v3q199 (by omega) (by omega)
              refine lv_iload_n hx hb dX11_keyOrAll_80 rfl (lv_at hl 3 rfl) ?_
              refine lv_iconst (v := I 1) hx hb dX11_keyOrAll_81 (by decide) ?_
              refine lv_iadd hx hb dX11_keyOrAll_82 ?_
              refine nq_top (I_add _ _) ?_
              refine lv_istore (lv' := [(4, .int (I (v3q199 + 1))), (0, .ref a), (1, .int (I z_4)), (2, .int (I z_9)), (3, .int (I v3q199))]) hx hb dX11_keyOrAll_83 hl (by decide) rfl (fun ls hl => ?_)
              refine th_loop (α := Int) (pc := 85) (fun x9 => (v3q199 + mS f1 v3q199 - x9).toNat) (fun x9 σ9 H9 l9 ls9 => ok y E σ9 ∧ fr [13] E σ σ9 ∧ fm [13, 14, 15, 16, 17, 18, 19, 20, 24] E σ σ9 a ∧ sr E σ9 a Bf ∧ th_H G b0 σ9 H9 ∧ va_S (th_A b0) s.heap H9 l9 ∧ lv_has ls9 5 [(0, .ref a), (1, .int (I z_4)), (2, .int (I z_9)), (3, .int (I v3q199)), (4, .int (I x9))] ∧ rng x9 ∧ (v3q199 + 1 ≤ x9) ∧ (x9 ≤ v3q199 + mS f1 v3q199) ∧ (0 ≤ x9) ∧ (x9 ≤ 60) ∧ (gI σ9 a 11 = a110) ∧ (gI σ9 a 13 = z_20) ∧ (gI σ9 a 17 = z_22) ∧ (gI σ9 a 25 = z_206) ∧ (aF σ9 (ad E a 1) = f1)) ?_ (v3q199 + 1) σ_J_200 _ _ _ ⟨hO, hF, hM, hsr, hH, hS, lv_sub hl [1, 2, 3, 4, 0] rfl, ⟨by first | (dsimp only; omega) | omega, by first | (dsimp only; omega) | omega⟩, by first | (dsimp only; omega) | omega, by first | (dsimp only; omega) | omega, by first | (dsimp only; omega) | omega, by first | (dsimp only; omega) | omega, J_200_2, J_200_3, J_200_4, e_207, J_200_5⟩
              intro x9 σ_J_217 H locs ls hI9 ihJ_217
              obtain ⟨v4q216, ex9⟩ : ∃ z, z = x9 := ⟨_, rfl⟩
              subst ex9
              obtain ⟨hO, hF, hM, hsr, hH, hS, hl, rv4q216, J_217_0, J_217_1, J_217_2, J_217_3, J_217_4, J_217_5, J_217_6, J_217_7, J_217_8⟩ := hI9
              have hl : lv_has ls 5 [(0, .ref a), (1, .int (I z_4)), (2, .int (I z_9)), (3, .int (I v3q199)), (4, .int (I v4q216))] := hl
              have rv4q216 : rng v4q216 := rv4q216
              have J_217_0 : v3q199 + 1 ≤ v4q216 := J_217_0
              have J_217_1 : v4q216 ≤ v3q199 + mS f1 v3q199 := J_217_1
              have J_217_2 : 0 ≤ v4q216 := J_217_2
              have J_217_3 : v4q216 ≤ 60 := J_217_3
              have J_217_4 : gI σ_J_217 a 11 = a110 := J_217_4
              have J_217_5 : gI σ_J_217 a 13 = z_20 := J_217_5
              have J_217_6 : gI σ_J_217 a 17 = z_22 := J_217_6
              have J_217_7 : gI σ_J_217 a 25 = z_206 := J_217_7
              have J_217_8 : aF σ_J_217 (ad E a 1) = f1 := J_217_8
              refine lv_iload hx hb dX11_keyOrAll_85 (lv_at hl 4 rfl) ?_
              refine lv_iload_n hx hb dX11_keyOrAll_87 rfl (lv_at hl 3 rfl) ?_
              refine lv_aload_n hx hb dX11_keyOrAll_88 rfl (lv_at hl 0 rfl) ?_
              refine ok.getR hO h_a (by decide) k13_1 (by decide) (fun _ _ he hv kk => th_get (ci := 11) (C := RX11) (T := TX11) (N := 66) hx hb hts inX11 hown hK hH he rfl 1 (by decide) fl2 hv dX11_keyOrAll_89 kk) ?_
              refine lv_iload_n hx hb dX11_keyOrAll_92 rfl (lv_at hl 3 rfl) ?_
              refine th_calli (va_runS (As := [.ref (ad E a 1), .int (I v3q199)]) (rest := [.int (I v3q199), .int (I v4q216)]) ⟨hx, hb, hml, hown, hts⟩ (w_size l G y b0 σ_J_217 E hO (ad E a 1) 240 f1 (hO.roww h_a k13_1 isA1 J_217_8 rfl) v3q199 (show rng v3q199 from rv3q199) (by omega) (by omega) (by omega)) (va_cwS 2 hts gX11_keyOrAll_X11_size rfl rfl rfl (by decide +kernel) ⟨Nat.le_of_ble_eq_true rfl, Nat.le_of_ble_eq_true rfl⟩) (th_PS hK hH) rfl rfl hl.1 rfl (lv_room (Nat.le_of_ble_eq_true rfl)) dX11_keyOrAll_93 ⟨Nat.le_of_ble_eq_true rfl, Nat.le_of_ble_eq_true rfl⟩) hS (fun z_220 σ_s_219 H locs rz_220 hw_218 hH hS => ?_)
              obtain ⟨e9, hw_218⟩ := hw_218
              replace e9 := e9.symm
              subst e9
              have hw_218 : z_220 = mS f1 v3q199 := hw_218
              refine lv_iadd hx hb dX11_keyOrAll_96 ?_
              refine th_addo (fun z_221 rz_221 hz_221 => ?_)
              refine lv_icmp_ge (tgt := 158) hx hb dX11_keyOrAll_97 (by decide) (fun c_222 => ?_) (fun c_222 => ?_)
              · replace c_222 := (I_le (a := z_221) (b := v4q216) rz_221 rv4q216).mp c_222
                refine lv_iinc (v := I (v3q199 + 1)) (lv' := [(3, .int (I (v3q199 + 1))), (0, .ref a), (1, .int (I z_4)), (2, .int (I z_9)), (4, .int (I v4q216))]) hx hb dX11_keyOrAll_158 hl (k := 3) rfl (I_add _ _) (by decide) rfl (fun ls hl => ?_)
                refine lv_goto (tgt := 26) hx hb dX11_keyOrAll_161 (by decide) ?_
                replace hl : lv_has ls 5 [(3, .int (I (v3q199 + 1))), (0, .ref a), (1, .int (I z_4)), (2, .int (I z_9))] := lv_sub hl [0, 1, 2, 3] rfl
                exact ihJ_200 (v3q199 + 1) σ_J_217 _ _ _ (by first | (dsimp only; omega) | omega) ⟨hO, hF, hM, hsr, hH, hS, lv_sub hl [1, 2, 3, 0] rfl, ⟨by first | (dsimp only; omega) | omega, by first | (dsimp only; omega) | omega⟩, by first | (dsimp only; omega) | omega, by first | (dsimp only; omega) | omega, J_217_4, J_217_5, J_217_6, J_217_8⟩
              · replace c_222 := mt (I_le (a := z_221) (b := v4q216) rz_221 rv4q216).mpr c_222
                have hk4 := hy0 v4q216 (by omega) (by omega)
                have hk5 := hk3.2.2 v4q216 (by omega) (by omega)
                refine lv_aload_n hx hb dX11_keyOrAll_100 rfl (lv_at hl 0 rfl) ?_
                refine ok.getR hO h_a (by decide) k13_24 (by decide) (fun _ _ he hv kk => th_get (ci := 11) (C := RX11) (T := TX11) (N := 66) hx hb hts inX11 hown hK hH he rfl 24 (by decide) fl3 hv dX11_keyOrAll_101 kk) ?_
                refine lv_iload hx hb dX11_keyOrAll_104 (lv_at hl 4 rfl) ?_
                refine lv_aload_n hx hb dX11_keyOrAll_106 rfl (lv_at hl 0 rfl) ?_
                refine ok.getR hO h_a (by decide) k13_24 (by decide) (fun _ _ he hv kk => th_get (ci := 11) (C := RX11) (T := TX11) (N := 66) hx hb hts inX11 hown hK hH he rfl 24 (by decide) fl3 hv dX11_keyOrAll_107 kk) ?_
                refine lv_iload hx hb dX11_keyOrAll_110 (lv_at hl 4 rfl) ?_
                refine m_zald hx hb hK hH hO h_a k13_24 rv4q216 (by omega) (by omega) dX11_keyOrAll_112 (fun z_223 rz_223 uz_223 => ?_)
                refine lv_if_ne (tgt := 135) hx hb dX11_keyOrAll_113 (by decide) (fun c_224 => ?_) (fun c_224 => ?_)
                · replace c_224 := mt (I_eq (a := z_223) (b := 0) rz_223 (show rng 0 from ⟨by decide, by decide⟩)).mpr c_224
                  refine lv_iconst (v := I 1) hx hb dX11_keyOrAll_135 (by decide) ?_
                  refine lv_goto (tgt := 140) hx hb dX11_keyOrAll_136 (by decide) ?_
                  refine m_zast hx hb hK hH hS h00 hO h_a k13_24 (by decide) rv4q216 (by omega) (by omega) (by omega) dX11_keyOrAll_140 (fun σ_s_225 H locs hO hF9 hM9 hH hS => ?_)
                  replace hM := hM.tu hM9 (by decide)
                  replace hF := hF.tu hF9 (by decide)
                  have e_226 : gI σ_s_225 a 11 = a110 := (hM9.i (by decide)).trans J_217_4
                  have e_227 : gI σ_s_225 a 13 = z_20 := (hM9.i (by decide)).trans J_217_5
                  have e_228 : gI σ_s_225 a 17 = z_22 := (hM9.i (by decide)).trans J_217_6
                  have e_229 : gI σ_s_225 a 25 = z_206 := (hM9.i (by decide)).trans J_217_7
                  have e_230 : aF σ_s_225 (ad E a 1) = f1 := (hM9.a (by decide) (by decide)).trans J_217_8
                  replace hsr := hsr.mv hM9 (by decide) (by decide) (by decide) (by decide) (by decide)
                  refine lv_iload hx hb dX11_keyOrAll_141 (lv_at hl 4 rfl) ?_
                  refine lv_aload_n hx hb dX11_keyOrAll_143 rfl (lv_at hl 0 rfl) ?_
                  refine ok.getR hO h_a (by decide) k13_1 (by decide) (fun _ _ he hv kk => th_get (ci := 11) (C := RX11) (T := TX11) (N := 66) hx hb hts inX11 hown hK hH he rfl 1 (by decide) fl2 hv dX11_keyOrAll_144 kk) ?_
                  refine lv_iload hx hb dX11_keyOrAll_147 (lv_at hl 4 rfl) ?_
                  refine th_calli (va_runS (As := [.ref (ad E a 1), .int (I v4q216)]) (rest := [.int (I v4q216)]) ⟨hx, hb, hml, hown, hts⟩ (w_size l G y b0 σ_s_225 E hO (ad E a 1) 240 f1 (hO.roww h_a k13_1 isA1 e_230 rfl) v4q216 (show rng v4q216 from rv4q216) (by omega) (by omega) (by omega)) (va_cwS 2 hts gX11_keyOrAll_X11_size rfl rfl rfl (by decide +kernel) ⟨Nat.le_of_ble_eq_true rfl, Nat.le_of_ble_eq_true rfl⟩) (th_PS hK hH) rfl rfl hl.1 rfl (lv_room (Nat.le_of_ble_eq_true rfl)) dX11_keyOrAll_149 ⟨Nat.le_of_ble_eq_true rfl, Nat.le_of_ble_eq_true rfl⟩) hS (fun z_233 σ_s_232 H locs rz_233 hw_231 hH hS => ?_)
                  obtain ⟨e9, hw_231⟩ := hw_231
                  replace e9 := e9.symm
                  subst e9
                  have hw_231 : z_233 = mS f1 v4q216 := hw_231
                  refine lv_iadd hx hb dX11_keyOrAll_152 ?_
                  refine th_addo (fun z_234 rz_234 hz_234 => ?_)
                  refine lv_istore (lv' := [(4, .int (I z_234)), (0, .ref a), (1, .int (I z_4)), (2, .int (I z_9)), (3, .int (I v3q199))]) hx hb dX11_keyOrAll_153 hl (by decide) rfl (fun ls hl => ?_)
                  refine lv_goto (tgt := 85) hx hb dX11_keyOrAll_155 (by decide) ?_
                  exact ihJ_217 (z_234) σ_s_225 _ _ _ (by first | (dsimp only; omega) | omega) ⟨hO, hF, hM, hsr, hH, hS, lv_sub hl [1, 2, 3, 4, 0] rfl, rz_234, by first | (dsimp only; omega) | omega, by first | (dsimp only; omega) | omega, by first | (dsimp only; omega) | omega, by first | (dsimp only; omega) | omega, e_226, e_227, e_228, e_229, e_230⟩
                · replace c_224 := (I_eq (a := z_223) (b := 0) rz_223 (show rng 0 from ⟨by decide, by decide⟩)).mp c_224
                  refine lv_iload_n hx hb dX11_keyOrAll_116 rfl (lv_at hl 1 rfl) ?_
                  refine lv_if_ne (tgt := 135) hx hb dX11_keyOrAll_117 (by decide) (fun c_235 => ?_) (fun c_235 => ?_)
                  · replace c_235 := mt (I_eq (a := z_4) (b := 0) rz_4 (show rng 0 from ⟨by decide, by decide⟩)).mpr c_235
                    refine lv_iconst (v := I 1) hx hb dX11_keyOrAll_135 (by decide) ?_
                    refine lv_goto (tgt := 140) hx hb dX11_keyOrAll_136 (by decide) ?_
                    refine m_zast hx hb hK hH hS h00 hO h_a k13_24 (by decide) rv4q216 (by omega) (by omega) (by omega) dX11_keyOrAll_140 (fun σ_s_236 H locs hO hF9 hM9 hH hS => ?_)
                    replace hM := hM.tu hM9 (by decide)
                    replace hF := hF.tu hF9 (by decide)
                    have e_237 : gI σ_s_236 a 11 = a110 := (hM9.i (by decide)).trans J_217_4
                    have e_238 : gI σ_s_236 a 13 = z_20 := (hM9.i (by decide)).trans J_217_5
                    have e_239 : gI σ_s_236 a 17 = z_22 := (hM9.i (by decide)).trans J_217_6
                    have e_240 : gI σ_s_236 a 25 = z_206 := (hM9.i (by decide)).trans J_217_7
                    have e_241 : aF σ_s_236 (ad E a 1) = f1 := (hM9.a (by decide) (by decide)).trans J_217_8
                    replace hsr := hsr.mv hM9 (by decide) (by decide) (by decide) (by decide) (by decide)
                    refine lv_iload hx hb dX11_keyOrAll_141 (lv_at hl 4 rfl) ?_
                    refine lv_aload_n hx hb dX11_keyOrAll_143 rfl (lv_at hl 0 rfl) ?_
                    refine ok.getR hO h_a (by decide) k13_1 (by decide) (fun _ _ he hv kk => th_get (ci := 11) (C := RX11) (T := TX11) (N := 66) hx hb hts inX11 hown hK hH he rfl 1 (by decide) fl2 hv dX11_keyOrAll_144 kk) ?_
                    refine lv_iload hx hb dX11_keyOrAll_147 (lv_at hl 4 rfl) ?_
                    refine th_calli (va_runS (As := [.ref (ad E a 1), .int (I v4q216)]) (rest := [.int (I v4q216)]) ⟨hx, hb, hml, hown, hts⟩ (w_size l G y b0 σ_s_236 E hO (ad E a 1) 240 f1 (hO.roww h_a k13_1 isA1 e_241 rfl) v4q216 (show rng v4q216 from rv4q216) (by omega) (by omega) (by omega)) (va_cwS 2 hts gX11_keyOrAll_X11_size rfl rfl rfl (by decide +kernel) ⟨Nat.le_of_ble_eq_true rfl, Nat.le_of_ble_eq_true rfl⟩) (th_PS hK hH) rfl rfl hl.1 rfl (lv_room (Nat.le_of_ble_eq_true rfl)) dX11_keyOrAll_149 ⟨Nat.le_of_ble_eq_true rfl, Nat.le_of_ble_eq_true rfl⟩) hS (fun z_244 σ_s_243 H locs rz_244 hw_242 hH hS => ?_)
                    obtain ⟨e9, hw_242⟩ := hw_242
                    replace e9 := e9.symm
                    subst e9
                    have hw_242 : z_244 = mS f1 v4q216 := hw_242
                    refine lv_iadd hx hb dX11_keyOrAll_152 ?_
                    refine th_addo (fun z_245 rz_245 hz_245 => ?_)
                    refine lv_istore (lv' := [(4, .int (I z_245)), (0, .ref a), (1, .int (I z_4)), (2, .int (I z_9)), (3, .int (I v3q199))]) hx hb dX11_keyOrAll_153 hl (by decide) rfl (fun ls hl => ?_)
                    refine lv_goto (tgt := 85) hx hb dX11_keyOrAll_155 (by decide) ?_
                    exact ihJ_217 (z_245) σ_s_236 _ _ _ (by first | (dsimp only; omega) | omega) ⟨hO, hF, hM, hsr, hH, hS, lv_sub hl [1, 2, 3, 4, 0] rfl, rz_245, by first | (dsimp only; omega) | omega, by first | (dsimp only; omega) | omega, by first | (dsimp only; omega) | omega, by first | (dsimp only; omega) | omega, e_237, e_238, e_239, e_240, e_241⟩
                  · replace c_235 := (I_eq (a := z_4) (b := 0) rz_4 (show rng 0 from ⟨by decide, by decide⟩)).mp c_235
                    refine lv_aload_n hx hb dX11_keyOrAll_120 rfl (lv_at hl 0 rfl) ?_
                    refine ok.getR hO h_a (by decide) k13_1 (by decide) (fun _ _ he hv kk => th_get (ci := 11) (C := RX11) (T := TX11) (N := 66) hx hb hts inX11 hown hK hH he rfl 1 (by decide) fl2 hv dX11_keyOrAll_121 kk) ?_
                    refine lv_iconst (v := I 4) hx hb dX11_keyOrAll_124 (by decide) ?_
                    refine lv_iload hx hb dX11_keyOrAll_125 (lv_at hl 4 rfl) ?_
                    refine lv_imul hx hb dX11_keyOrAll_127 ?_
                    refine nq_top (I_mul _ _) ?_
                    refine lv_iconst (v := I 2) hx hb dX11_keyOrAll_128 (by decide) ?_
                    refine lv_iadd hx hb dX11_keyOrAll_129 ?_
                    refine nq_top (I_add _ _) ?_
                    refine m_iald hx hb hK hH hO h_a k13_1 isA1 J_217_8 ⟨by omega, by omega⟩ (by omega) (by omega) dX11_keyOrAll_130 (fun z_246 ez_246 rz_246 elx9 => ?_)
                    refine lv_iload_n hx hb dX11_keyOrAll_131 rfl (lv_at hl 2 rfl) ?_
                    refine lv_icmp_ne (tgt := 139) hx hb dX11_keyOrAll_132 (by decide) (fun c_247 => ?_) (fun c_247 => ?_)
                    · replace c_247 := mt (I_eq (a := z_246) (b := z_9) rz_246 rz_9).mpr c_247
                      refine lv_iconst (v := I 0) hx hb dX11_keyOrAll_139 (by decide) ?_
                      refine m_zast hx hb hK hH hS h00 hO h_a k13_24 (by decide) rv4q216 (by omega) (by omega) (by omega) dX11_keyOrAll_140 (fun σ_s_248 H locs hO hF9 hM9 hH hS => ?_)
                      replace hM := hM.tu hM9 (by decide)
                      replace hF := hF.tu hF9 (by decide)
                      have e_249 : gI σ_s_248 a 11 = a110 := (hM9.i (by decide)).trans J_217_4
                      have e_250 : gI σ_s_248 a 13 = z_20 := (hM9.i (by decide)).trans J_217_5
                      have e_251 : gI σ_s_248 a 17 = z_22 := (hM9.i (by decide)).trans J_217_6
                      have e_252 : gI σ_s_248 a 25 = z_206 := (hM9.i (by decide)).trans J_217_7
                      have e_253 : aF σ_s_248 (ad E a 1) = f1 := (hM9.a (by decide) (by decide)).trans J_217_8
                      replace hsr := hsr.mv hM9 (by decide) (by decide) (by decide) (by decide) (by decide)
                      refine lv_iload hx hb dX11_keyOrAll_141 (lv_at hl 4 rfl) ?_
                      refine lv_aload_n hx hb dX11_keyOrAll_143 rfl (lv_at hl 0 rfl) ?_
                      refine ok.getR hO h_a (by decide) k13_1 (by decide) (fun _ _ he hv kk => th_get (ci := 11) (C := RX11) (T := TX11) (N := 66) hx hb hts inX11 hown hK hH he rfl 1 (by decide) fl2 hv dX11_keyOrAll_144 kk) ?_
                      refine lv_iload hx hb dX11_keyOrAll_147 (lv_at hl 4 rfl) ?_
                      refine th_calli (va_runS (As := [.ref (ad E a 1), .int (I v4q216)]) (rest := [.int (I v4q216)]) ⟨hx, hb, hml, hown, hts⟩ (w_size l G y b0 σ_s_248 E hO (ad E a 1) 240 f1 (hO.roww h_a k13_1 isA1 e_253 rfl) v4q216 (show rng v4q216 from rv4q216) (by omega) (by omega) (by omega)) (va_cwS 2 hts gX11_keyOrAll_X11_size rfl rfl rfl (by decide +kernel) ⟨Nat.le_of_ble_eq_true rfl, Nat.le_of_ble_eq_true rfl⟩) (th_PS hK hH) rfl rfl hl.1 rfl (lv_room (Nat.le_of_ble_eq_true rfl)) dX11_keyOrAll_149 ⟨Nat.le_of_ble_eq_true rfl, Nat.le_of_ble_eq_true rfl⟩) hS (fun z_256 σ_s_255 H locs rz_256 hw_254 hH hS => ?_)
                      obtain ⟨e9, hw_254⟩ := hw_254
                      replace e9 := e9.symm
                      subst e9
                      have hw_254 : z_256 = mS f1 v4q216 := hw_254
                      refine lv_iadd hx hb dX11_keyOrAll_152 ?_
                      refine th_addo (fun z_257 rz_257 hz_257 => ?_)
                      refine lv_istore (lv' := [(4, .int (I z_257)), (0, .ref a), (1, .int (I z_4)), (2, .int (I z_9)), (3, .int (I v3q199))]) hx hb dX11_keyOrAll_153 hl (by decide) rfl (fun ls hl => ?_)
                      refine lv_goto (tgt := 85) hx hb dX11_keyOrAll_155 (by decide) ?_
                      exact ihJ_217 (z_257) σ_s_248 _ _ _ (by first | (dsimp only; omega) | omega) ⟨hO, hF, hM, hsr, hH, hS, lv_sub hl [1, 2, 3, 4, 0] rfl, rz_257, by first | (dsimp only; omega) | omega, by first | (dsimp only; omega) | omega, by first | (dsimp only; omega) | omega, by first | (dsimp only; omega) | omega, e_249, e_250, e_251, e_252, e_253⟩
                    · replace c_247 := (I_eq (a := z_246) (b := z_9) rz_246 rz_9).mp c_247
                      refine lv_iconst (v := I 1) hx hb dX11_keyOrAll_135 (by decide) ?_
                      refine lv_goto (tgt := 140) hx hb dX11_keyOrAll_136 (by decide) ?_
                      refine m_zast hx hb hK hH hS h00 hO h_a k13_24 (by decide) rv4q216 (by omega) (by omega) (by omega) dX11_keyOrAll_140 (fun σ_s_258 H locs hO hF9 hM9 hH hS => ?_)
                      replace hM := hM.tu hM9 (by decide)
                      replace hF := hF.tu hF9 (by decide)
                      have e_259 : gI σ_s_258 a 11 = a110 := (hM9.i (by decide)).trans J_217_4
                      have e_260 : gI σ_s_258 a 13 = z_20 := (hM9.i (by decide)).trans J_217_5
                      have e_261 : gI σ_s_258 a 17 = z_22 := (hM9.i (by decide)).trans J_217_6
                      have e_262 : gI σ_s_258 a 25 = z_206 := (hM9.i (by decide)).trans J_217_7
                      have e_263 : aF σ_s_258 (ad E a 1) = f1 := (hM9.a (by decide) (by decide)).trans J_217_8
                      replace hsr := hsr.mv hM9 (by decide) (by decide) (by decide) (by decide) (by decide)
                      refine lv_iload hx hb dX11_keyOrAll_141 (lv_at hl 4 rfl) ?_
                      refine lv_aload_n hx hb dX11_keyOrAll_143 rfl (lv_at hl 0 rfl) ?_
                      refine ok.getR hO h_a (by decide) k13_1 (by decide) (fun _ _ he hv kk => th_get (ci := 11) (C := RX11) (T := TX11) (N := 66) hx hb hts inX11 hown hK hH he rfl 1 (by decide) fl2 hv dX11_keyOrAll_144 kk) ?_
                      refine lv_iload hx hb dX11_keyOrAll_147 (lv_at hl 4 rfl) ?_
                      refine th_calli (va_runS (As := [.ref (ad E a 1), .int (I v4q216)]) (rest := [.int (I v4q216)]) ⟨hx, hb, hml, hown, hts⟩ (w_size l G y b0 σ_s_258 E hO (ad E a 1) 240 f1 (hO.roww h_a k13_1 isA1 e_263 rfl) v4q216 (show rng v4q216 from rv4q216) (by omega) (by omega) (by omega)) (va_cwS 2 hts gX11_keyOrAll_X11_size rfl rfl rfl (by decide +kernel) ⟨Nat.le_of_ble_eq_true rfl, Nat.le_of_ble_eq_true rfl⟩) (th_PS hK hH) rfl rfl hl.1 rfl (lv_room (Nat.le_of_ble_eq_true rfl)) dX11_keyOrAll_149 ⟨Nat.le_of_ble_eq_true rfl, Nat.le_of_ble_eq_true rfl⟩) hS (fun z_266 σ_s_265 H locs rz_266 hw_264 hH hS => ?_)
                      obtain ⟨e9, hw_264⟩ := hw_264
                      replace e9 := e9.symm
                      subst e9
                      have hw_264 : z_266 = mS f1 v4q216 := hw_264
                      refine lv_iadd hx hb dX11_keyOrAll_152 ?_
                      refine th_addo (fun z_267 rz_267 hz_267 => ?_)
                      refine lv_istore (lv' := [(4, .int (I z_267)), (0, .ref a), (1, .int (I z_4)), (2, .int (I z_9)), (3, .int (I v3q199))]) hx hb dX11_keyOrAll_153 hl (by decide) rfl (fun ls hl => ?_)
                      refine lv_goto (tgt := 85) hx hb dX11_keyOrAll_155 (by decide) ?_
                      exact ihJ_217 (z_267) σ_s_258 _ _ _ (by first | (dsimp only; omega) | omega) ⟨hO, hF, hM, hsr, hH, hS, lv_sub hl [1, 2, 3, 4, 0] rfl, rz_267, by first | (dsimp only; omega) | omega, by first | (dsimp only; omega) | omega, by first | (dsimp only; omega) | omega, by first | (dsimp only; omega) | omega, e_259, e_260, e_261, e_262, e_263⟩
            · replace c_215 := (I_eq (a := z_4) (b := 0) rz_4 (show rng 0 from ⟨by decide, by decide⟩)).mp c_215
              refine lv_aload_n hx hb dX11_keyOrAll_65 rfl (lv_at hl 0 rfl) ?_
              refine ok.getR hO h_a (by decide) k13_1 (by decide) (fun _ _ he hv kk => th_get (ci := 11) (C := RX11) (T := TX11) (N := 66) hx hb hts inX11 hown hK hH he rfl 1 (by decide) fl2 hv dX11_keyOrAll_66 kk) ?_
              refine lv_iload_n hx hb dX11_keyOrAll_69 rfl (lv_at hl 3 rfl) ?_
              refine th_calli (va_runS (As := [.ref (ad E a 1), .int (I v3q199)]) (rest := []) ⟨hx, hb, hml, hown, hts⟩ (w_kind l G y b0 σ_J_200 E hO (ad E a 1) 240 f1 (hO.roww h_a k13_1 isA1 J_200_5 rfl) v3q199 (show rng v3q199 from rv3q199) (by omega) (by omega) (by omega)) (va_cwS 2 hts gX11_keyOrAll_X11_kind rfl rfl rfl (by decide +kernel) ⟨Nat.le_of_ble_eq_true rfl, Nat.le_of_ble_eq_true rfl⟩) (th_PS hK hH) rfl rfl hl.1 rfl (lv_room (Nat.le_of_ble_eq_true rfl)) dX11_keyOrAll_70 ⟨Nat.le_of_ble_eq_true rfl, Nat.le_of_ble_eq_true rfl⟩) hS (fun z_270 σ_s_269 H locs rz_270 hw_268 hH hS => ?_)
              obtain ⟨e9, hw_268⟩ := hw_268
              replace e9 := e9.symm
              subst e9
              have hw_268 : z_270 = mK f1 v3q199 := hw_268
              refine lv_iconst (v := I 3) hx hb dX11_keyOrAll_73 (by decide) ?_
              refine lv_icmp_eq (tgt := 80) hx hb dX11_keyOrAll_74 (by decide) (fun c_271 => ?_) (fun c_271 => ?_)
              · replace c_271 := (I_eq (a := z_270) (b := 3) rz_270 (show rng 3 from ⟨by decide, by decide⟩)).mp c_271
                have hk3 := hy0 v3q199 (by omega) (by omega)
                refine lv_iload_n hx hb dX11_keyOrAll_80 rfl (lv_at hl 3 rfl) ?_
                refine lv_iconst (v := I 1) hx hb dX11_keyOrAll_81 (by decide) ?_
                refine lv_iadd hx hb dX11_keyOrAll_82 ?_
                refine nq_top (I_add _ _) ?_
                refine lv_istore (lv' := [(4, .int (I (v3q199 + 1))), (0, .ref a), (1, .int (I z_4)), (2, .int (I z_9)), (3, .int (I v3q199))]) hx hb dX11_keyOrAll_83 hl (by decide) rfl (fun ls hl => ?_)
                refine th_loop (α := Int) (pc := 85) (fun x9 => (v3q199 + mS f1 v3q199 - x9).toNat) (fun x9 σ9 H9 l9 ls9 => ok y E σ9 ∧ fr [13] E σ σ9 ∧ fm [13, 14, 15, 16, 17, 18, 19, 20, 24] E σ σ9 a ∧ sr E σ9 a Bf ∧ th_H G b0 σ9 H9 ∧ va_S (th_A b0) s.heap H9 l9 ∧ lv_has ls9 5 [(0, .ref a), (1, .int (I z_4)), (2, .int (I z_9)), (3, .int (I v3q199)), (4, .int (I x9))] ∧ rng x9 ∧ (v3q199 + 1 ≤ x9) ∧ (x9 ≤ v3q199 + mS f1 v3q199) ∧ (0 ≤ x9) ∧ (x9 ≤ 60) ∧ (gI σ9 a 11 = a110) ∧ (gI σ9 a 13 = z_20) ∧ (gI σ9 a 17 = z_22) ∧ (gI σ9 a 25 = z_206) ∧ (aF σ9 (ad E a 1) = f1)) ?_ (v3q199 + 1) σ_J_200 _ _ _ ⟨hO, hF, hM, hsr, hH, hS, lv_sub hl [1, 2, 3, 4, 0] rfl, ⟨by first | (dsimp only; omega) | omega, by first | (dsimp only; omega) | omega⟩, by first | (dsimp only; omega) | omega, by first | (dsimp only; omega) | omega, by first | (dsimp only; omega) | omega, by first | (dsimp only; omega) | omega, J_200_2, J_200_3, J_200_4, e_207, J_200_5⟩
                intro x9 σ_J_273 H locs ls hI9 ihJ_273
                obtain ⟨v4q272, ex9⟩ : ∃ z, z = x9 := ⟨_, rfl⟩
                subst ex9
                obtain ⟨hO, hF, hM, hsr, hH, hS, hl, rv4q272, J_273_0, J_273_1, J_273_2, J_273_3, J_273_4, J_273_5, J_273_6, J_273_7, J_273_8⟩ := hI9
                have hl : lv_has ls 5 [(0, .ref a), (1, .int (I z_4)), (2, .int (I z_9)), (3, .int (I v3q199)), (4, .int (I v4q272))] := hl
                have rv4q272 : rng v4q272 := rv4q272
                have J_273_0 : v3q199 + 1 ≤ v4q272 := J_273_0
                have J_273_1 : v4q272 ≤ v3q199 + mS f1 v3q199 := J_273_1
                have J_273_2 : 0 ≤ v4q272 := J_273_2
                have J_273_3 : v4q272 ≤ 60 := J_273_3
                have J_273_4 : gI σ_J_273 a 11 = a110 := J_273_4
                have J_273_5 : gI σ_J_273 a 13 = z_20 := J_273_5
                have J_273_6 : gI σ_J_273 a 17 = z_22 := J_273_6
                have J_273_7 : gI σ_J_273 a 25 = z_206 := J_273_7
                have J_273_8 : aF σ_J_273 (ad E a 1) = f1 := J_273_8
                refine lv_iload hx hb dX11_keyOrAll_85 (lv_at hl 4 rfl) ?_
                refine lv_iload_n hx hb dX11_keyOrAll_87 rfl (lv_at hl 3 rfl) ?_
                refine lv_aload_n hx hb dX11_keyOrAll_88 rfl (lv_at hl 0 rfl) ?_
                refine ok.getR hO h_a (by decide) k13_1 (by decide) (fun _ _ he hv kk => th_get (ci := 11) (C := RX11) (T := TX11) (N := 66) hx hb hts inX11 hown hK hH he rfl 1 (by decide) fl2 hv dX11_keyOrAll_89 kk) ?_
                refine lv_iload_n hx hb dX11_keyOrAll_92 rfl (lv_at hl 3 rfl) ?_
                refine th_calli (va_runS (As := [.ref (ad E a 1), .int (I v3q199)]) (rest := [.int (I v3q199), .int (I v4q272)]) ⟨hx, hb, hml, hown, hts⟩ (w_size l G y b0 σ_J_273 E hO (ad E a 1) 240 f1 (hO.roww h_a k13_1 isA1 J_273_8 rfl) v3q199 (show rng v3q199 from rv3q199) (by omega) (by omega) (by omega)) (va_cwS 2 hts gX11_keyOrAll_X11_size rfl rfl rfl (by decide +kernel) ⟨Nat.le_of_ble_eq_true rfl, Nat.le_of_ble_eq_true rfl⟩) (th_PS hK hH) rfl rfl hl.1 rfl (lv_room (Nat.le_of_ble_eq_true rfl)) dX11_keyOrAll_93 ⟨Nat.le_of_ble_eq_true rfl, Nat.le_of_ble_eq_true rfl⟩) hS (fun z_276 σ_s_275 H locs rz_276 hw_274 hH hS => ?_)
                obtain ⟨e9, hw_274⟩ := hw_274
                replace e9 := e9.symm
                subst e9
                have hw_274 : z_276 = mS f1 v3q199 := hw_274
                refine lv_iadd hx hb dX11_keyOrAll_96 ?_
                refine th_addo (fun z_277 rz_277 hz_277 => ?_)
                refine lv_icmp_ge (tgt := 158) hx hb dX11_keyOrAll_97 (by decide) (fun c_278 => ?_) (fun c_278 => ?_)
                · replace c_278 := (I_le (a := z_277) (b := v4q272) rz_277 rv4q272).mp c_278
                  refine lv_iinc (v := I (v3q199 + 1)) (lv' := [(3, .int (I (v3q199 + 1))), (0, .ref a), (1, .int (I z_4)), (2, .int (I z_9)), (4, .int (I v4q272))]) hx hb dX11_keyOrAll_158 hl (k := 3) rfl (I_add _ _) (by decide) rfl (fun ls hl => ?_)
                  refine lv_goto (tgt := 26) hx hb dX11_keyOrAll_161 (by decide) ?_
                  replace hl : lv_has ls 5 [(3, .int (I (v3q199 + 1))), (0, .ref a), (1, .int (I z_4)), (2, .int (I z_9))] := lv_sub hl [0, 1, 2, 3] rfl
                  exact ihJ_200 (v3q199 + 1) σ_J_273 _ _ _ (by first | (dsimp only; omega) | omega) ⟨hO, hF, hM, hsr, hH, hS, lv_sub hl [1, 2, 3, 0] rfl, ⟨by first | (dsimp only; omega) | omega, by first | (dsimp only; omega) | omega⟩, by first | (dsimp only; omega) | omega, by first | (dsimp only; omega) | omega, J_273_4, J_273_5, J_273_6, J_273_8⟩
                · replace c_278 := mt (I_le (a := z_277) (b := v4q272) rz_277 rv4q272).mpr c_278
                  have hk4 := hy0 v4q272 (by omega) (by omega)
                  have hk5 := hk3.2.2 v4q272 (by omega) (by omega)
                  refine lv_aload_n hx hb dX11_keyOrAll_100 rfl (lv_at hl 0 rfl) ?_
                  refine ok.getR hO h_a (by decide) k13_24 (by decide) (fun _ _ he hv kk => th_get (ci := 11) (C := RX11) (T := TX11) (N := 66) hx hb hts inX11 hown hK hH he rfl 24 (by decide) fl3 hv dX11_keyOrAll_101 kk) ?_
                  refine lv_iload hx hb dX11_keyOrAll_104 (lv_at hl 4 rfl) ?_
                  refine lv_aload_n hx hb dX11_keyOrAll_106 rfl (lv_at hl 0 rfl) ?_
                  refine ok.getR hO h_a (by decide) k13_24 (by decide) (fun _ _ he hv kk => th_get (ci := 11) (C := RX11) (T := TX11) (N := 66) hx hb hts inX11 hown hK hH he rfl 24 (by decide) fl3 hv dX11_keyOrAll_107 kk) ?_
                  refine lv_iload hx hb dX11_keyOrAll_110 (lv_at hl 4 rfl) ?_
                  refine m_zald hx hb hK hH hO h_a k13_24 rv4q272 (by omega) (by omega) dX11_keyOrAll_112 (fun z_279 rz_279 uz_279 => ?_)
                  refine lv_if_ne (tgt := 135) hx hb dX11_keyOrAll_113 (by decide) (fun c_280 => ?_) (fun c_280 => ?_)
                  · replace c_280 := mt (I_eq (a := z_279) (b := 0) rz_279 (show rng 0 from ⟨by decide, by decide⟩)).mpr c_280
                    refine lv_iconst (v := I 1) hx hb dX11_keyOrAll_135 (by decide) ?_
                    refine lv_goto (tgt := 140) hx hb dX11_keyOrAll_136 (by decide) ?_
                    refine m_zast hx hb hK hH hS h00 hO h_a k13_24 (by decide) rv4q272 (by omega) (by omega) (by omega) dX11_keyOrAll_140 (fun σ_s_281 H locs hO hF9 hM9 hH hS => ?_)
                    replace hM := hM.tu hM9 (by decide)
                    replace hF := hF.tu hF9 (by decide)
                    have e_282 : gI σ_s_281 a 11 = a110 := (hM9.i (by decide)).trans J_273_4
                    have e_283 : gI σ_s_281 a 13 = z_20 := (hM9.i (by decide)).trans J_273_5
                    have e_284 : gI σ_s_281 a 17 = z_22 := (hM9.i (by decide)).trans J_273_6
                    have e_285 : gI σ_s_281 a 25 = z_206 := (hM9.i (by decide)).trans J_273_7
                    have e_286 : aF σ_s_281 (ad E a 1) = f1 := (hM9.a (by decide) (by decide)).trans J_273_8
                    replace hsr := hsr.mv hM9 (by decide) (by decide) (by decide) (by decide) (by decide)
                    refine lv_iload hx hb dX11_keyOrAll_141 (lv_at hl 4 rfl) ?_
                    refine lv_aload_n hx hb dX11_keyOrAll_143 rfl (lv_at hl 0 rfl) ?_
                    refine ok.getR hO h_a (by decide) k13_1 (by decide) (fun _ _ he hv kk => th_get (ci := 11) (C := RX11) (T := TX11) (N := 66) hx hb hts inX11 hown hK hH he rfl 1 (by decide) fl2 hv dX11_keyOrAll_144 kk) ?_
                    refine lv_iload hx hb dX11_keyOrAll_147 (lv_at hl 4 rfl) ?_
                    refine th_calli (va_runS (As := [.ref (ad E a 1), .int (I v4q272)]) (rest := [.int (I v4q272)]) ⟨hx, hb, hml, hown, hts⟩ (w_size l G y b0 σ_s_281 E hO (ad E a 1) 240 f1 (hO.roww h_a k13_1 isA1 e_286 rfl) v4q272 (show rng v4q272 from rv4q272) (by omega) (by omega) (by omega)) (va_cwS 2 hts gX11_keyOrAll_X11_size rfl rfl rfl (by decide +kernel) ⟨Nat.le_of_ble_eq_true rfl, Nat.le_of_ble_eq_true rfl⟩) (th_PS hK hH) rfl rfl hl.1 rfl (lv_room (Nat.le_of_ble_eq_true rfl)) dX11_keyOrAll_149 ⟨Nat.le_of_ble_eq_true rfl, Nat.le_of_ble_eq_true rfl⟩) hS (fun z_289 σ_s_288 H locs rz_289 hw_287 hH hS => ?_)
                    obtain ⟨e9, hw_287⟩ := hw_287
                    replace e9 := e9.symm
                    subst e9
                    have hw_287 : z_289 = mS f1 v4q272 := hw_287
                    refine lv_iadd hx hb dX11_keyOrAll_152 ?_
                    refine th_addo (fun z_290 rz_290 hz_290 => ?_)
                    refine lv_istore (lv' := [(4, .int (I z_290)), (0, .ref a), (1, .int (I z_4)), (2, .int (I z_9)), (3, .int (I v3q199))]) hx hb dX11_keyOrAll_153 hl (by decide) rfl (fun ls hl => ?_)
                    refine lv_goto (tgt := 85) hx hb dX11_keyOrAll_155 (by decide) ?_
                    exact ihJ_273 (z_290) σ_s_281 _ _ _ (by first | (dsimp only; omega) | omega) ⟨hO, hF, hM, hsr, hH, hS, lv_sub hl [1, 2, 3, 4, 0] rfl, rz_290, by first | (dsimp only; omega) | omega, by first | (dsimp only; omega) | omega, by first | (dsimp only; omega) | omega, by first | (dsimp only; omega) | omega, e_282, e_283, e_284, e_285, e_286⟩
                  · replace c_280 := (I_eq (a := z_279) (b := 0) rz_279 (show rng 0 from ⟨by decide, by decide⟩)).mp c_280
                    refine lv_iload_n hx hb dX11_keyOrAll_116 rfl (lv_at hl 1 rfl) ?_
                    refine lv_if_ne (tgt := 135) hx hb dX11_keyOrAll_117 (by decide) (fun c_291 => ?_) (fun c_291 => ?_)
                    · replace c_291 := mt (I_eq (a := z_4) (b := 0) rz_4 (show rng 0 from ⟨by decide, by decide⟩)).mpr c_291
                      refine lv_iconst (v := I 1) hx hb dX11_keyOrAll_135 (by decide) ?_
                      refine lv_goto (tgt := 140) hx hb dX11_keyOrAll_136 (by decide) ?_
                      refine m_zast hx hb hK hH hS h00 hO h_a k13_24 (by decide) rv4q272 (by omega) (by omega) (by omega) dX11_keyOrAll_140 (fun σ_s_292 H locs hO hF9 hM9 hH hS => ?_)
                      replace hM := hM.tu hM9 (by decide)
                      replace hF := hF.tu hF9 (by decide)
                      have e_293 : gI σ_s_292 a 11 = a110 := (hM9.i (by decide)).trans J_273_4
                      have e_294 : gI σ_s_292 a 13 = z_20 := (hM9.i (by decide)).trans J_273_5
                      have e_295 : gI σ_s_292 a 17 = z_22 := (hM9.i (by decide)).trans J_273_6
                      have e_296 : gI σ_s_292 a 25 = z_206 := (hM9.i (by decide)).trans J_273_7
                      have e_297 : aF σ_s_292 (ad E a 1) = f1 := (hM9.a (by decide) (by decide)).trans J_273_8
                      replace hsr := hsr.mv hM9 (by decide) (by decide) (by decide) (by decide) (by decide)
                      refine lv_iload hx hb dX11_keyOrAll_141 (lv_at hl 4 rfl) ?_
                      refine lv_aload_n hx hb dX11_keyOrAll_143 rfl (lv_at hl 0 rfl) ?_
                      refine ok.getR hO h_a (by decide) k13_1 (by decide) (fun _ _ he hv kk => th_get (ci := 11) (C := RX11) (T := TX11) (N := 66) hx hb hts inX11 hown hK hH he rfl 1 (by decide) fl2 hv dX11_keyOrAll_144 kk) ?_
                      refine lv_iload hx hb dX11_keyOrAll_147 (lv_at hl 4 rfl) ?_
                      refine th_calli (va_runS (As := [.ref (ad E a 1), .int (I v4q272)]) (rest := [.int (I v4q272)]) ⟨hx, hb, hml, hown, hts⟩ (w_size l G y b0 σ_s_292 E hO (ad E a 1) 240 f1 (hO.roww h_a k13_1 isA1 e_297 rfl) v4q272 (show rng v4q272 from rv4q272) (by omega) (by omega) (by omega)) (va_cwS 2 hts gX11_keyOrAll_X11_size rfl rfl rfl (by decide +kernel) ⟨Nat.le_of_ble_eq_true rfl, Nat.le_of_ble_eq_true rfl⟩) (th_PS hK hH) rfl rfl hl.1 rfl (lv_room (Nat.le_of_ble_eq_true rfl)) dX11_keyOrAll_149 ⟨Nat.le_of_ble_eq_true rfl, Nat.le_of_ble_eq_true rfl⟩) hS (fun z_300 σ_s_299 H locs rz_300 hw_298 hH hS => ?_)
                      obtain ⟨e9, hw_298⟩ := hw_298
                      replace e9 := e9.symm
                      subst e9
                      have hw_298 : z_300 = mS f1 v4q272 := hw_298
                      refine lv_iadd hx hb dX11_keyOrAll_152 ?_
                      refine th_addo (fun z_301 rz_301 hz_301 => ?_)
                      refine lv_istore (lv' := [(4, .int (I z_301)), (0, .ref a), (1, .int (I z_4)), (2, .int (I z_9)), (3, .int (I v3q199))]) hx hb dX11_keyOrAll_153 hl (by decide) rfl (fun ls hl => ?_)
                      refine lv_goto (tgt := 85) hx hb dX11_keyOrAll_155 (by decide) ?_
                      exact ihJ_273 (z_301) σ_s_292 _ _ _ (by first | (dsimp only; omega) | omega) ⟨hO, hF, hM, hsr, hH, hS, lv_sub hl [1, 2, 3, 4, 0] rfl, rz_301, by first | (dsimp only; omega) | omega, by first | (dsimp only; omega) | omega, by first | (dsimp only; omega) | omega, by first | (dsimp only; omega) | omega, e_293, e_294, e_295, e_296, e_297⟩
                    · replace c_291 := (I_eq (a := z_4) (b := 0) rz_4 (show rng 0 from ⟨by decide, by decide⟩)).mp c_291
                      refine lv_aload_n hx hb dX11_keyOrAll_120 rfl (lv_at hl 0 rfl) ?_
                      refine ok.getR hO h_a (by decide) k13_1 (by decide) (fun _ _ he hv kk => th_get (ci := 11) (C := RX11) (T := TX11) (N := 66) hx hb hts inX11 hown hK hH he rfl 1 (by decide) fl2 hv dX11_keyOrAll_121 kk) ?_
                      refine lv_iconst (v := I 4) hx hb dX11_keyOrAll_124 (by decide) ?_
                      refine lv_iload hx hb dX11_keyOrAll_125 (lv_at hl 4 rfl) ?_
                      refine lv_imul hx hb dX11_keyOrAll_127 ?_
                      refine nq_top (I_mul _ _) ?_
                      refine lv_iconst (v := I 2) hx hb dX11_keyOrAll_128 (by decide) ?_
                      refine lv_iadd hx hb dX11_keyOrAll_129 ?_
                      refine nq_top (I_add _ _) ?_
                      refine m_iald hx hb hK hH hO h_a k13_1 isA1 J_273_8 ⟨by omega, by omega⟩ (by omega) (by omega) dX11_keyOrAll_130 (fun z_302 ez_302 rz_302 elx9 => ?_)
                      refine lv_iload_n hx hb dX11_keyOrAll_131 rfl (lv_at hl 2 rfl) ?_
                      refine lv_icmp_ne (tgt := 139) hx hb dX11_keyOrAll_132 (by decide) (fun c_303 => ?_) (fun c_303 => ?_)
                      · replace c_303 := mt (I_eq (a := z_302) (b := z_9) rz_302 rz_9).mpr c_303
                        refine lv_iconst (v := I 0) hx hb dX11_keyOrAll_139 (by decide) ?_
                        refine m_zast hx hb hK hH hS h00 hO h_a k13_24 (by decide) rv4q272 (by omega) (by omega) (by omega) dX11_keyOrAll_140 (fun σ_s_304 H locs hO hF9 hM9 hH hS => ?_)
                        replace hM := hM.tu hM9 (by decide)
                        replace hF := hF.tu hF9 (by decide)
                        have e_305 : gI σ_s_304 a 11 = a110 := (hM9.i (by decide)).trans J_273_4
                        have e_306 : gI σ_s_304 a 13 = z_20 := (hM9.i (by decide)).trans J_273_5
                        have e_307 : gI σ_s_304 a 17 = z_22 := (hM9.i (by decide)).trans J_273_6
                        have e_308 : gI σ_s_304 a 25 = z_206 := (hM9.i (by decide)).trans J_273_7
                        have e_309 : aF σ_s_304 (ad E a 1) = f1 := (hM9.a (by decide) (by decide)).trans J_273_8
                        replace hsr := hsr.mv hM9 (by decide) (by decide) (by decide) (by decide) (by decide)
                        refine lv_iload hx hb dX11_keyOrAll_141 (lv_at hl 4 rfl) ?_
                        refine lv_aload_n hx hb dX11_keyOrAll_143 rfl (lv_at hl 0 rfl) ?_
                        refine ok.getR hO h_a (by decide) k13_1 (by decide) (fun _ _ he hv kk => th_get (ci := 11) (C := RX11) (T := TX11) (N := 66) hx hb hts inX11 hown hK hH he rfl 1 (by decide) fl2 hv dX11_keyOrAll_144 kk) ?_
                        refine lv_iload hx hb dX11_keyOrAll_147 (lv_at hl 4 rfl) ?_
                        refine th_calli (va_runS (As := [.ref (ad E a 1), .int (I v4q272)]) (rest := [.int (I v4q272)]) ⟨hx, hb, hml, hown, hts⟩ (w_size l G y b0 σ_s_304 E hO (ad E a 1) 240 f1 (hO.roww h_a k13_1 isA1 e_309 rfl) v4q272 (show rng v4q272 from rv4q272) (by omega) (by omega) (by omega)) (va_cwS 2 hts gX11_keyOrAll_X11_size rfl rfl rfl (by decide +kernel) ⟨Nat.le_of_ble_eq_true rfl, Nat.le_of_ble_eq_true rfl⟩) (th_PS hK hH) rfl rfl hl.1 rfl (lv_room (Nat.le_of_ble_eq_true rfl)) dX11_keyOrAll_149 ⟨Nat.le_of_ble_eq_true rfl, Nat.le_of_ble_eq_true rfl⟩) hS (fun z_312 σ_s_311 H locs rz_312 hw_310 hH hS => ?_)
                        obtain ⟨e9, hw_310⟩ := hw_310
                        replace e9 := e9.symm
                        subst e9
                        have hw_310 : z_312 = mS f1 v4q272 := hw_310
                        refine lv_iadd hx hb dX11_keyOrAll_152 ?_
                        refine th_addo (fun z_313 rz_313 hz_313 => ?_)
                        refine lv_istore (lv' := [(4, .int (I z_313)), (0, .ref a), (1, .int (I z_4)), (2, .int (I z_9)), (3, .int (I v3q199))]) hx hb dX11_keyOrAll_153 hl (by decide) rfl (fun ls hl => ?_)
                        refine lv_goto (tgt := 85) hx hb dX11_keyOrAll_155 (by decide) ?_
                        exact ihJ_273 (z_313) σ_s_304 _ _ _ (by first | (dsimp only; omega) | omega) ⟨hO, hF, hM, hsr, hH, hS, lv_sub hl [1, 2, 3, 4, 0] rfl, rz_313, by first | (dsimp only; omega) | omega, by first | (dsimp only; omega) | omega, by first | (dsimp only; omega) | omega, by first | (dsimp only; omega) | omega, e_305, e_306, e_307, e_308, e_309⟩
                      · replace c_303 := (I_eq (a := z_302) (b := z_9) rz_302 rz_9).mp c_303
                        refine lv_iconst (v := I 1) hx hb dX11_keyOrAll_135 (by decide) ?_
                        refine lv_goto (tgt := 140) hx hb dX11_keyOrAll_136 (by decide) ?_
                        refine m_zast hx hb hK hH hS h00 hO h_a k13_24 (by decide) rv4q272 (by omega) (by omega) (by omega) dX11_keyOrAll_140 (fun σ_s_314 H locs hO hF9 hM9 hH hS => ?_)
                        replace hM := hM.tu hM9 (by decide)
                        replace hF := hF.tu hF9 (by decide)
                        have e_315 : gI σ_s_314 a 11 = a110 := (hM9.i (by decide)).trans J_273_4
                        have e_316 : gI σ_s_314 a 13 = z_20 := (hM9.i (by decide)).trans J_273_5
                        have e_317 : gI σ_s_314 a 17 = z_22 := (hM9.i (by decide)).trans J_273_6
                        have e_318 : gI σ_s_314 a 25 = z_206 := (hM9.i (by decide)).trans J_273_7
                        have e_319 : aF σ_s_314 (ad E a 1) = f1 := (hM9.a (by decide) (by decide)).trans J_273_8
                        replace hsr := hsr.mv hM9 (by decide) (by decide) (by decide) (by decide) (by decide)
                        refine lv_iload hx hb dX11_keyOrAll_141 (lv_at hl 4 rfl) ?_
                        refine lv_aload_n hx hb dX11_keyOrAll_143 rfl (lv_at hl 0 rfl) ?_
                        refine ok.getR hO h_a (by decide) k13_1 (by decide) (fun _ _ he hv kk => th_get (ci := 11) (C := RX11) (T := TX11) (N := 66) hx hb hts inX11 hown hK hH he rfl 1 (by decide) fl2 hv dX11_keyOrAll_144 kk) ?_
                        refine lv_iload hx hb dX11_keyOrAll_147 (lv_at hl 4 rfl) ?_
                        refine th_calli (va_runS (As := [.ref (ad E a 1), .int (I v4q272)]) (rest := [.int (I v4q272)]) ⟨hx, hb, hml, hown, hts⟩ (w_size l G y b0 σ_s_314 E hO (ad E a 1) 240 f1 (hO.roww h_a k13_1 isA1 e_319 rfl) v4q272 (show rng v4q272 from rv4q272) (by omega) (by omega) (by omega)) (va_cwS 2 hts gX11_keyOrAll_X11_size rfl rfl rfl (by decide +kernel) ⟨Nat.le_of_ble_eq_true rfl, Nat.le_of_ble_eq_true rfl⟩) (th_PS hK hH) rfl rfl hl.1 rfl (lv_room (Nat.le_of_ble_eq_true rfl)) dX11_keyOrAll_149 ⟨Nat.le_of_ble_eq_true rfl, Nat.le_of_ble_eq_true rfl⟩) hS (fun z_322 σ_s_321 H locs rz_322 hw_320 hH hS => ?_)
                        obtain ⟨e9, hw_320⟩ := hw_320
                        replace e9 := e9.symm
                        subst e9
                        have hw_320 : z_322 = mS f1 v4q272 := hw_320
                        refine lv_iadd hx hb dX11_keyOrAll_152 ?_
                        refine th_addo (fun z_323 rz_323 hz_323 => ?_)
                        refine lv_istore (lv' := [(4, .int (I z_323)), (0, .ref a), (1, .int (I z_4)), (2, .int (I z_9)), (3, .int (I v3q199))]) hx hb dX11_keyOrAll_153 hl (by decide) rfl (fun ls hl => ?_)
                        refine lv_goto (tgt := 85) hx hb dX11_keyOrAll_155 (by decide) ?_
                        exact ihJ_273 (z_323) σ_s_314 _ _ _ (by first | (dsimp only; omega) | omega) ⟨hO, hF, hM, hsr, hH, hS, lv_sub hl [1, 2, 3, 4, 0] rfl, rz_323, by first | (dsimp only; omega) | omega, by first | (dsimp only; omega) | omega, by first | (dsimp only; omega) | omega, by first | (dsimp only; omega) | omega, e_315, e_316, e_317, e_318, e_319⟩
              · replace c_271 := mt (I_eq (a := z_270) (b := 3) rz_270 (show rng 3 from ⟨by decide, by decide⟩)).mpr c_271
                refine lv_goto (tgt := 158) hx hb dX11_keyOrAll_77 (by decide) ?_
                refine lv_iinc (v := I (v3q199 + 1)) (lv' := [(3, .int (I (v3q199 + 1))), (0, .ref a), (1, .int (I z_4)), (2, .int (I z_9))]) hx hb dX11_keyOrAll_158 hl (k := 3) rfl (I_add _ _) (by decide) rfl (fun ls hl => ?_)
                refine lv_goto (tgt := 26) hx hb dX11_keyOrAll_161 (by decide) ?_
                exact ihJ_200 (v3q199 + 1) σ_J_200 _ _ _ (by first | (dsimp only; omega) | omega) ⟨hO, hF, hM, hsr, hH, hS, lv_sub hl [1, 2, 3, 0] rfl, ⟨by first | (dsimp only; omega) | omega, by first | (dsimp only; omega) | omega⟩, by first | (dsimp only; omega) | omega, by first | (dsimp only; omega) | omega, J_200_2, J_200_3, J_200_4, J_200_5⟩
  · replace c_5 := mt (I_eq (a := z_4) (b := 0) rz_4 (show rng 0 from ⟨by decide, by decide⟩)).mpr c_5
    replace hw_2 := (hw_2.resolve_left c_5).2
    refine lv_iconst (v := I 0) hx hb dX11_keyOrAll_11 (by decide) ?_
    refine lv_goto (tgt := 19) hx hb dX11_keyOrAll_12 (by decide) ?_
    refine lv_istore_n (lv' := [(2, .int (I 0)), (1, .int (I z_4)), (0, .ref a)]) hx hb dX11_keyOrAll_19 rfl hl (by decide) rfl (fun ls hl => ?_)
    refine lv_aload_n hx hb dX11_keyOrAll_20 rfl (lv_at hl 2 rfl) ?_
    obtain ⟨_, hc_324⟩ := hO.cell h_a (by decide) (ci := 11) rfl
    refine th_callv (va_runV (As := []) (rest := []) ⟨hx, hb, hml, hown, hts⟩ (m_pass l G y b0 σ E hO a h_a Bf hsr (by omega)) (cwV 0 hts gX11_keyOrAll_X11_pass rfl rfl rfl (by decide +kernel) ⟨Nat.le_of_ble_eq_true rfl, Nat.le_of_ble_eq_true rfl⟩) (th_PV hK hH rfl hc_324) rfl rfl hl.1 rfl (lv_room (Nat.le_of_ble_eq_true rfl)) dX11_keyOrAll_21 ⟨Nat.le_of_ble_eq_true rfl, Nat.le_of_ble_eq_true rfl⟩) hS (fun σ_s_326 H locs hw_325 hH hS => ?_)
    obtain ⟨hO9, hF9, hM9, hw_325⟩ := hw_325
    replace hM := hM.tu hM9 (by decide)
    replace hF := hF.tu hF9 (by decide)
    have e_327 : aF σ_s_326 (ad E a 1) = f1 := (hM9.a (by decide) (by decide)).trans ef1
    have e_328 : gI σ_s_326 a 11 = a110 := (hM9.i (by decide)).trans ea110
    have e_329 : gI σ_s_326 a 19 = a190 := (hM9.i (by decide)).trans ea190
    replace hsr := hsr.mv hM9 (by decide) (by decide) (by decide) (by decide) (by decide)
    replace hO := hO9
    have hw_325 : (gI σ a 13 ≤ gI σ_s_326 a 13 ∧ gI σ_s_326 a 13 ≤ gI σ a 11 ∧ 0 ≤ gI σ_s_326 a 17 ∧ gI σ_s_326 a 17 ≤ gI σ_s_326 a 13) ∧ pgo (gI σ_s_326 a 19) (gI σ_s_326 a 14) (gI σ a 13) (gI σ_s_326 a 13) ∧ gI σ_s_326 a 19 = gI σ a 19 := hw_325
    obtain ⟨z_330, e_331, rz_330, lz_330, uz_330⟩ := hO.gi h_a (by decide) k13_13
    obtain ⟨z_332, e_333, rz_332, lz_332, uz_332⟩ := hO.gi h_a (by decide) k13_17
    refine lv_iconst (v := I 0) hx hb dX11_keyOrAll_24 (by decide) ?_
    refine lv_istore_n (lv' := [(3, .int (I 0)), (2, .int (I 0)), (1, .int (I z_4)), (0, .ref a)]) hx hb dX11_keyOrAll_25 rfl hl (by decide) rfl (fun ls hl => ?_)
    refine th_loop (α := Int) (pc := 26) (fun x9 => (mS f1 0 - x9).toNat) (fun x9 σ9 H9 l9 ls9 => ok y E σ9 ∧ fr [13] E σ σ9 ∧ fm [13, 14, 15, 16, 17, 18, 19, 20, 24] E σ σ9 a ∧ sr E σ9 a Bf ∧ th_H G b0 σ9 H9 ∧ va_S (th_A b0) s.heap H9 l9 ∧ lv_has ls9 5 [(0, .ref a), (1, .int (I z_4)), (2, .int (I 0)), (3, .int (I x9))] ∧ rng x9 ∧ (0 ≤ x9) ∧ (x9 ≤ 60) ∧ (gI σ9 a 11 = a110) ∧ (gI σ9 a 13 = z_330) ∧ (gI σ9 a 17 = z_332) ∧ (aF σ9 (ad E a 1) = f1)) ?_ (0) σ_s_326 _ _ _ ⟨hO, hF, hM, hsr, hH, hS, lv_sub hl [3, 2, 1, 0] rfl, (show rng 0 from ⟨by decide, by decide⟩), by first | (dsimp only; omega) | omega, by first | (dsimp only; omega) | omega, e_328, e_331, e_333, e_327⟩
    intro x9 σ_J_335 H locs ls hI9 ihJ_335
    obtain ⟨v3q334, ex9⟩ : ∃ z, z = x9 := ⟨_, rfl⟩
    subst ex9
    obtain ⟨hO, hF, hM, hsr, hH, hS, hl, rv3q334, J_335_0, J_335_1, J_335_2, J_335_3, J_335_4, J_335_5⟩ := hI9
    have hl : lv_has ls 5 [(0, .ref a), (1, .int (I z_4)), (2, .int (I 0)), (3, .int (I v3q334))] := hl
    have rv3q334 : rng v3q334 := rv3q334
    have J_335_0 : 0 ≤ v3q334 := J_335_0
    have J_335_1 : v3q334 ≤ 60 := J_335_1
    have J_335_2 : gI σ_J_335 a 11 = a110 := J_335_2
    have J_335_3 : gI σ_J_335 a 13 = z_330 := J_335_3
    have J_335_4 : gI σ_J_335 a 17 = z_332 := J_335_4
    have J_335_5 : aF σ_J_335 (ad E a 1) = f1 := J_335_5
    refine lv_iload_n hx hb dX11_keyOrAll_26 rfl (lv_at hl 3 rfl) ?_
    refine lv_aload_n hx hb dX11_keyOrAll_27 rfl (lv_at hl 0 rfl) ?_
    obtain ⟨_, hc_336⟩ := hO.cell h_a (by decide) (ci := 11) rfl
    refine th_calli (va_runV (As := []) (rest := [.int (I v3q334)]) ⟨hx, hb, hml, hown, hts⟩ (m_things l G y b0 σ_J_335 E hO a h_a f1 J_335_5) (cwV 0 hts gX11_keyOrAll_X11_things rfl rfl rfl (by decide +kernel) ⟨Nat.le_of_ble_eq_true rfl, Nat.le_of_ble_eq_true rfl⟩) (th_PV hK hH rfl hc_336) rfl rfl hl.1 rfl (lv_room (Nat.le_of_ble_eq_true rfl)) dX11_keyOrAll_28 ⟨Nat.le_of_ble_eq_true rfl, Nat.le_of_ble_eq_true rfl⟩) hS (fun z_339 σ_s_338 H locs rz_339 hw_337 hH hS => ?_)
    obtain ⟨e9, hw_337⟩ := hw_337
    replace e9 := e9.symm
    subst e9
    have hw_337 : z_339 = mS f1 0 := hw_337
    refine lv_icmp_ge (tgt := 164) hx hb dX11_keyOrAll_31 (by decide) (fun c_340 => ?_) (fun c_340 => ?_)
    · replace c_340 := (I_le (a := z_339) (b := v3q334) rz_339 rv3q334).mp c_340
      exact th_vret hx hb hr hlocks hH hS ⟨hO, hF, hM, by omega⟩ dX11_keyOrAll_164
    · replace c_340 := mt (I_le (a := z_339) (b := v3q334) rz_339 rv3q334).mpr c_340
      refine lv_aload_n hx hb dX11_keyOrAll_34 rfl (lv_at hl 0 rfl) ?_
      refine ok.getI hO h_a (by decide) k13_25 (fun _ _ he hv kk => th_get (ci := 11) (C := RX11) (T := TX11) (N := 66) hx hb hts inX11 hown hK hH he rfl 25 (by decide) fl0 hv dX11_keyOrAll_35 kk) (fun z_341 e_342 rz_341 lz_341 uz_341 => ?_)
      refine lv_if_eq (tgt := 164) hx hb dX11_keyOrAll_38 (by decide) (fun c_343 => ?_) (fun c_343 => ?_)
      · replace c_343 := (I_eq (a := z_341) (b := 0) rz_341 (show rng 0 from ⟨by decide, by decide⟩)).mp c_343
        exact th_vret hx hb hr hlocks hH hS ⟨hO, hF, hM, by omega⟩ dX11_keyOrAll_164
      · replace c_343 := mt (I_eq (a := z_341) (b := 0) rz_341 (show rng 0 from ⟨by decide, by decide⟩)).mpr c_343
        refine lv_aload_n hx hb dX11_keyOrAll_41 rfl (lv_at hl 0 rfl) ?_
        refine ok.getR hO h_a (by decide) k13_23 (by decide) (fun _ _ he hv kk => th_get (ci := 11) (C := RX11) (T := TX11) (N := 66) hx hb hts inX11 hown hK hH he rfl 23 (by decide) fl1 hv dX11_keyOrAll_42 kk) ?_
        refine lv_iload_n hx hb dX11_keyOrAll_45 rfl (lv_at hl 3 rfl) ?_
        refine m_zald hx hb hK hH hO h_a k13_23 rv3q334 (by omega) (by omega) dX11_keyOrAll_46 (fun z_344 rz_344 uz_344 => ?_)
        refine lv_if_eq (tgt := 158) hx hb dX11_keyOrAll_47 (by decide) (fun c_345 => ?_) (fun c_345 => ?_)
        · replace c_345 := (I_eq (a := z_344) (b := 0) rz_344 (show rng 0 from ⟨by decide, by decide⟩)).mp c_345
          refine lv_iinc (v := I (v3q334 + 1)) (lv' := [(3, .int (I (v3q334 + 1))), (0, .ref a), (1, .int (I z_4)), (2, .int (I 0))]) hx hb dX11_keyOrAll_158 hl (k := 3) rfl (I_add _ _) (by decide) rfl (fun ls hl => ?_)
          refine lv_goto (tgt := 26) hx hb dX11_keyOrAll_161 (by decide) ?_
          exact ihJ_335 (v3q334 + 1) σ_J_335 _ _ _ (by first | (dsimp only; omega) | omega) ⟨hO, hF, hM, hsr, hH, hS, lv_sub hl [1, 2, 3, 0] rfl, ⟨by first | (dsimp only; omega) | omega, by first | (dsimp only; omega) | omega⟩, by first | (dsimp only; omega) | omega, by first | (dsimp only; omega) | omega, J_335_2, J_335_3, J_335_4, J_335_5⟩
        · replace c_345 := mt (I_eq (a := z_344) (b := 0) rz_344 (show rng 0 from ⟨by decide, by decide⟩)).mpr c_345
          refine lv_aload_n hx hb dX11_keyOrAll_50 rfl (lv_at hl 0 rfl) ?_
          refine ok.getR hO h_a (by decide) k13_1 (by decide) (fun _ _ he hv kk => th_get (ci := 11) (C := RX11) (T := TX11) (N := 66) hx hb hts inX11 hown hK hH he rfl 1 (by decide) fl2 hv dX11_keyOrAll_51 kk) ?_
          refine lv_iload_n hx hb dX11_keyOrAll_54 rfl (lv_at hl 3 rfl) ?_
          refine th_calli (va_runS (As := [.ref (ad E a 1), .int (I v3q334)]) (rest := []) ⟨hx, hb, hml, hown, hts⟩ (w_holds l G y b0 σ_J_335 E hO (ad E a 1) 240 f1 (hO.roww h_a k13_1 isA1 J_335_5 rfl) v3q334 (show rng v3q334 from rv3q334) (by omega) (by omega) (by omega)) (va_cwS 2 hts gX11_keyOrAll_X11_holds rfl rfl rfl (by decide +kernel) ⟨Nat.le_of_ble_eq_true rfl, Nat.le_of_ble_eq_true rfl⟩) (th_PS hK hH) rfl rfl hl.1 rfl (lv_room (Nat.le_of_ble_eq_true rfl)) dX11_keyOrAll_55 ⟨Nat.le_of_ble_eq_true rfl, Nat.le_of_ble_eq_true rfl⟩) hS (fun z_348 σ_s_347 H locs rz_348 hw_346 hH hS => ?_)
          obtain ⟨e9, bhw_346, hw_346⟩ := hw_346
          replace e9 := e9.symm
          subst e9
          have hw_346 : (z_348 = 1 ∧ 2 ≤ mK f1 v3q334) ∨ (z_348 = 0 ∧ ¬ 2 ≤ mK f1 v3q334) := hw_346
          refine lv_if_eq (tgt := 158) hx hb dX11_keyOrAll_58 (by decide) (fun c_349 => ?_) (fun c_349 => ?_)
          · replace c_349 := (I_eq (a := z_348) (b := 0) rz_348 (show rng 0 from ⟨by decide, by decide⟩)).mp c_349
            refine lv_iinc (v := I (v3q334 + 1)) (lv' := [(3, .int (I (v3q334 + 1))), (0, .ref a), (1, .int (I z_4)), (2, .int (I 0))]) hx hb dX11_keyOrAll_158 hl (k := 3) rfl (I_add _ _) (by decide) rfl (fun ls hl => ?_)
            refine lv_goto (tgt := 26) hx hb dX11_keyOrAll_161 (by decide) ?_
            exact ihJ_335 (v3q334 + 1) σ_J_335 _ _ _ (by first | (dsimp only; omega) | omega) ⟨hO, hF, hM, hsr, hH, hS, lv_sub hl [1, 2, 3, 0] rfl, ⟨by first | (dsimp only; omega) | omega, by first | (dsimp only; omega) | omega⟩, by first | (dsimp only; omega) | omega, by first | (dsimp only; omega) | omega, J_335_2, J_335_3, J_335_4, J_335_5⟩
          · replace c_349 := mt (I_eq (a := z_348) (b := 0) rz_348 (show rng 0 from ⟨by decide, by decide⟩)).mpr c_349
            refine lv_iload_n hx hb dX11_keyOrAll_61 rfl (lv_at hl 1 rfl) ?_
            refine lv_if_ne (tgt := 80) hx hb dX11_keyOrAll_62 (by decide) (fun c_350 => ?_) (fun c_350 => ?_)
            · replace c_350 := mt (I_eq (a := z_4) (b := 0) rz_4 (show rng 0 from ⟨by decide, by decide⟩)).mpr c_350
              have hk3 := hy0 v3q334 (by omega) (by omega)
              refine lv_iload_n hx hb dX11_keyOrAll_80 rfl (lv_at hl 3 rfl) ?_
              refine lv_iconst (v := I 1) hx hb dX11_keyOrAll_81 (by decide) ?_
              refine lv_iadd hx hb dX11_keyOrAll_82 ?_
              refine nq_top (I_add _ _) ?_
              refine lv_istore (lv' := [(4, .int (I (v3q334 + 1))), (0, .ref a), (1, .int (I z_4)), (2, .int (I 0)), (3, .int (I v3q334))]) hx hb dX11_keyOrAll_83 hl (by decide) rfl (fun ls hl => ?_)
              refine th_loop (α := Int) (pc := 85) (fun x9 => (v3q334 + mS f1 v3q334 - x9).toNat) (fun x9 σ9 H9 l9 ls9 => ok y E σ9 ∧ fr [13] E σ σ9 ∧ fm [13, 14, 15, 16, 17, 18, 19, 20, 24] E σ σ9 a ∧ sr E σ9 a Bf ∧ th_H G b0 σ9 H9 ∧ va_S (th_A b0) s.heap H9 l9 ∧ lv_has ls9 5 [(0, .ref a), (1, .int (I z_4)), (2, .int (I 0)), (3, .int (I v3q334)), (4, .int (I x9))] ∧ rng x9 ∧ (v3q334 + 1 ≤ x9) ∧ (x9 ≤ v3q334 + mS f1 v3q334) ∧ (0 ≤ x9) ∧ (x9 ≤ 60) ∧ (gI σ9 a 11 = a110) ∧ (gI σ9 a 13 = z_330) ∧ (gI σ9 a 17 = z_332) ∧ (gI σ9 a 25 = z_341) ∧ (aF σ9 (ad E a 1) = f1)) ?_ (v3q334 + 1) σ_J_335 _ _ _ ⟨hO, hF, hM, hsr, hH, hS, lv_sub hl [1, 2, 3, 4, 0] rfl, ⟨by first | (dsimp only; omega) | omega, by first | (dsimp only; omega) | omega⟩, by first | (dsimp only; omega) | omega, by first | (dsimp only; omega) | omega, by first | (dsimp only; omega) | omega, by first | (dsimp only; omega) | omega, J_335_2, J_335_3, J_335_4, e_342, J_335_5⟩
              intro x9 σ_J_352 H locs ls hI9 ihJ_352
              obtain ⟨v4q351, ex9⟩ : ∃ z, z = x9 := ⟨_, rfl⟩
              subst ex9
              obtain ⟨hO, hF, hM, hsr, hH, hS, hl, rv4q351, J_352_0, J_352_1, J_352_2, J_352_3, J_352_4, J_352_5, J_352_6, J_352_7, J_352_8⟩ := hI9
              have hl : lv_has ls 5 [(0, .ref a), (1, .int (I z_4)), (2, .int (I 0)), (3, .int (I v3q334)), (4, .int (I v4q351))] := hl
              have rv4q351 : rng v4q351 := rv4q351
              have J_352_0 : v3q334 + 1 ≤ v4q351 := J_352_0
              have J_352_1 : v4q351 ≤ v3q334 + mS f1 v3q334 := J_352_1
              have J_352_2 : 0 ≤ v4q351 := J_352_2
              have J_352_3 : v4q351 ≤ 60 := J_352_3
              have J_352_4 : gI σ_J_352 a 11 = a110 := J_352_4
              have J_352_5 : gI σ_J_352 a 13 = z_330 := J_352_5
              have J_352_6 : gI σ_J_352 a 17 = z_332 := J_352_6
              have J_352_7 : gI σ_J_352 a 25 = z_341 := J_352_7
              have J_352_8 : aF σ_J_352 (ad E a 1) = f1 := J_352_8
              refine lv_iload hx hb dX11_keyOrAll_85 (lv_at hl 4 rfl) ?_
              refine lv_iload_n hx hb dX11_keyOrAll_87 rfl (lv_at hl 3 rfl) ?_
              refine lv_aload_n hx hb dX11_keyOrAll_88 rfl (lv_at hl 0 rfl) ?_
              refine ok.getR hO h_a (by decide) k13_1 (by decide) (fun _ _ he hv kk => th_get (ci := 11) (C := RX11) (T := TX11) (N := 66) hx hb hts inX11 hown hK hH he rfl 1 (by decide) fl2 hv dX11_keyOrAll_89 kk) ?_
              refine lv_iload_n hx hb dX11_keyOrAll_92 rfl (lv_at hl 3 rfl) ?_
              refine th_calli (va_runS (As := [.ref (ad E a 1), .int (I v3q334)]) (rest := [.int (I v3q334), .int (I v4q351)]) ⟨hx, hb, hml, hown, hts⟩ (w_size l G y b0 σ_J_352 E hO (ad E a 1) 240 f1 (hO.roww h_a k13_1 isA1 J_352_8 rfl) v3q334 (show rng v3q334 from rv3q334) (by omega) (by omega) (by omega)) (va_cwS 2 hts gX11_keyOrAll_X11_size rfl rfl rfl (by decide +kernel) ⟨Nat.le_of_ble_eq_true rfl, Nat.le_of_ble_eq_true rfl⟩) (th_PS hK hH) rfl rfl hl.1 rfl (lv_room (Nat.le_of_ble_eq_true rfl)) dX11_keyOrAll_93 ⟨Nat.le_of_ble_eq_true rfl, Nat.le_of_ble_eq_true rfl⟩) hS (fun z_355 σ_s_354 H locs rz_355 hw_353 hH hS => ?_)
              obtain ⟨e9, hw_353⟩ := hw_353
              replace e9 := e9.symm
              subst e9
              have hw_353 : z_355 = mS f1 v3q334 := hw_353
              refine lv_iadd hx hb dX11_keyOrAll_96 ?_
              refine th_addo (fun z_356 rz_356 hz_356 => ?_)
              refine lv_icmp_ge (tgt := 158) hx hb dX11_keyOrAll_97 (by decide) (fun c_357 => ?_) (fun c_357 => ?_)
              · replace c_357 := (I_le (a := z_356) (b := v4q351) rz_356 rv4q351).mp c_357
                refine lv_iinc (v := I (v3q334 + 1)) (lv' := [(3, .int (I (v3q334 + 1))), (0, .ref a), (1, .int (I z_4)), (2, .int (I 0)), (4, .int (I v4q351))]) hx hb dX11_keyOrAll_158 hl (k := 3) rfl (I_add _ _) (by decide) rfl (fun ls hl => ?_)
                refine lv_goto (tgt := 26) hx hb dX11_keyOrAll_161 (by decide) ?_
                replace hl : lv_has ls 5 [(3, .int (I (v3q334 + 1))), (0, .ref a), (1, .int (I z_4)), (2, .int (I 0))] := lv_sub hl [0, 1, 2, 3] rfl
                exact ihJ_335 (v3q334 + 1) σ_J_352 _ _ _ (by first | (dsimp only; omega) | omega) ⟨hO, hF, hM, hsr, hH, hS, lv_sub hl [1, 2, 3, 0] rfl, ⟨by first | (dsimp only; omega) | omega, by first | (dsimp only; omega) | omega⟩, by first | (dsimp only; omega) | omega, by first | (dsimp only; omega) | omega, J_352_4, J_352_5, J_352_6, J_352_8⟩
              · replace c_357 := mt (I_le (a := z_356) (b := v4q351) rz_356 rv4q351).mpr c_357
                have hk4 := hy0 v4q351 (by omega) (by omega)
                have hk5 := hk3.2.2 v4q351 (by omega) (by omega)
                refine lv_aload_n hx hb dX11_keyOrAll_100 rfl (lv_at hl 0 rfl) ?_
                refine ok.getR hO h_a (by decide) k13_24 (by decide) (fun _ _ he hv kk => th_get (ci := 11) (C := RX11) (T := TX11) (N := 66) hx hb hts inX11 hown hK hH he rfl 24 (by decide) fl3 hv dX11_keyOrAll_101 kk) ?_
                refine lv_iload hx hb dX11_keyOrAll_104 (lv_at hl 4 rfl) ?_
                refine lv_aload_n hx hb dX11_keyOrAll_106 rfl (lv_at hl 0 rfl) ?_
                refine ok.getR hO h_a (by decide) k13_24 (by decide) (fun _ _ he hv kk => th_get (ci := 11) (C := RX11) (T := TX11) (N := 66) hx hb hts inX11 hown hK hH he rfl 24 (by decide) fl3 hv dX11_keyOrAll_107 kk) ?_
                refine lv_iload hx hb dX11_keyOrAll_110 (lv_at hl 4 rfl) ?_
                refine m_zald hx hb hK hH hO h_a k13_24 rv4q351 (by omega) (by omega) dX11_keyOrAll_112 (fun z_358 rz_358 uz_358 => ?_)
                refine lv_if_ne (tgt := 135) hx hb dX11_keyOrAll_113 (by decide) (fun c_359 => ?_) (fun c_359 => ?_)
                · replace c_359 := mt (I_eq (a := z_358) (b := 0) rz_358 (show rng 0 from ⟨by decide, by decide⟩)).mpr c_359
                  refine lv_iconst (v := I 1) hx hb dX11_keyOrAll_135 (by decide) ?_
                  refine lv_goto (tgt := 140) hx hb dX11_keyOrAll_136 (by decide) ?_
                  refine m_zast hx hb hK hH hS h00 hO h_a k13_24 (by decide) rv4q351 (by omega) (by omega) (by omega) dX11_keyOrAll_140 (fun σ_s_360 H locs hO hF9 hM9 hH hS => ?_)
                  replace hM := hM.tu hM9 (by decide)
                  replace hF := hF.tu hF9 (by decide)
                  have e_361 : gI σ_s_360 a 11 = a110 := (hM9.i (by decide)).trans J_352_4
                  have e_362 : gI σ_s_360 a 13 = z_330 := (hM9.i (by decide)).trans J_352_5
                  have e_363 : gI σ_s_360 a 17 = z_332 := (hM9.i (by decide)).trans J_352_6
                  have e_364 : gI σ_s_360 a 25 = z_341 := (hM9.i (by decide)).trans J_352_7
                  have e_365 : aF σ_s_360 (ad E a 1) = f1 := (hM9.a (by decide) (by decide)).trans J_352_8
                  replace hsr := hsr.mv hM9 (by decide) (by decide) (by decide) (by decide) (by decide)
                  refine lv_iload hx hb dX11_keyOrAll_141 (lv_at hl 4 rfl) ?_
                  refine lv_aload_n hx hb dX11_keyOrAll_143 rfl (lv_at hl 0 rfl) ?_
                  refine ok.getR hO h_a (by decide) k13_1 (by decide) (fun _ _ he hv kk => th_get (ci := 11) (C := RX11) (T := TX11) (N := 66) hx hb hts inX11 hown hK hH he rfl 1 (by decide) fl2 hv dX11_keyOrAll_144 kk) ?_
                  refine lv_iload hx hb dX11_keyOrAll_147 (lv_at hl 4 rfl) ?_
                  refine th_calli (va_runS (As := [.ref (ad E a 1), .int (I v4q351)]) (rest := [.int (I v4q351)]) ⟨hx, hb, hml, hown, hts⟩ (w_size l G y b0 σ_s_360 E hO (ad E a 1) 240 f1 (hO.roww h_a k13_1 isA1 e_365 rfl) v4q351 (show rng v4q351 from rv4q351) (by omega) (by omega) (by omega)) (va_cwS 2 hts gX11_keyOrAll_X11_size rfl rfl rfl (by decide +kernel) ⟨Nat.le_of_ble_eq_true rfl, Nat.le_of_ble_eq_true rfl⟩) (th_PS hK hH) rfl rfl hl.1 rfl (lv_room (Nat.le_of_ble_eq_true rfl)) dX11_keyOrAll_149 ⟨Nat.le_of_ble_eq_true rfl, Nat.le_of_ble_eq_true rfl⟩) hS (fun z_368 σ_s_367 H locs rz_368 hw_366 hH hS => ?_)
                  obtain ⟨e9, hw_366⟩ := hw_366
                  replace e9 := e9.symm
                  subst e9
                  have hw_366 : z_368 = mS f1 v4q351 := hw_366
                  refine lv_iadd hx hb dX11_keyOrAll_152 ?_
                  refine th_addo (fun z_369 rz_369 hz_369 => ?_)
                  refine lv_istore (lv' := [(4, .int (I z_369)), (0, .ref a), (1, .int (I z_4)), (2, .int (I 0)), (3, .int (I v3q334))]) hx hb dX11_keyOrAll_153 hl (by decide) rfl (fun ls hl => ?_)
                  refine lv_goto (tgt := 85) hx hb dX11_keyOrAll_155 (by decide) ?_
                  exact ihJ_352 (z_369) σ_s_360 _ _ _ (by first | (dsimp only; omega) | omega) ⟨hO, hF, hM, hsr, hH, hS, lv_sub hl [1, 2, 3, 4, 0] rfl, rz_369, by first | (dsimp only; omega) | omega, by first | (dsimp only; omega) | omega, by first | (dsimp only; omega) | omega, by first | (dsimp only; omega) | omega, e_361, e_362, e_363, e_364, e_365⟩
                · replace c_359 := (I_eq (a := z_358) (b := 0) rz_358 (show rng 0 from ⟨by decide, by decide⟩)).mp c_359
                  refine lv_iload_n hx hb dX11_keyOrAll_116 rfl (lv_at hl 1 rfl) ?_
                  refine lv_if_ne (tgt := 135) hx hb dX11_keyOrAll_117 (by decide) (fun c_370 => ?_) (fun c_370 => ?_)
                  · replace c_370 := mt (I_eq (a := z_4) (b := 0) rz_4 (show rng 0 from ⟨by decide, by decide⟩)).mpr c_370
                    refine lv_iconst (v := I 1) hx hb dX11_keyOrAll_135 (by decide) ?_
                    refine lv_goto (tgt := 140) hx hb dX11_keyOrAll_136 (by decide) ?_
                    refine m_zast hx hb hK hH hS h00 hO h_a k13_24 (by decide) rv4q351 (by omega) (by omega) (by omega) dX11_keyOrAll_140 (fun σ_s_371 H locs hO hF9 hM9 hH hS => ?_)
                    replace hM := hM.tu hM9 (by decide)
                    replace hF := hF.tu hF9 (by decide)
                    have e_372 : gI σ_s_371 a 11 = a110 := (hM9.i (by decide)).trans J_352_4
                    have e_373 : gI σ_s_371 a 13 = z_330 := (hM9.i (by decide)).trans J_352_5
                    have e_374 : gI σ_s_371 a 17 = z_332 := (hM9.i (by decide)).trans J_352_6
                    have e_375 : gI σ_s_371 a 25 = z_341 := (hM9.i (by decide)).trans J_352_7
                    have e_376 : aF σ_s_371 (ad E a 1) = f1 := (hM9.a (by decide) (by decide)).trans J_352_8
                    replace hsr := hsr.mv hM9 (by decide) (by decide) (by decide) (by decide) (by decide)
                    refine lv_iload hx hb dX11_keyOrAll_141 (lv_at hl 4 rfl) ?_
                    refine lv_aload_n hx hb dX11_keyOrAll_143 rfl (lv_at hl 0 rfl) ?_
                    refine ok.getR hO h_a (by decide) k13_1 (by decide) (fun _ _ he hv kk => th_get (ci := 11) (C := RX11) (T := TX11) (N := 66) hx hb hts inX11 hown hK hH he rfl 1 (by decide) fl2 hv dX11_keyOrAll_144 kk) ?_
                    refine lv_iload hx hb dX11_keyOrAll_147 (lv_at hl 4 rfl) ?_
                    refine th_calli (va_runS (As := [.ref (ad E a 1), .int (I v4q351)]) (rest := [.int (I v4q351)]) ⟨hx, hb, hml, hown, hts⟩ (w_size l G y b0 σ_s_371 E hO (ad E a 1) 240 f1 (hO.roww h_a k13_1 isA1 e_376 rfl) v4q351 (show rng v4q351 from rv4q351) (by omega) (by omega) (by omega)) (va_cwS 2 hts gX11_keyOrAll_X11_size rfl rfl rfl (by decide +kernel) ⟨Nat.le_of_ble_eq_true rfl, Nat.le_of_ble_eq_true rfl⟩) (th_PS hK hH) rfl rfl hl.1 rfl (lv_room (Nat.le_of_ble_eq_true rfl)) dX11_keyOrAll_149 ⟨Nat.le_of_ble_eq_true rfl, Nat.le_of_ble_eq_true rfl⟩) hS (fun z_379 σ_s_378 H locs rz_379 hw_377 hH hS => ?_)
                    obtain ⟨e9, hw_377⟩ := hw_377
                    replace e9 := e9.symm
                    subst e9
                    have hw_377 : z_379 = mS f1 v4q351 := hw_377
                    refine lv_iadd hx hb dX11_keyOrAll_152 ?_
                    refine th_addo (fun z_380 rz_380 hz_380 => ?_)
                    refine lv_istore (lv' := [(4, .int (I z_380)), (0, .ref a), (1, .int (I z_4)), (2, .int (I 0)), (3, .int (I v3q334))]) hx hb dX11_keyOrAll_153 hl (by decide) rfl (fun ls hl => ?_)
                    refine lv_goto (tgt := 85) hx hb dX11_keyOrAll_155 (by decide) ?_
                    exact ihJ_352 (z_380) σ_s_371 _ _ _ (by first | (dsimp only; omega) | omega) ⟨hO, hF, hM, hsr, hH, hS, lv_sub hl [1, 2, 3, 4, 0] rfl, rz_380, by first | (dsimp only; omega) | omega, by first | (dsimp only; omega) | omega, by first | (dsimp only; omega) | omega, by first | (dsimp only; omega) | omega, e_372, e_373, e_374, e_375, e_376⟩
                  · replace c_370 := (I_eq (a := z_4) (b := 0) rz_4 (show rng 0 from ⟨by decide, by decide⟩)).mp c_370
                    refine lv_aload_n hx hb dX11_keyOrAll_120 rfl (lv_at hl 0 rfl) ?_
                    refine ok.getR hO h_a (by decide) k13_1 (by decide) (fun _ _ he hv kk => th_get (ci := 11) (C := RX11) (T := TX11) (N := 66) hx hb hts inX11 hown hK hH he rfl 1 (by decide) fl2 hv dX11_keyOrAll_121 kk) ?_
                    refine lv_iconst (v := I 4) hx hb dX11_keyOrAll_124 (by decide) ?_
                    refine lv_iload hx hb dX11_keyOrAll_125 (lv_at hl 4 rfl) ?_
                    refine lv_imul hx hb dX11_keyOrAll_127 ?_
                    refine nq_top (I_mul _ _) ?_
                    refine lv_iconst (v := I 2) hx hb dX11_keyOrAll_128 (by decide) ?_
                    refine lv_iadd hx hb dX11_keyOrAll_129 ?_
                    refine nq_top (I_add _ _) ?_
                    refine m_iald hx hb hK hH hO h_a k13_1 isA1 J_352_8 ⟨by omega, by omega⟩ (by omega) (by omega) dX11_keyOrAll_130 (fun z_381 ez_381 rz_381 elx9 => ?_)
                    refine lv_iload_n hx hb dX11_keyOrAll_131 rfl (lv_at hl 2 rfl) ?_
                    refine lv_icmp_ne (tgt := 139) hx hb dX11_keyOrAll_132 (by decide) (fun c_382 => ?_) (fun c_382 => ?_)
                    · replace c_382 := mt (I_eq (a := z_381) (b := 0) rz_381 (show rng 0 from ⟨by decide, by decide⟩)).mpr c_382
                      refine lv_iconst (v := I 0) hx hb dX11_keyOrAll_139 (by decide) ?_
                      refine m_zast hx hb hK hH hS h00 hO h_a k13_24 (by decide) rv4q351 (by omega) (by omega) (by omega) dX11_keyOrAll_140 (fun σ_s_383 H locs hO hF9 hM9 hH hS => ?_)
                      replace hM := hM.tu hM9 (by decide)
                      replace hF := hF.tu hF9 (by decide)
                      have e_384 : gI σ_s_383 a 11 = a110 := (hM9.i (by decide)).trans J_352_4
                      have e_385 : gI σ_s_383 a 13 = z_330 := (hM9.i (by decide)).trans J_352_5
                      have e_386 : gI σ_s_383 a 17 = z_332 := (hM9.i (by decide)).trans J_352_6
                      have e_387 : gI σ_s_383 a 25 = z_341 := (hM9.i (by decide)).trans J_352_7
                      have e_388 : aF σ_s_383 (ad E a 1) = f1 := (hM9.a (by decide) (by decide)).trans J_352_8
                      replace hsr := hsr.mv hM9 (by decide) (by decide) (by decide) (by decide) (by decide)
                      refine lv_iload hx hb dX11_keyOrAll_141 (lv_at hl 4 rfl) ?_
                      refine lv_aload_n hx hb dX11_keyOrAll_143 rfl (lv_at hl 0 rfl) ?_
                      refine ok.getR hO h_a (by decide) k13_1 (by decide) (fun _ _ he hv kk => th_get (ci := 11) (C := RX11) (T := TX11) (N := 66) hx hb hts inX11 hown hK hH he rfl 1 (by decide) fl2 hv dX11_keyOrAll_144 kk) ?_
                      refine lv_iload hx hb dX11_keyOrAll_147 (lv_at hl 4 rfl) ?_
                      refine th_calli (va_runS (As := [.ref (ad E a 1), .int (I v4q351)]) (rest := [.int (I v4q351)]) ⟨hx, hb, hml, hown, hts⟩ (w_size l G y b0 σ_s_383 E hO (ad E a 1) 240 f1 (hO.roww h_a k13_1 isA1 e_388 rfl) v4q351 (show rng v4q351 from rv4q351) (by omega) (by omega) (by omega)) (va_cwS 2 hts gX11_keyOrAll_X11_size rfl rfl rfl (by decide +kernel) ⟨Nat.le_of_ble_eq_true rfl, Nat.le_of_ble_eq_true rfl⟩) (th_PS hK hH) rfl rfl hl.1 rfl (lv_room (Nat.le_of_ble_eq_true rfl)) dX11_keyOrAll_149 ⟨Nat.le_of_ble_eq_true rfl, Nat.le_of_ble_eq_true rfl⟩) hS (fun z_391 σ_s_390 H locs rz_391 hw_389 hH hS => ?_)
                      obtain ⟨e9, hw_389⟩ := hw_389
                      replace e9 := e9.symm
                      subst e9
                      have hw_389 : z_391 = mS f1 v4q351 := hw_389
                      refine lv_iadd hx hb dX11_keyOrAll_152 ?_
                      refine th_addo (fun z_392 rz_392 hz_392 => ?_)
                      refine lv_istore (lv' := [(4, .int (I z_392)), (0, .ref a), (1, .int (I z_4)), (2, .int (I 0)), (3, .int (I v3q334))]) hx hb dX11_keyOrAll_153 hl (by decide) rfl (fun ls hl => ?_)
                      refine lv_goto (tgt := 85) hx hb dX11_keyOrAll_155 (by decide) ?_
                      exact ihJ_352 (z_392) σ_s_383 _ _ _ (by first | (dsimp only; omega) | omega) ⟨hO, hF, hM, hsr, hH, hS, lv_sub hl [1, 2, 3, 4, 0] rfl, rz_392, by first | (dsimp only; omega) | omega, by first | (dsimp only; omega) | omega, by first | (dsimp only; omega) | omega, by first | (dsimp only; omega) | omega, e_384, e_385, e_386, e_387, e_388⟩
                    · replace c_382 := (I_eq (a := z_381) (b := 0) rz_381 (show rng 0 from ⟨by decide, by decide⟩)).mp c_382
                      refine lv_iconst (v := I 1) hx hb dX11_keyOrAll_135 (by decide) ?_
                      refine lv_goto (tgt := 140) hx hb dX11_keyOrAll_136 (by decide) ?_
                      refine m_zast hx hb hK hH hS h00 hO h_a k13_24 (by decide) rv4q351 (by omega) (by omega) (by omega) dX11_keyOrAll_140 (fun σ_s_393 H locs hO hF9 hM9 hH hS => ?_)
                      replace hM := hM.tu hM9 (by decide)
                      replace hF := hF.tu hF9 (by decide)
                      have e_394 : gI σ_s_393 a 11 = a110 := (hM9.i (by decide)).trans J_352_4
                      have e_395 : gI σ_s_393 a 13 = z_330 := (hM9.i (by decide)).trans J_352_5
                      have e_396 : gI σ_s_393 a 17 = z_332 := (hM9.i (by decide)).trans J_352_6
                      have e_397 : gI σ_s_393 a 25 = z_341 := (hM9.i (by decide)).trans J_352_7
                      have e_398 : aF σ_s_393 (ad E a 1) = f1 := (hM9.a (by decide) (by decide)).trans J_352_8
                      replace hsr := hsr.mv hM9 (by decide) (by decide) (by decide) (by decide) (by decide)
                      refine lv_iload hx hb dX11_keyOrAll_141 (lv_at hl 4 rfl) ?_
                      refine lv_aload_n hx hb dX11_keyOrAll_143 rfl (lv_at hl 0 rfl) ?_
                      refine ok.getR hO h_a (by decide) k13_1 (by decide) (fun _ _ he hv kk => th_get (ci := 11) (C := RX11) (T := TX11) (N := 66) hx hb hts inX11 hown hK hH he rfl 1 (by decide) fl2 hv dX11_keyOrAll_144 kk) ?_
                      refine lv_iload hx hb dX11_keyOrAll_147 (lv_at hl 4 rfl) ?_
                      refine th_calli (va_runS (As := [.ref (ad E a 1), .int (I v4q351)]) (rest := [.int (I v4q351)]) ⟨hx, hb, hml, hown, hts⟩ (w_size l G y b0 σ_s_393 E hO (ad E a 1) 240 f1 (hO.roww h_a k13_1 isA1 e_398 rfl) v4q351 (show rng v4q351 from rv4q351) (by omega) (by omega) (by omega)) (va_cwS 2 hts gX11_keyOrAll_X11_size rfl rfl rfl (by decide +kernel) ⟨Nat.le_of_ble_eq_true rfl, Nat.le_of_ble_eq_true rfl⟩) (th_PS hK hH) rfl rfl hl.1 rfl (lv_room (Nat.le_of_ble_eq_true rfl)) dX11_keyOrAll_149 ⟨Nat.le_of_ble_eq_true rfl, Nat.le_of_ble_eq_true rfl⟩) hS (fun z_401 σ_s_400 H locs rz_401 hw_399 hH hS => ?_)
                      obtain ⟨e9, hw_399⟩ := hw_399
                      replace e9 := e9.symm
                      subst e9
                      have hw_399 : z_401 = mS f1 v4q351 := hw_399
                      refine lv_iadd hx hb dX11_keyOrAll_152 ?_
                      refine th_addo (fun z_402 rz_402 hz_402 => ?_)
                      refine lv_istore (lv' := [(4, .int (I z_402)), (0, .ref a), (1, .int (I z_4)), (2, .int (I 0)), (3, .int (I v3q334))]) hx hb dX11_keyOrAll_153 hl (by decide) rfl (fun ls hl => ?_)
                      refine lv_goto (tgt := 85) hx hb dX11_keyOrAll_155 (by decide) ?_
                      exact ihJ_352 (z_402) σ_s_393 _ _ _ (by first | (dsimp only; omega) | omega) ⟨hO, hF, hM, hsr, hH, hS, lv_sub hl [1, 2, 3, 4, 0] rfl, rz_402, by first | (dsimp only; omega) | omega, by first | (dsimp only; omega) | omega, by first | (dsimp only; omega) | omega, by first | (dsimp only; omega) | omega, e_394, e_395, e_396, e_397, e_398⟩
            · replace c_350 := (I_eq (a := z_4) (b := 0) rz_4 (show rng 0 from ⟨by decide, by decide⟩)).mp c_350
              refine lv_aload_n hx hb dX11_keyOrAll_65 rfl (lv_at hl 0 rfl) ?_
              refine ok.getR hO h_a (by decide) k13_1 (by decide) (fun _ _ he hv kk => th_get (ci := 11) (C := RX11) (T := TX11) (N := 66) hx hb hts inX11 hown hK hH he rfl 1 (by decide) fl2 hv dX11_keyOrAll_66 kk) ?_
              refine lv_iload_n hx hb dX11_keyOrAll_69 rfl (lv_at hl 3 rfl) ?_
              refine th_calli (va_runS (As := [.ref (ad E a 1), .int (I v3q334)]) (rest := []) ⟨hx, hb, hml, hown, hts⟩ (w_kind l G y b0 σ_J_335 E hO (ad E a 1) 240 f1 (hO.roww h_a k13_1 isA1 J_335_5 rfl) v3q334 (show rng v3q334 from rv3q334) (by omega) (by omega) (by omega)) (va_cwS 2 hts gX11_keyOrAll_X11_kind rfl rfl rfl (by decide +kernel) ⟨Nat.le_of_ble_eq_true rfl, Nat.le_of_ble_eq_true rfl⟩) (th_PS hK hH) rfl rfl hl.1 rfl (lv_room (Nat.le_of_ble_eq_true rfl)) dX11_keyOrAll_70 ⟨Nat.le_of_ble_eq_true rfl, Nat.le_of_ble_eq_true rfl⟩) hS (fun z_405 σ_s_404 H locs rz_405 hw_403 hH hS => ?_)
              obtain ⟨e9, hw_403⟩ := hw_403
              replace e9 := e9.symm
              subst e9
              have hw_403 : z_405 = mK f1 v3q334 := hw_403
              refine lv_iconst (v := I 3) hx hb dX11_keyOrAll_73 (by decide) ?_
              refine lv_icmp_eq (tgt := 80) hx hb dX11_keyOrAll_74 (by decide) (fun c_406 => ?_) (fun c_406 => ?_)
              · replace c_406 := (I_eq (a := z_405) (b := 3) rz_405 (show rng 3 from ⟨by decide, by decide⟩)).mp c_406
                have hk3 := hy0 v3q334 (by omega) (by omega)
                refine lv_iload_n hx hb dX11_keyOrAll_80 rfl (lv_at hl 3 rfl) ?_
                refine lv_iconst (v := I 1) hx hb dX11_keyOrAll_81 (by decide) ?_
                refine lv_iadd hx hb dX11_keyOrAll_82 ?_
                refine nq_top (I_add _ _) ?_
                refine lv_istore (lv' := [(4, .int (I (v3q334 + 1))), (0, .ref a), (1, .int (I z_4)), (2, .int (I 0)), (3, .int (I v3q334))]) hx hb dX11_keyOrAll_83 hl (by decide) rfl (fun ls hl => ?_)
                refine th_loop (α := Int) (pc := 85) (fun x9 => (v3q334 + mS f1 v3q334 - x9).toNat) (fun x9 σ9 H9 l9 ls9 => ok y E σ9 ∧ fr [13] E σ σ9 ∧ fm [13, 14, 15, 16, 17, 18, 19, 20, 24] E σ σ9 a ∧ sr E σ9 a Bf ∧ th_H G b0 σ9 H9 ∧ va_S (th_A b0) s.heap H9 l9 ∧ lv_has ls9 5 [(0, .ref a), (1, .int (I z_4)), (2, .int (I 0)), (3, .int (I v3q334)), (4, .int (I x9))] ∧ rng x9 ∧ (v3q334 + 1 ≤ x9) ∧ (x9 ≤ v3q334 + mS f1 v3q334) ∧ (0 ≤ x9) ∧ (x9 ≤ 60) ∧ (gI σ9 a 11 = a110) ∧ (gI σ9 a 13 = z_330) ∧ (gI σ9 a 17 = z_332) ∧ (gI σ9 a 25 = z_341) ∧ (aF σ9 (ad E a 1) = f1)) ?_ (v3q334 + 1) σ_J_335 _ _ _ ⟨hO, hF, hM, hsr, hH, hS, lv_sub hl [1, 2, 3, 4, 0] rfl, ⟨by first | (dsimp only; omega) | omega, by first | (dsimp only; omega) | omega⟩, by first | (dsimp only; omega) | omega, by first | (dsimp only; omega) | omega, by first | (dsimp only; omega) | omega, by first | (dsimp only; omega) | omega, J_335_2, J_335_3, J_335_4, e_342, J_335_5⟩
                intro x9 σ_J_408 H locs ls hI9 ihJ_408
                obtain ⟨v4q407, ex9⟩ : ∃ z, z = x9 := ⟨_, rfl⟩
                subst ex9
                obtain ⟨hO, hF, hM, hsr, hH, hS, hl, rv4q407, J_408_0, J_408_1, J_408_2, J_408_3, J_408_4, J_408_5, J_408_6, J_408_7, J_408_8⟩ := hI9
                have hl : lv_has ls 5 [(0, .ref a), (1, .int (I z_4)), (2, .int (I 0)), (3, .int (I v3q334)), (4, .int (I v4q407))] := hl
                have rv4q407 : rng v4q407 := rv4q407
                have J_408_0 : v3q334 + 1 ≤ v4q407 := J_408_0
                have J_408_1 : v4q407 ≤ v3q334 + mS f1 v3q334 := J_408_1
                have J_408_2 : 0 ≤ v4q407 := J_408_2
                have J_408_3 : v4q407 ≤ 60 := J_408_3
                have J_408_4 : gI σ_J_408 a 11 = a110 := J_408_4
                have J_408_5 : gI σ_J_408 a 13 = z_330 := J_408_5
                have J_408_6 : gI σ_J_408 a 17 = z_332 := J_408_6
                have J_408_7 : gI σ_J_408 a 25 = z_341 := J_408_7
                have J_408_8 : aF σ_J_408 (ad E a 1) = f1 := J_408_8
                refine lv_iload hx hb dX11_keyOrAll_85 (lv_at hl 4 rfl) ?_
                refine lv_iload_n hx hb dX11_keyOrAll_87 rfl (lv_at hl 3 rfl) ?_
                refine lv_aload_n hx hb dX11_keyOrAll_88 rfl (lv_at hl 0 rfl) ?_
                refine ok.getR hO h_a (by decide) k13_1 (by decide) (fun _ _ he hv kk => th_get (ci := 11) (C := RX11) (T := TX11) (N := 66) hx hb hts inX11 hown hK hH he rfl 1 (by decide) fl2 hv dX11_keyOrAll_89 kk) ?_
                refine lv_iload_n hx hb dX11_keyOrAll_92 rfl (lv_at hl 3 rfl) ?_
                refine th_calli (va_runS (As := [.ref (ad E a 1), .int (I v3q334)]) (rest := [.int (I v3q334), .int (I v4q407)]) ⟨hx, hb, hml, hown, hts⟩ (w_size l G y b0 σ_J_408 E hO (ad E a 1) 240 f1 (hO.roww h_a k13_1 isA1 J_408_8 rfl) v3q334 (show rng v3q334 from rv3q334) (by omega) (by omega) (by omega)) (va_cwS 2 hts gX11_keyOrAll_X11_size rfl rfl rfl (by decide +kernel) ⟨Nat.le_of_ble_eq_true rfl, Nat.le_of_ble_eq_true rfl⟩) (th_PS hK hH) rfl rfl hl.1 rfl (lv_room (Nat.le_of_ble_eq_true rfl)) dX11_keyOrAll_93 ⟨Nat.le_of_ble_eq_true rfl, Nat.le_of_ble_eq_true rfl⟩) hS (fun z_411 σ_s_410 H locs rz_411 hw_409 hH hS => ?_)
                obtain ⟨e9, hw_409⟩ := hw_409
                replace e9 := e9.symm
                subst e9
                have hw_409 : z_411 = mS f1 v3q334 := hw_409
                refine lv_iadd hx hb dX11_keyOrAll_96 ?_
                refine th_addo (fun z_412 rz_412 hz_412 => ?_)
                refine lv_icmp_ge (tgt := 158) hx hb dX11_keyOrAll_97 (by decide) (fun c_413 => ?_) (fun c_413 => ?_)
                · replace c_413 := (I_le (a := z_412) (b := v4q407) rz_412 rv4q407).mp c_413
                  refine lv_iinc (v := I (v3q334 + 1)) (lv' := [(3, .int (I (v3q334 + 1))), (0, .ref a), (1, .int (I z_4)), (2, .int (I 0)), (4, .int (I v4q407))]) hx hb dX11_keyOrAll_158 hl (k := 3) rfl (I_add _ _) (by decide) rfl (fun ls hl => ?_)
                  refine lv_goto (tgt := 26) hx hb dX11_keyOrAll_161 (by decide) ?_
                  replace hl : lv_has ls 5 [(3, .int (I (v3q334 + 1))), (0, .ref a), (1, .int (I z_4)), (2, .int (I 0))] := lv_sub hl [0, 1, 2, 3] rfl
                  exact ihJ_335 (v3q334 + 1) σ_J_408 _ _ _ (by first | (dsimp only; omega) | omega) ⟨hO, hF, hM, hsr, hH, hS, lv_sub hl [1, 2, 3, 0] rfl, ⟨by first | (dsimp only; omega) | omega, by first | (dsimp only; omega) | omega⟩, by first | (dsimp only; omega) | omega, by first | (dsimp only; omega) | omega, J_408_4, J_408_5, J_408_6, J_408_8⟩
                · replace c_413 := mt (I_le (a := z_412) (b := v4q407) rz_412 rv4q407).mpr c_413
                  have hk4 := hy0 v4q407 (by omega) (by omega)
                  have hk5 := hk3.2.2 v4q407 (by omega) (by omega)
                  refine lv_aload_n hx hb dX11_keyOrAll_100 rfl (lv_at hl 0 rfl) ?_
                  refine ok.getR hO h_a (by decide) k13_24 (by decide) (fun _ _ he hv kk => th_get (ci := 11) (C := RX11) (T := TX11) (N := 66) hx hb hts inX11 hown hK hH he rfl 24 (by decide) fl3 hv dX11_keyOrAll_101 kk) ?_
                  refine lv_iload hx hb dX11_keyOrAll_104 (lv_at hl 4 rfl) ?_
                  refine lv_aload_n hx hb dX11_keyOrAll_106 rfl (lv_at hl 0 rfl) ?_
                  refine ok.getR hO h_a (by decide) k13_24 (by decide) (fun _ _ he hv kk => th_get (ci := 11) (C := RX11) (T := TX11) (N := 66) hx hb hts inX11 hown hK hH he rfl 24 (by decide) fl3 hv dX11_keyOrAll_107 kk) ?_
                  refine lv_iload hx hb dX11_keyOrAll_110 (lv_at hl 4 rfl) ?_
                  refine m_zald hx hb hK hH hO h_a k13_24 rv4q407 (by omega) (by omega) dX11_keyOrAll_112 (fun z_414 rz_414 uz_414 => ?_)
                  refine lv_if_ne (tgt := 135) hx hb dX11_keyOrAll_113 (by decide) (fun c_415 => ?_) (fun c_415 => ?_)
                  · replace c_415 := mt (I_eq (a := z_414) (b := 0) rz_414 (show rng 0 from ⟨by decide, by decide⟩)).mpr c_415
                    refine lv_iconst (v := I 1) hx hb dX11_keyOrAll_135 (by decide) ?_
                    refine lv_goto (tgt := 140) hx hb dX11_keyOrAll_136 (by decide) ?_
                    refine m_zast hx hb hK hH hS h00 hO h_a k13_24 (by decide) rv4q407 (by omega) (by omega) (by omega) dX11_keyOrAll_140 (fun σ_s_416 H locs hO hF9 hM9 hH hS => ?_)
                    replace hM := hM.tu hM9 (by decide)
                    replace hF := hF.tu hF9 (by decide)
                    have e_417 : gI σ_s_416 a 11 = a110 := (hM9.i (by decide)).trans J_408_4
                    have e_418 : gI σ_s_416 a 13 = z_330 := (hM9.i (by decide)).trans J_408_5
                    have e_419 : gI σ_s_416 a 17 = z_332 := (hM9.i (by decide)).trans J_408_6
                    have e_420 : gI σ_s_416 a 25 = z_341 := (hM9.i (by decide)).trans J_408_7
                    have e_421 : aF σ_s_416 (ad E a 1) = f1 := (hM9.a (by decide) (by decide)).trans J_408_8
                    replace hsr := hsr.mv hM9 (by decide) (by decide) (by decide) (by decide) (by decide)
                    refine lv_iload hx hb dX11_keyOrAll_141 (lv_at hl 4 rfl) ?_
                    refine lv_aload_n hx hb dX11_keyOrAll_143 rfl (lv_at hl 0 rfl) ?_
                    refine ok.getR hO h_a (by decide) k13_1 (by decide) (fun _ _ he hv kk => th_get (ci := 11) (C := RX11) (T := TX11) (N := 66) hx hb hts inX11 hown hK hH he rfl 1 (by decide) fl2 hv dX11_keyOrAll_144 kk) ?_
                    refine lv_iload hx hb dX11_keyOrAll_147 (lv_at hl 4 rfl) ?_
                    refine th_calli (va_runS (As := [.ref (ad E a 1), .int (I v4q407)]) (rest := [.int (I v4q407)]) ⟨hx, hb, hml, hown, hts⟩ (w_size l G y b0 σ_s_416 E hO (ad E a 1) 240 f1 (hO.roww h_a k13_1 isA1 e_421 rfl) v4q407 (show rng v4q407 from rv4q407) (by omega) (by omega) (by omega)) (va_cwS 2 hts gX11_keyOrAll_X11_size rfl rfl rfl (by decide +kernel) ⟨Nat.le_of_ble_eq_true rfl, Nat.le_of_ble_eq_true rfl⟩) (th_PS hK hH) rfl rfl hl.1 rfl (lv_room (Nat.le_of_ble_eq_true rfl)) dX11_keyOrAll_149 ⟨Nat.le_of_ble_eq_true rfl, Nat.le_of_ble_eq_true rfl⟩) hS (fun z_424 σ_s_423 H locs rz_424 hw_422 hH hS => ?_)
                    obtain ⟨e9, hw_422⟩ := hw_422
                    replace e9 := e9.symm
                    subst e9
                    have hw_422 : z_424 = mS f1 v4q407 := hw_422
                    refine lv_iadd hx hb dX11_keyOrAll_152 ?_
                    refine th_addo (fun z_425 rz_425 hz_425 => ?_)
                    refine lv_istore (lv' := [(4, .int (I z_425)), (0, .ref a), (1, .int (I z_4)), (2, .int (I 0)), (3, .int (I v3q334))]) hx hb dX11_keyOrAll_153 hl (by decide) rfl (fun ls hl => ?_)
                    refine lv_goto (tgt := 85) hx hb dX11_keyOrAll_155 (by decide) ?_
                    exact ihJ_408 (z_425) σ_s_416 _ _ _ (by first | (dsimp only; omega) | omega) ⟨hO, hF, hM, hsr, hH, hS, lv_sub hl [1, 2, 3, 4, 0] rfl, rz_425, by first | (dsimp only; omega) | omega, by first | (dsimp only; omega) | omega, by first | (dsimp only; omega) | omega, by first | (dsimp only; omega) | omega, e_417, e_418, e_419, e_420, e_421⟩
                  · replace c_415 := (I_eq (a := z_414) (b := 0) rz_414 (show rng 0 from ⟨by decide, by decide⟩)).mp c_415
                    refine lv_iload_n hx hb dX11_keyOrAll_116 rfl (lv_at hl 1 rfl) ?_
                    refine lv_if_ne (tgt := 135) hx hb dX11_keyOrAll_117 (by decide) (fun c_426 => ?_) (fun c_426 => ?_)
                    · replace c_426 := mt (I_eq (a := z_4) (b := 0) rz_4 (show rng 0 from ⟨by decide, by decide⟩)).mpr c_426
                      refine lv_iconst (v := I 1) hx hb dX11_keyOrAll_135 (by decide) ?_
                      refine lv_goto (tgt := 140) hx hb dX11_keyOrAll_136 (by decide) ?_
                      refine m_zast hx hb hK hH hS h00 hO h_a k13_24 (by decide) rv4q407 (by omega) (by omega) (by omega) dX11_keyOrAll_140 (fun σ_s_427 H locs hO hF9 hM9 hH hS => ?_)
                      replace hM := hM.tu hM9 (by decide)
                      replace hF := hF.tu hF9 (by decide)
                      have e_428 : gI σ_s_427 a 11 = a110 := (hM9.i (by decide)).trans J_408_4
                      have e_429 : gI σ_s_427 a 13 = z_330 := (hM9.i (by decide)).trans J_408_5
                      have e_430 : gI σ_s_427 a 17 = z_332 := (hM9.i (by decide)).trans J_408_6
                      have e_431 : gI σ_s_427 a 25 = z_341 := (hM9.i (by decide)).trans J_408_7
                      have e_432 : aF σ_s_427 (ad E a 1) = f1 := (hM9.a (by decide) (by decide)).trans J_408_8
                      replace hsr := hsr.mv hM9 (by decide) (by decide) (by decide) (by decide) (by decide)
                      refine lv_iload hx hb dX11_keyOrAll_141 (lv_at hl 4 rfl) ?_
                      refine lv_aload_n hx hb dX11_keyOrAll_143 rfl (lv_at hl 0 rfl) ?_
                      refine ok.getR hO h_a (by decide) k13_1 (by decide) (fun _ _ he hv kk => th_get (ci := 11) (C := RX11) (T := TX11) (N := 66) hx hb hts inX11 hown hK hH he rfl 1 (by decide) fl2 hv dX11_keyOrAll_144 kk) ?_
                      refine lv_iload hx hb dX11_keyOrAll_147 (lv_at hl 4 rfl) ?_
                      refine th_calli (va_runS (As := [.ref (ad E a 1), .int (I v4q407)]) (rest := [.int (I v4q407)]) ⟨hx, hb, hml, hown, hts⟩ (w_size l G y b0 σ_s_427 E hO (ad E a 1) 240 f1 (hO.roww h_a k13_1 isA1 e_432 rfl) v4q407 (show rng v4q407 from rv4q407) (by omega) (by omega) (by omega)) (va_cwS 2 hts gX11_keyOrAll_X11_size rfl rfl rfl (by decide +kernel) ⟨Nat.le_of_ble_eq_true rfl, Nat.le_of_ble_eq_true rfl⟩) (th_PS hK hH) rfl rfl hl.1 rfl (lv_room (Nat.le_of_ble_eq_true rfl)) dX11_keyOrAll_149 ⟨Nat.le_of_ble_eq_true rfl, Nat.le_of_ble_eq_true rfl⟩) hS (fun z_435 σ_s_434 H locs rz_435 hw_433 hH hS => ?_)
                      obtain ⟨e9, hw_433⟩ := hw_433
                      replace e9 := e9.symm
                      subst e9
                      have hw_433 : z_435 = mS f1 v4q407 := hw_433
                      refine lv_iadd hx hb dX11_keyOrAll_152 ?_
                      refine th_addo (fun z_436 rz_436 hz_436 => ?_)
                      refine lv_istore (lv' := [(4, .int (I z_436)), (0, .ref a), (1, .int (I z_4)), (2, .int (I 0)), (3, .int (I v3q334))]) hx hb dX11_keyOrAll_153 hl (by decide) rfl (fun ls hl => ?_)
                      refine lv_goto (tgt := 85) hx hb dX11_keyOrAll_155 (by decide) ?_
                      exact ihJ_408 (z_436) σ_s_427 _ _ _ (by first | (dsimp only; omega) | omega) ⟨hO, hF, hM, hsr, hH, hS, lv_sub hl [1, 2, 3, 4, 0] rfl, rz_436, by first | (dsimp only; omega) | omega, by first | (dsimp only; omega) | omega, by first | (dsimp only; omega) | omega, by first | (dsimp only; omega) | omega, e_428, e_429, e_430, e_431, e_432⟩
                    · replace c_426 := (I_eq (a := z_4) (b := 0) rz_4 (show rng 0 from ⟨by decide, by decide⟩)).mp c_426
                      refine lv_aload_n hx hb dX11_keyOrAll_120 rfl (lv_at hl 0 rfl) ?_
                      refine ok.getR hO h_a (by decide) k13_1 (by decide) (fun _ _ he hv kk => th_get (ci := 11) (C := RX11) (T := TX11) (N := 66) hx hb hts inX11 hown hK hH he rfl 1 (by decide) fl2 hv dX11_keyOrAll_121 kk) ?_
                      refine lv_iconst (v := I 4) hx hb dX11_keyOrAll_124 (by decide) ?_
                      refine lv_iload hx hb dX11_keyOrAll_125 (lv_at hl 4 rfl) ?_
                      refine lv_imul hx hb dX11_keyOrAll_127 ?_
                      refine nq_top (I_mul _ _) ?_
                      refine lv_iconst (v := I 2) hx hb dX11_keyOrAll_128 (by decide) ?_
                      refine lv_iadd hx hb dX11_keyOrAll_129 ?_
                      refine nq_top (I_add _ _) ?_
                      refine m_iald hx hb hK hH hO h_a k13_1 isA1 J_408_8 ⟨by omega, by omega⟩ (by omega) (by omega) dX11_keyOrAll_130 (fun z_437 ez_437 rz_437 elx9 => ?_)
                      refine lv_iload_n hx hb dX11_keyOrAll_131 rfl (lv_at hl 2 rfl) ?_
                      refine lv_icmp_ne (tgt := 139) hx hb dX11_keyOrAll_132 (by decide) (fun c_438 => ?_) (fun c_438 => ?_)
                      · replace c_438 := mt (I_eq (a := z_437) (b := 0) rz_437 (show rng 0 from ⟨by decide, by decide⟩)).mpr c_438
                        refine lv_iconst (v := I 0) hx hb dX11_keyOrAll_139 (by decide) ?_
                        refine m_zast hx hb hK hH hS h00 hO h_a k13_24 (by decide) rv4q407 (by omega) (by omega) (by omega) dX11_keyOrAll_140 (fun σ_s_439 H locs hO hF9 hM9 hH hS => ?_)
                        replace hM := hM.tu hM9 (by decide)
                        replace hF := hF.tu hF9 (by decide)
                        have e_440 : gI σ_s_439 a 11 = a110 := (hM9.i (by decide)).trans J_408_4
                        have e_441 : gI σ_s_439 a 13 = z_330 := (hM9.i (by decide)).trans J_408_5
                        have e_442 : gI σ_s_439 a 17 = z_332 := (hM9.i (by decide)).trans J_408_6
                        have e_443 : gI σ_s_439 a 25 = z_341 := (hM9.i (by decide)).trans J_408_7
                        have e_444 : aF σ_s_439 (ad E a 1) = f1 := (hM9.a (by decide) (by decide)).trans J_408_8
                        replace hsr := hsr.mv hM9 (by decide) (by decide) (by decide) (by decide) (by decide)
                        refine lv_iload hx hb dX11_keyOrAll_141 (lv_at hl 4 rfl) ?_
                        refine lv_aload_n hx hb dX11_keyOrAll_143 rfl (lv_at hl 0 rfl) ?_
                        refine ok.getR hO h_a (by decide) k13_1 (by decide) (fun _ _ he hv kk => th_get (ci := 11) (C := RX11) (T := TX11) (N := 66) hx hb hts inX11 hown hK hH he rfl 1 (by decide) fl2 hv dX11_keyOrAll_144 kk) ?_
                        refine lv_iload hx hb dX11_keyOrAll_147 (lv_at hl 4 rfl) ?_
                        refine th_calli (va_runS (As := [.ref (ad E a 1), .int (I v4q407)]) (rest := [.int (I v4q407)]) ⟨hx, hb, hml, hown, hts⟩ (w_size l G y b0 σ_s_439 E hO (ad E a 1) 240 f1 (hO.roww h_a k13_1 isA1 e_444 rfl) v4q407 (show rng v4q407 from rv4q407) (by omega) (by omega) (by omega)) (va_cwS 2 hts gX11_keyOrAll_X11_size rfl rfl rfl (by decide +kernel) ⟨Nat.le_of_ble_eq_true rfl, Nat.le_of_ble_eq_true rfl⟩) (th_PS hK hH) rfl rfl hl.1 rfl (lv_room (Nat.le_of_ble_eq_true rfl)) dX11_keyOrAll_149 ⟨Nat.le_of_ble_eq_true rfl, Nat.le_of_ble_eq_true rfl⟩) hS (fun z_447 σ_s_446 H locs rz_447 hw_445 hH hS => ?_)
                        obtain ⟨e9, hw_445⟩ := hw_445
                        replace e9 := e9.symm
                        subst e9
                        have hw_445 : z_447 = mS f1 v4q407 := hw_445
                        refine lv_iadd hx hb dX11_keyOrAll_152 ?_
                        refine th_addo (fun z_448 rz_448 hz_448 => ?_)
                        refine lv_istore (lv' := [(4, .int (I z_448)), (0, .ref a), (1, .int (I z_4)), (2, .int (I 0)), (3, .int (I v3q334))]) hx hb dX11_keyOrAll_153 hl (by decide) rfl (fun ls hl => ?_)
                        refine lv_goto (tgt := 85) hx hb dX11_keyOrAll_155 (by decide) ?_
                        exact ihJ_408 (z_448) σ_s_439 _ _ _ (by first | (dsimp only; omega) | omega) ⟨hO, hF, hM, hsr, hH, hS, lv_sub hl [1, 2, 3, 4, 0] rfl, rz_448, by first | (dsimp only; omega) | omega, by first | (dsimp only; omega) | omega, by first | (dsimp only; omega) | omega, by first | (dsimp only; omega) | omega, e_440, e_441, e_442, e_443, e_444⟩
                      · replace c_438 := (I_eq (a := z_437) (b := 0) rz_437 (show rng 0 from ⟨by decide, by decide⟩)).mp c_438
                        refine lv_iconst (v := I 1) hx hb dX11_keyOrAll_135 (by decide) ?_
                        refine lv_goto (tgt := 140) hx hb dX11_keyOrAll_136 (by decide) ?_
                        refine m_zast hx hb hK hH hS h00 hO h_a k13_24 (by decide) rv4q407 (by omega) (by omega) (by omega) dX11_keyOrAll_140 (fun σ_s_449 H locs hO hF9 hM9 hH hS => ?_)
                        replace hM := hM.tu hM9 (by decide)
                        replace hF := hF.tu hF9 (by decide)
                        have e_450 : gI σ_s_449 a 11 = a110 := (hM9.i (by decide)).trans J_408_4
                        have e_451 : gI σ_s_449 a 13 = z_330 := (hM9.i (by decide)).trans J_408_5
                        have e_452 : gI σ_s_449 a 17 = z_332 := (hM9.i (by decide)).trans J_408_6
                        have e_453 : gI σ_s_449 a 25 = z_341 := (hM9.i (by decide)).trans J_408_7
                        have e_454 : aF σ_s_449 (ad E a 1) = f1 := (hM9.a (by decide) (by decide)).trans J_408_8
                        replace hsr := hsr.mv hM9 (by decide) (by decide) (by decide) (by decide) (by decide)
                        refine lv_iload hx hb dX11_keyOrAll_141 (lv_at hl 4 rfl) ?_
                        refine lv_aload_n hx hb dX11_keyOrAll_143 rfl (lv_at hl 0 rfl) ?_
                        refine ok.getR hO h_a (by decide) k13_1 (by decide) (fun _ _ he hv kk => th_get (ci := 11) (C := RX11) (T := TX11) (N := 66) hx hb hts inX11 hown hK hH he rfl 1 (by decide) fl2 hv dX11_keyOrAll_144 kk) ?_
                        refine lv_iload hx hb dX11_keyOrAll_147 (lv_at hl 4 rfl) ?_
                        refine th_calli (va_runS (As := [.ref (ad E a 1), .int (I v4q407)]) (rest := [.int (I v4q407)]) ⟨hx, hb, hml, hown, hts⟩ (w_size l G y b0 σ_s_449 E hO (ad E a 1) 240 f1 (hO.roww h_a k13_1 isA1 e_454 rfl) v4q407 (show rng v4q407 from rv4q407) (by omega) (by omega) (by omega)) (va_cwS 2 hts gX11_keyOrAll_X11_size rfl rfl rfl (by decide +kernel) ⟨Nat.le_of_ble_eq_true rfl, Nat.le_of_ble_eq_true rfl⟩) (th_PS hK hH) rfl rfl hl.1 rfl (lv_room (Nat.le_of_ble_eq_true rfl)) dX11_keyOrAll_149 ⟨Nat.le_of_ble_eq_true rfl, Nat.le_of_ble_eq_true rfl⟩) hS (fun z_457 σ_s_456 H locs rz_457 hw_455 hH hS => ?_)
                        obtain ⟨e9, hw_455⟩ := hw_455
                        replace e9 := e9.symm
                        subst e9
                        have hw_455 : z_457 = mS f1 v4q407 := hw_455
                        refine lv_iadd hx hb dX11_keyOrAll_152 ?_
                        refine th_addo (fun z_458 rz_458 hz_458 => ?_)
                        refine lv_istore (lv' := [(4, .int (I z_458)), (0, .ref a), (1, .int (I z_4)), (2, .int (I 0)), (3, .int (I v3q334))]) hx hb dX11_keyOrAll_153 hl (by decide) rfl (fun ls hl => ?_)
                        refine lv_goto (tgt := 85) hx hb dX11_keyOrAll_155 (by decide) ?_
                        exact ihJ_408 (z_458) σ_s_449 _ _ _ (by first | (dsimp only; omega) | omega) ⟨hO, hF, hM, hsr, hH, hS, lv_sub hl [1, 2, 3, 4, 0] rfl, rz_458, by first | (dsimp only; omega) | omega, by first | (dsimp only; omega) | omega, by first | (dsimp only; omega) | omega, by first | (dsimp only; omega) | omega, e_450, e_451, e_452, e_453, e_454⟩
              · replace c_406 := mt (I_eq (a := z_405) (b := 3) rz_405 (show rng 3 from ⟨by decide, by decide⟩)).mpr c_406
                refine lv_goto (tgt := 158) hx hb dX11_keyOrAll_77 (by decide) ?_
                refine lv_iinc (v := I (v3q334 + 1)) (lv' := [(3, .int (I (v3q334 + 1))), (0, .ref a), (1, .int (I z_4)), (2, .int (I 0))]) hx hb dX11_keyOrAll_158 hl (k := 3) rfl (I_add _ _) (by decide) rfl (fun ls hl => ?_)
                refine lv_goto (tgt := 26) hx hb dX11_keyOrAll_161 (by decide) ?_
                exact ihJ_335 (v3q334 + 1) σ_J_335 _ _ _ (by first | (dsimp only; omega) | omega) ⟨hO, hF, hM, hsr, hH, hS, lv_sub hl [1, 2, 3, 0] rfl, ⟨by first | (dsimp only; omega) | omega, by first | (dsimp only; omega) | omega⟩, by first | (dsimp only; omega) | omega, by first | (dsimp only; omega) | omega, J_335_2, J_335_3, J_335_4, J_335_5⟩

set_option maxHeartbeats 4000000 in
set_option maxRecDepth 100000 in
theorem w_held (l : Launch) (G : va_G) (y : Nat → ClassId) (b0 : Nat) (σ : th_M) (E : th_E) (hO : ok y E σ) (pl : Int) (rpl : rng pl) (nn : Int) (rnn : rng nn) (l_nn : 0 ≤ nn) (u_nn : nn ≤ 60) : Met l yX11_held wsX11_held ({ frames := 1, cells := 0, slots := 0, locals := 40 }) (th_P G y b0 σ [.int (I pl), .int (I nn)]) (th_Qi G b0 (fun r σ1 => σ1 = σ ∧ (0 ≤ r ∧ r ≤ nn))) 0 0 (th_A b0) := by
  refine Met.ofW (cc := cX11_held) (maxL := 3) (ret := (some .int)) (by decide) rfl ?_
  intro p e s m args below meth c s₁ B hml hv
  obtain ⟨rfl, hH, hK⟩ := hv
  have hx := B.exec
  have hb := B.bytes
  have hr := B.returns
  have hts := atoms_spec (ws := wsX11_held) B.pre
  have hown : s.vm.findClass RX11 = some m.cls := findClass_of_methodNamed B.named
  have hlocks := B.notSynchronized
  have h00 : b0 ≤ s.heap.size := hH.1
  have hS : va_S (th_A b0) s.heap s.heap [] := va_S.rf
  have fl0 := hts (.methodLink RX11 153 Lib.Math.min.name) (by decide +kernel)
  have fl1 := hts (.static Lib.Math.min.name) (by decide +kernel)
  have fl2 := hts (.initialized "java/lang/Math") (by decide +kernel)
  have fl3 := hts (.code Lib.Math.min.name Lib.Math.min.code 2 (some .int)) (by decide +kernel)
  have fl4 := hts (.methodLink RX11 313 Lib.Math.max.name) (by decide +kernel)
  have fl5 := hts (.static Lib.Math.max.name) (by decide +kernel)
  have fl6 := hts (.code Lib.Math.max.name Lib.Math.max.code 2 (some .int)) (by decide +kernel)
  have hl := lv_entry ([.int (I pl), .int (I nn)]) (n := 3) (Nat.le_of_ble_eq_true rfl)
  rw [lg_entry_eq]
  generalize (lg_sl ([.int (I pl), .int (I nn)]) ++ List.replicate (3 - (lg_sl ([.int (I pl), .int (I nn)])).length) Slot.unset).toArray = ls at hl ⊢
  have hl : lv_has ls 3 [(0, .int (I pl)), (1, .int (I nn))] := hl
  refine lv_iload_n hx hb dX11_held_0 rfl (lv_at hl 0 rfl) ?_
  refine lv_if_ge (tgt := 10) hx hb dX11_held_1 (by decide) (fun c_1 => ?_) (fun c_1 => ?_)
  · replace c_1 := (I_le (a := 0) (b := pl) (show rng 0 from ⟨by decide, by decide⟩) rpl).mp c_1
    refine lv_iload_n hx hb dX11_held_10 rfl (lv_at hl 0 rfl) ?_
    refine lv_istore_n (lv' := [(2, .int (I pl)), (0, .int (I pl)), (1, .int (I nn))]) hx hb dX11_held_11 rfl hl (by decide) rfl (fun ls hl => ?_)
    refine lv_iconst (v := I 0) hx hb dX11_held_12 (by decide) ?_
    refine lv_iload_n hx hb dX11_held_13 rfl (lv_at hl 2 rfl) ?_
    refine lv_iload_n hx hb dX11_held_14 rfl (lv_at hl 0 rfl) ?_
    refine va_mmin hx hb (by rw [hml]; exact hl.1.symm) hown fl0 fl1 fl2 fl3 (Nat.le_of_ble_eq_true rfl) (Nat.le_of_ble_eq_true rfl) (Nat.zero_le _) (Nat.zero_le _) dX11_held_15 ?_
    refine th_mmin rnn rpl (fun z_2 rz_2 hz_2 => ?_)
    refine va_mmax hx hb (by rw [hml]; exact hl.1.symm) hown fl4 fl5 fl2 fl6 (Nat.le_of_ble_eq_true rfl) (Nat.le_of_ble_eq_true rfl) (Nat.zero_le _) (Nat.zero_le _) dX11_held_18 ?_
    refine th_mmax (show rng 0 from ⟨by decide, by decide⟩) rz_2 (fun z_3 rz_3 hz_3 => ?_)
    exact th_iret hx hb hr hlocks hH hS (z := z_3) rz_3 ⟨rfl, by omega⟩ dX11_held_21
  · replace c_1 := mt (I_le (a := 0) (b := pl) (show rng 0 from ⟨by decide, by decide⟩) rpl).mpr c_1
    refine lv_iload_n hx hb dX11_held_4 rfl (lv_at hl 0 rfl) ?_
    refine lv_iload_n hx hb dX11_held_5 rfl (lv_at hl 1 rfl) ?_
    refine lv_iadd hx hb dX11_held_6 ?_
    refine th_addo (fun z_4 rz_4 hz_4 => ?_)
    refine lv_goto (tgt := 11) hx hb dX11_held_7 (by decide) ?_
    refine lv_istore_n (lv' := [(2, .int (I z_4)), (0, .int (I pl)), (1, .int (I nn))]) hx hb dX11_held_11 rfl hl (by decide) rfl (fun ls hl => ?_)
    refine lv_iconst (v := I 0) hx hb dX11_held_12 (by decide) ?_
    refine lv_iload_n hx hb dX11_held_13 rfl (lv_at hl 2 rfl) ?_
    refine lv_iload_n hx hb dX11_held_14 rfl (lv_at hl 0 rfl) ?_
    refine va_mmin hx hb (by rw [hml]; exact hl.1.symm) hown fl0 fl1 fl2 fl3 (Nat.le_of_ble_eq_true rfl) (Nat.le_of_ble_eq_true rfl) (Nat.zero_le _) (Nat.zero_le _) dX11_held_15 ?_
    refine th_mmin rnn rz_4 (fun z_5 rz_5 hz_5 => ?_)
    refine va_mmax hx hb (by rw [hml]; exact hl.1.symm) hown fl4 fl5 fl2 fl6 (Nat.le_of_ble_eq_true rfl) (Nat.le_of_ble_eq_true rfl) (Nat.zero_le _) (Nat.zero_le _) dX11_held_18 ?_
    refine th_mmax (show rng 0 from ⟨by decide, by decide⟩) rz_5 (fun z_6 rz_6 hz_6 => ?_)
    exact th_iret hx hb hr hlocks hH hS (z := z_6) rz_6 ⟨rfl, by omega⟩ dX11_held_21

set_option maxHeartbeats 4000000 in
set_option maxRecDepth 100000 in
theorem m_places (l : Launch) (G : va_G) (y : Nat → ClassId) (b0 : Nat) (σ : th_M) (E : th_E) (hO : ok y E σ) (a : Nat) (h_a : kd E a = 13) (f1 : Nat → Int32) (ef1 : aF σ (ad E a 1) = f1) (Bf : Int → Int) (hsr : sr E σ a Bf) (hy0 : wf f1 0 (mS f1 0)) (hy1 : 1 ≤ mS f1 0 ∧ mS f1 0 ≤ 60) (hy2 : 0 ≤ gI σ a 17 ∧ gI σ a 17 ≤ gI σ a 13 ∧ gI σ a 13 ≤ gI σ a 11 ∧ gI σ a 11 ≤ 400) : Met l yX11_places wsX11_places ({ frames := 5, cells := 0, slots := 0, locals := 141 }) (th_P G y b0 σ [.ref a]) (th_Qv G b0 (fun σ1 => ok y E σ1 ∧ fr [13] E σ σ1 ∧ fm [13, 14, 15, 16, 17, 18, 19, 20, 24] E σ σ1 a ∧ ((gI σ a 13 ≤ gI σ1 a 13 ∧ gI σ1 a 13 ≤ gI σ a 11 ∧ 0 ≤ gI σ1 a 17 ∧ gI σ1 a 17 ≤ gI σ1 a 13)))) 0 0 (th_A b0) := by
  refine Met.ofW (cc := cX11_places) (maxL := 10) (ret := none) (by decide) rfl ?_
  intro p e s m args below meth c s₁ B hml hv
  obtain ⟨rfl, hH, hK⟩ := hv
  have hx := B.exec
  have hb := B.bytes
  have hr := B.returns
  have hts := atoms_spec (ws := wsX11_places) B.pre
  have hown : s.vm.findClass RX11 = some m.cls := findClass_of_methodNamed B.named
  have hlocks := B.notSynchronized
  have h00 : b0 ≤ s.heap.size := hH.1
  have hS : va_S (th_A b0) s.heap s.heap [] := va_S.rf
  have hF : fr [13] E σ σ := fr.rf
  have hM : fm [13, 14, 15, 16, 17, 18, 19, 20, 24] E σ σ a := fm.rf
  have inX11 : ∀ w ∈ wsX110, w ∈ wsX11_places := by decide +kernel
  have fl0 := hts (.fieldLink RX11 300 "NestQueryModel" "isGone" "Z") (by decide +kernel)
  have fl1 := hts (.fieldLink RX11 35 "NestQueryModel" "set" "[Z") (by decide +kernel)
  have fl2 := hts (.fieldLink RX11 9 "NestQueryModel" "tree" "[I") (by decide +kernel)
  have fl3 := hts (.fieldLink RX11 39 "NestQueryModel" "to" "[Z") (by decide +kernel)
  have hl := lv_entry ([.ref a]) (n := 10) (Nat.le_of_ble_eq_true rfl)
  rw [lg_entry_eq]
  generalize (lg_sl ([.ref a]) ++ List.replicate (10 - (lg_sl ([.ref a])).length) Slot.unset).toArray = ls at hl ⊢
  have hl : lv_has ls 10 [(0, .ref a)] := hl
  obtain ⟨a110, ea110, ra110, la110, ua110⟩ := hO.gi h_a (by decide) k13_11
  obtain ⟨a130, ea130, ra130, la130, ua130⟩ := hO.gi h_a (by decide) k13_13
  obtain ⟨a140, ea140, ra140, la140, ua140⟩ := hO.gi h_a (by decide) k13_14
  obtain ⟨a170, ea170, ra170, la170, ua170⟩ := hO.gi h_a (by decide) k13_17
  obtain ⟨a190, ea190, ra190, la190, ua190⟩ := hO.gi h_a (by decide) k13_19
  refine lv_aload_n hx hb dX11_places_0 rfl (lv_at hl 0 rfl) ?_
  refine lv_bipush (v := I 58) hx hb dX11_places_1 (by decide) ?_
  obtain ⟨_, hc_1⟩ := hO.cell h_a (by decide) (ci := 11) rfl
  refine th_calli (va_runV (As := [.int (I 58)]) (rest := []) ⟨hx, hb, hml, hown, hts⟩ (m_isMarked l G y b0 σ E hO a h_a 58 (show rng 58 from (show rng 58 from ⟨by decide, by decide⟩)) Bf hsr (by omega)) (cwV 1 hts gX11_places_X11_isMarked rfl rfl rfl (by decide +kernel) ⟨Nat.le_of_ble_eq_true rfl, Nat.le_of_ble_eq_true rfl⟩) (th_PV hK hH rfl hc_1) rfl rfl hl.1 rfl (lv_room (Nat.le_of_ble_eq_true rfl)) dX11_places_3 ⟨Nat.le_of_ble_eq_true rfl, Nat.le_of_ble_eq_true rfl⟩) hS (fun z_4 σ_s_3 H locs rz_4 hw_2 hH hS => ?_)
  obtain ⟨e9, bhw_2, hw_2⟩ := hw_2
  replace e9 := e9.symm
  subst e9
  have hw_2 : z_4 = 0 ∨ (z_4 = 1 ∧ gI σ a 19 = 0 ∧ gI σ a 14 = 3 ∧ Bf (gI σ a 17) = 58) := hw_2
  refine lv_if_ne (tgt := 13) hx hb dX11_places_6 (by decide) (fun c_5 => ?_) (fun c_5 => ?_)
  · replace c_5 := mt (I_eq (a := z_4) (b := 0) rz_4 (show rng 0 from ⟨by decide, by decide⟩)).mpr c_5
    replace hw_2 := (hw_2.resolve_left c_5).2
    refine lv_iconst (v := I 0) hx hb dX11_places_13 (by decide) ?_
    refine lv_istore_n (lv' := [(1, .int (I 0)), (0, .ref a)]) hx hb dX11_places_14 rfl hl (by decide) rfl (fun ls hl => ?_)
    refine lv_iload_n hx hb dX11_places_15 rfl (lv_at hl 0 rfl) ?_
    refine lv_if_eq (tgt := 26) hx hb dX11_places_16 (by decide) (fun _ => ?_) (fun c_6 => absurd (by decide) c_6)
    refine lv_iconst (v := I 0) hx hb dX11_places_26 (by decide) ?_
    refine lv_istore_n (lv' := [(2, .int (I 0)), (1, .int (I 0)), (0, .ref a)]) hx hb dX11_places_27 rfl hl (by decide) rfl (fun ls hl => ?_)
    refine lv_aload_n hx hb dX11_places_28 rfl (lv_at hl 2 rfl) ?_
    refine lv_bipush (v := I 58) hx hb dX11_places_29 (by decide) ?_
    obtain ⟨_, hc_7⟩ := hO.cell h_a (by decide) (ci := 11) rfl
    refine th_calli (va_runV (As := [.int (I 58)]) (rest := []) ⟨hx, hb, hml, hown, hts⟩ (m_isMarked l G y b0 σ E hO a h_a 58 (show rng 58 from (show rng 58 from ⟨by decide, by decide⟩)) Bf hsr (by omega)) (cwV 1 hts gX11_places_X11_isMarked rfl rfl rfl (by decide +kernel) ⟨Nat.le_of_ble_eq_true rfl, Nat.le_of_ble_eq_true rfl⟩) (th_PV hK hH rfl hc_7) rfl rfl hl.1 rfl (lv_room (Nat.le_of_ble_eq_true rfl)) dX11_places_31 ⟨Nat.le_of_ble_eq_true rfl, Nat.le_of_ble_eq_true rfl⟩) hS (fun z_10 σ_s_9 H locs rz_10 hw_8 hH hS => ?_)
    obtain ⟨e9, bhw_8, hw_8⟩ := hw_8
    replace e9 := e9.symm
    subst e9
    have hw_8 : z_10 = 0 ∨ (z_10 = 1 ∧ gI σ a 19 = 0 ∧ gI σ a 14 = 3 ∧ Bf (gI σ a 17) = 58) := hw_8
    refine lv_if_ne (tgt := 117) hx hb dX11_places_34 (by decide) (fun c_11 => ?_) (fun c_11 => ?_)
    · replace c_11 := mt (I_eq (a := z_10) (b := 0) rz_10 (show rng 0 from ⟨by decide, by decide⟩)).mpr c_11
      replace hw_8 := (hw_8.resolve_left c_11).2
      refine lv_aload_n hx hb dX11_places_117 rfl (lv_at hl 2 rfl) ?_
      obtain ⟨_, hc_12⟩ := hO.cell h_a (by decide) (ci := 11) rfl
      refine th_callv (va_runV (As := []) (rest := []) ⟨hx, hb, hml, hown, hts⟩ (m_pass l G y b0 σ E hO a h_a Bf hsr (by omega)) (cwV 0 hts gX11_places_X11_pass rfl rfl rfl (by decide +kernel) ⟨Nat.le_of_ble_eq_true rfl, Nat.le_of_ble_eq_true rfl⟩) (th_PV hK hH rfl hc_12) rfl rfl hl.1 rfl (lv_room (Nat.le_of_ble_eq_true rfl)) dX11_places_118 ⟨Nat.le_of_ble_eq_true rfl, Nat.le_of_ble_eq_true rfl⟩) hS (fun σ_s_14 H locs hw_13 hH hS => ?_)
      obtain ⟨hO9, hF9, hM9, hw_13⟩ := hw_13
      replace hM := hM.tu hM9 (by decide)
      replace hF := hF.tu hF9 (by decide)
      have e_15 : aF σ_s_14 (ad E a 1) = f1 := (hM9.a (by decide) (by decide)).trans ef1
      have e_16 : gI σ_s_14 a 11 = a110 := (hM9.i (by decide)).trans ea110
      have e_17 : gI σ_s_14 a 19 = a190 := (hM9.i (by decide)).trans ea190
      replace hsr := hsr.mv hM9 (by decide) (by decide) (by decide) (by decide) (by decide)
      replace hO := hO9
      have hw_13 : (gI σ a 13 ≤ gI σ_s_14 a 13 ∧ gI σ_s_14 a 13 ≤ gI σ a 11 ∧ 0 ≤ gI σ_s_14 a 17 ∧ gI σ_s_14 a 17 ≤ gI σ_s_14 a 13) ∧ pgo (gI σ_s_14 a 19) (gI σ_s_14 a 14) (gI σ a 13) (gI σ_s_14 a 13) ∧ gI σ_s_14 a 19 = gI σ a 19 := hw_13
      refine lv_aload_n hx hb dX11_places_121 rfl (lv_at hl 2 rfl) ?_
      refine lv_bipush (v := I 93) hx hb dX11_places_122 (by decide) ?_
      obtain ⟨_, hc_18⟩ := hO.cell h_a (by decide) (ci := 11) rfl
      refine th_calli (va_runV (As := [.int (I 93)]) (rest := []) ⟨hx, hb, hml, hown, hts⟩ (m_isMarked l G y b0 σ_s_14 E hO a h_a 93 (show rng 93 from (show rng 93 from ⟨by decide, by decide⟩)) Bf hsr (by omega)) (cwV 1 hts gX11_places_X11_isMarked rfl rfl rfl (by decide +kernel) ⟨Nat.le_of_ble_eq_true rfl, Nat.le_of_ble_eq_true rfl⟩) (th_PV hK hH rfl hc_18) rfl rfl hl.1 rfl (lv_room (Nat.le_of_ble_eq_true rfl)) dX11_places_124 ⟨Nat.le_of_ble_eq_true rfl, Nat.le_of_ble_eq_true rfl⟩) hS (fun z_21 σ_s_20 H locs rz_21 hw_19 hH hS => ?_)
      obtain ⟨e9, bhw_19, hw_19⟩ := hw_19
      replace e9 := e9.symm
      subst e9
      have hw_19 : z_21 = 0 ∨ (z_21 = 1 ∧ gI σ_s_14 a 19 = 0 ∧ gI σ_s_14 a 14 = 3 ∧ Bf (gI σ_s_14 a 17) = 93) := hw_19
      refine lv_if_ne (tgt := 134) hx hb dX11_places_127 (by decide) (fun c_22 => ?_) (fun c_22 => ?_)
      · replace c_22 := mt (I_eq (a := z_21) (b := 0) rz_21 (show rng 0 from ⟨by decide, by decide⟩)).mpr c_22
        replace hw_19 := (hw_19.resolve_left c_22).2
        refine lv_iconst (v := I 0) hx hb dX11_places_134 (by decide) ?_
        refine lv_istore_n (lv' := [(3, .int (I 0)), (2, .int (I 0)), (1, .int (I 0)), (0, .ref a)]) hx hb dX11_places_135 rfl hl (by decide) rfl (fun ls hl => ?_)
        refine lv_iload_n hx hb dX11_places_136 rfl (lv_at hl 0 rfl) ?_
        refine lv_if_eq (tgt := 147) hx hb dX11_places_137 (by decide) (fun _ => ?_) (fun c_23 => absurd (by decide) c_23)
        refine lv_iconst (v := I 0) hx hb dX11_places_147 (by decide) ?_
        refine lv_istore (lv' := [(4, .int (I 0)), (3, .int (I 0)), (2, .int (I 0)), (1, .int (I 0)), (0, .ref a)]) hx hb dX11_places_148 hl (by decide) rfl (fun ls hl => ?_)
        refine lv_aload_n hx hb dX11_places_150 rfl (lv_at hl 4 rfl) ?_
        refine lv_bipush (v := I 93) hx hb dX11_places_151 (by decide) ?_
        obtain ⟨_, hc_24⟩ := hO.cell h_a (by decide) (ci := 11) rfl
        refine th_callv (va_runV (As := [.int (I 93)]) (rest := []) ⟨hx, hb, hml, hown, hts⟩ (m_need l G y b0 σ_s_14 E hO a h_a 93 (show rng 93 from (show rng 93 from ⟨by decide, by decide⟩)) Bf hsr (by omega)) (cwV 1 hts gX11_places_X11_need rfl rfl rfl (by decide +kernel) ⟨Nat.le_of_ble_eq_true rfl, Nat.le_of_ble_eq_true rfl⟩) (th_PV hK hH rfl hc_24) rfl rfl hl.1 rfl (lv_room (Nat.le_of_ble_eq_true rfl)) dX11_places_153 ⟨Nat.le_of_ble_eq_true rfl, Nat.le_of_ble_eq_true rfl⟩) hS (fun σ_s_26 H locs hw_25 hH hS => ?_)
        obtain ⟨hO9, hF9, hM9, hw_25⟩ := hw_25
        replace hM := hM.tu hM9 (by decide)
        replace hF := hF.tu hF9 (by decide)
        have e_27 : aF σ_s_26 (ad E a 1) = f1 := (hM9.a (by decide) (by decide)).trans e_15
        have e_28 : gI σ_s_26 a 11 = a110 := (hM9.i (by decide)).trans e_16
        replace hsr := hsr.mv hM9 (by decide) (by decide) (by decide) (by decide) (by decide)
        replace hO := hO9
        have hw_25 : (gI σ_s_14 a 13 ≤ gI σ_s_26 a 13 ∧ gI σ_s_26 a 13 ≤ gI σ_s_14 a 11 ∧ 0 ≤ gI σ_s_26 a 17 ∧ gI σ_s_26 a 17 ≤ gI σ_s_26 a 13) ∧ pgo (gI σ_s_26 a 19) (gI σ_s_26 a 14) (gI σ_s_14 a 13) (gI σ_s_26 a 13) ∧ bdo (gI σ_s_14 a 19) (gI σ_s_26 a 19) := hw_25
        obtain ⟨z_29, e_30, rz_29, lz_29, uz_29⟩ := hO.gi h_a (by decide) k13_13
        obtain ⟨z_31, e_32, rz_31, lz_31, uz_31⟩ := hO.gi h_a (by decide) k13_17
        refine lv_iconst (v := I 0) hx hb dX11_places_156 (by decide) ?_
        refine lv_istore (lv' := [(5, .int (I 0)), (4, .int (I 0)), (3, .int (I 0)), (2, .int (I 0)), (1, .int (I 0)), (0, .ref a)]) hx hb dX11_places_157 hl (by decide) rfl (fun ls hl => ?_)
        replace hl : lv_has ls 10 [(5, .int (I 0)), (4, .int (I 0)), (3, .int (I 0)), (2, .int (I 0)), (0, .ref a)] := lv_sub hl [0, 1, 2, 3, 5] rfl
        refine th_loop (α := Int) (pc := 159) (fun x9 => (mS f1 0 - x9).toNat) (fun x9 σ9 H9 l9 ls9 => ok y E σ9 ∧ fr [13] E σ σ9 ∧ fm [13, 14, 15, 16, 17, 18, 19, 20, 24] E σ σ9 a ∧ sr E σ9 a Bf ∧ th_H G b0 σ9 H9 ∧ va_S (th_A b0) s.heap H9 l9 ∧ lv_has ls9 10 [(0, .ref a), (2, .int (I 0)), (3, .int (I 0)), (4, .int (I 0)), (5, .int (I x9))] ∧ rng x9 ∧ (0 ≤ x9) ∧ (x9 ≤ 60) ∧ (gI σ9 a 11 = a110) ∧ (gI σ9 a 13 = z_29) ∧ (gI σ9 a 17 = z_31) ∧ (aF σ9 (ad E a 1) = f1)) ?_ (0) σ_s_26 _ _ _ ⟨hO, hF, hM, hsr, hH, hS, lv_sub hl [4, 3, 2, 1, 0] rfl, (show rng 0 from ⟨by decide, by decide⟩), by first | (dsimp only; omega) | omega, by first | (dsimp only; omega) | omega, e_28, e_30, e_32, e_27⟩
        intro x9 σ_J_79 H locs ls hI9 ihJ_79
        obtain ⟨v5q78, ex9⟩ : ∃ z, z = x9 := ⟨_, rfl⟩
        subst ex9
        obtain ⟨hO, hF, hM, hsr, hH, hS, hl, rv5q78, J_79_0, J_79_1, J_79_2, J_79_3, J_79_4, J_79_5⟩ := hI9
        have hl : lv_has ls 10 [(0, .ref a), (2, .int (I 0)), (3, .int (I 0)), (4, .int (I 0)), (5, .int (I v5q78))] := hl
        have rv5q78 : rng v5q78 := rv5q78
        have J_79_0 : 0 ≤ v5q78 := J_79_0
        have J_79_1 : v5q78 ≤ 60 := J_79_1
        have J_79_2 : gI σ_J_79 a 11 = a110 := J_79_2
        have J_79_3 : gI σ_J_79 a 13 = z_29 := J_79_3
        have J_79_4 : gI σ_J_79 a 17 = z_31 := J_79_4
        have J_79_5 : aF σ_J_79 (ad E a 1) = f1 := J_79_5
        refine lv_iload hx hb dX11_places_159 (lv_at hl 4 rfl) ?_
        refine lv_aload_n hx hb dX11_places_161 rfl (lv_at hl 0 rfl) ?_
        obtain ⟨_, hc_80⟩ := hO.cell h_a (by decide) (ci := 11) rfl
        refine th_calli (va_runV (As := []) (rest := [.int (I v5q78)]) ⟨hx, hb, hml, hown, hts⟩ (m_things l G y b0 σ_J_79 E hO a h_a f1 J_79_5) (cwV 0 hts gX11_places_X11_things rfl rfl rfl (by decide +kernel) ⟨Nat.le_of_ble_eq_true rfl, Nat.le_of_ble_eq_true rfl⟩) (th_PV hK hH rfl hc_80) rfl rfl hl.1 rfl (lv_room (Nat.le_of_ble_eq_true rfl)) dX11_places_162 ⟨Nat.le_of_ble_eq_true rfl, Nat.le_of_ble_eq_true rfl⟩) hS (fun z_83 σ_s_82 H locs rz_83 hw_81 hH hS => ?_)
        obtain ⟨e9, hw_81⟩ := hw_81
        replace e9 := e9.symm
        subst e9
        have hw_81 : z_83 = mS f1 0 := hw_81
        refine lv_icmp_ge (tgt := 278) hx hb dX11_places_165 (by decide) (fun c_84 => ?_) (fun c_84 => ?_)
        · replace c_84 := (I_le (a := z_83) (b := v5q78) rz_83 rv5q78).mp c_84
          exact th_vret hx hb hr hlocks hH hS ⟨hO, hF, hM, by omega⟩ dX11_places_278
        · replace c_84 := mt (I_le (a := z_83) (b := v5q78) rz_83 rv5q78).mpr c_84
          refine lv_aload_n hx hb dX11_places_168 rfl (lv_at hl 0 rfl) ?_
          refine ok.getI hO h_a (by decide) k13_25 (fun _ _ he hv kk => th_get (ci := 11) (C := RX11) (T := TX11) (N := 66) hx hb hts inX11 hown hK hH he rfl 25 (by decide) fl0 hv dX11_places_169 kk) (fun z_85 e_86 rz_85 lz_85 uz_85 => ?_)
          refine lv_if_eq (tgt := 278) hx hb dX11_places_172 (by decide) (fun c_87 => ?_) (fun c_87 => ?_)
          · replace c_87 := (I_eq (a := z_85) (b := 0) rz_85 (show rng 0 from ⟨by decide, by decide⟩)).mp c_87
            exact th_vret hx hb hr hlocks hH hS ⟨hO, hF, hM, by omega⟩ dX11_places_278
          · replace c_87 := mt (I_eq (a := z_85) (b := 0) rz_85 (show rng 0 from ⟨by decide, by decide⟩)).mpr c_87
            refine lv_aload_n hx hb dX11_places_175 rfl (lv_at hl 0 rfl) ?_
            refine ok.getR hO h_a (by decide) k13_23 (by decide) (fun _ _ he hv kk => th_get (ci := 11) (C := RX11) (T := TX11) (N := 66) hx hb hts inX11 hown hK hH he rfl 23 (by decide) fl1 hv dX11_places_176 kk) ?_
            refine lv_iload hx hb dX11_places_179 (lv_at hl 4 rfl) ?_
            refine m_zald hx hb hK hH hO h_a k13_23 rv5q78 (by omega) (by omega) dX11_places_181 (fun z_88 rz_88 uz_88 => ?_)
            refine lv_if_eq (tgt := 272) hx hb dX11_places_182 (by decide) (fun c_89 => ?_) (fun c_89 => ?_)
            · replace c_89 := (I_eq (a := z_88) (b := 0) rz_88 (show rng 0 from ⟨by decide, by decide⟩)).mp c_89
              refine lv_iinc (v := I (v5q78 + 1)) (lv' := [(5, .int (I (v5q78 + 1))), (0, .ref a), (2, .int (I 0)), (3, .int (I 0)), (4, .int (I 0))]) hx hb dX11_places_272 hl (k := 4) rfl (I_add _ _) (by decide) rfl (fun ls hl => ?_)
              refine lv_goto (tgt := 159) hx hb dX11_places_275 (by decide) ?_
              exact ihJ_79 (v5q78 + 1) σ_J_79 _ _ _ (by first | (dsimp only; omega) | omega) ⟨hO, hF, hM, hsr, hH, hS, lv_sub hl [1, 2, 3, 4, 0] rfl, ⟨by first | (dsimp only; omega) | omega, by first | (dsimp only; omega) | omega⟩, by first | (dsimp only; omega) | omega, by first | (dsimp only; omega) | omega, J_79_2, J_79_3, J_79_4, J_79_5⟩
            · replace c_89 := mt (I_eq (a := z_88) (b := 0) rz_88 (show rng 0 from ⟨by decide, by decide⟩)).mpr c_89
              have hk5 := hy0 v5q78 (by omega) (by omega)
              refine lv_aload_n hx hb dX11_places_185 rfl (lv_at hl 0 rfl) ?_
              refine ok.getR hO h_a (by decide) k13_1 (by decide) (fun _ _ he hv kk => th_get (ci := 11) (C := RX11) (T := TX11) (N := 66) hx hb hts inX11 hown hK hH he rfl 1 (by decide) fl2 hv dX11_places_186 kk) ?_
              refine lv_iload hx hb dX11_places_189 (lv_at hl 4 rfl) ?_
              refine th_calli (va_runS (As := [.ref (ad E a 1), .int (I v5q78)]) (rest := []) ⟨hx, hb, hml, hown, hts⟩ (w_kind l G y b0 σ_J_79 E hO (ad E a 1) 240 f1 (hO.roww h_a k13_1 isA1 J_79_5 rfl) v5q78 (show rng v5q78 from rv5q78) (by omega) (by omega) (by omega)) (va_cwS 2 hts gX11_places_X11_kind rfl rfl rfl (by decide +kernel) ⟨Nat.le_of_ble_eq_true rfl, Nat.le_of_ble_eq_true rfl⟩) (th_PS hK hH) rfl rfl hl.1 rfl (lv_room (Nat.le_of_ble_eq_true rfl)) dX11_places_191 ⟨Nat.le_of_ble_eq_true rfl, Nat.le_of_ble_eq_true rfl⟩) hS (fun z_92 σ_s_91 H locs rz_92 hw_90 hH hS => ?_)
              obtain ⟨e9, hw_90⟩ := hw_90
              replace e9 := e9.symm
              subst e9
              have hw_90 : z_92 = mK f1 v5q78 := hw_90
              refine lv_iconst (v := I 2) hx hb dX11_places_194 (by decide) ?_
              refine lv_icmp_eq (tgt := 201) hx hb dX11_places_195 (by decide) (fun c_93 => ?_) (fun c_93 => ?_)
              · replace c_93 := (I_eq (a := z_92) (b := 2) rz_92 (show rng 2 from ⟨by decide, by decide⟩)).mp c_93
                refine lv_aload_n hx hb dX11_places_201 rfl (lv_at hl 0 rfl) ?_
                refine ok.getR hO h_a (by decide) k13_1 (by decide) (fun _ _ he hv kk => th_get (ci := 11) (C := RX11) (T := TX11) (N := 66) hx hb hts inX11 hown hK hH he rfl 1 (by decide) fl2 hv dX11_places_202 kk) ?_
                refine lv_iload hx hb dX11_places_205 (lv_at hl 4 rfl) ?_
                refine th_calli (va_runS (As := [.ref (ad E a 1), .int (I v5q78)]) (rest := []) ⟨hx, hb, hml, hown, hts⟩ (w_many l G y b0 σ_J_79 E hO (ad E a 1) 240 f1 (hO.roww h_a k13_1 isA1 J_79_5 rfl) v5q78 (show rng v5q78 from rv5q78) (by omega) (by omega) (by first | exact hy0 | exact (hy0).sub (by omega) (by omega)) (by omega) (by omega) (by omega)) (va_cwS 2 hts gX11_places_X11_many rfl rfl rfl (by decide +kernel) ⟨Nat.le_of_ble_eq_true rfl, Nat.le_of_ble_eq_true rfl⟩) (th_PS hK hH) rfl rfl hl.1 rfl (lv_room (Nat.le_of_ble_eq_true rfl)) dX11_places_207 ⟨Nat.le_of_ble_eq_true rfl, Nat.le_of_ble_eq_true rfl⟩) hS (fun z_96 σ_s_95 H locs rz_96 hw_94 hH hS => ?_)
                obtain ⟨e9, hw_94⟩ := hw_94
                replace e9 := e9.symm
                subst e9
                have hw_94 : chn f1 (v5q78 + 1) z_96 (v5q78 + mS f1 v5q78) ∧ 0 ≤ z_96 ∧ z_96 < mS f1 v5q78 := hw_94
                refine lv_istore (lv' := [(6, .int (I z_96)), (0, .ref a), (2, .int (I 0)), (3, .int (I 0)), (4, .int (I 0)), (5, .int (I v5q78))]) hx hb dX11_places_210 hl (by decide) rfl (fun ls hl => ?_)
                refine lv_iload_n hx hb dX11_places_212 rfl (lv_at hl 2 rfl) ?_
                refine lv_iload hx hb dX11_places_213 (lv_at hl 0 rfl) ?_
                refine th_calli (va_runS (As := [.int (I 0), .int (I z_96)]) (rest := []) ⟨hx, hb, hml, hown, hts⟩ (w_held l G y b0 σ_J_79 E hO 0 (show rng 0 from (show rng 0 from ⟨by decide, by decide⟩)) z_96 (show rng z_96 from rz_96) (by omega) (by omega)) (va_cwS 2 hts gX11_places_X11_held rfl rfl rfl (by decide +kernel) ⟨Nat.le_of_ble_eq_true rfl, Nat.le_of_ble_eq_true rfl⟩) (th_PS hK hH) rfl rfl hl.1 rfl (lv_room (Nat.le_of_ble_eq_true rfl)) dX11_places_215 ⟨Nat.le_of_ble_eq_true rfl, Nat.le_of_ble_eq_true rfl⟩) hS (fun z_99 σ_s_98 H locs rz_99 hw_97 hH hS => ?_)
                obtain ⟨e9, hw_97⟩ := hw_97
                replace e9 := e9.symm
                subst e9
                have hw_97 : 0 ≤ z_99 ∧ z_99 ≤ z_96 := hw_97
                refine lv_istore (lv' := [(7, .int (I z_99)), (6, .int (I z_96)), (0, .ref a), (2, .int (I 0)), (3, .int (I 0)), (4, .int (I 0)), (5, .int (I v5q78))]) hx hb dX11_places_218 hl (by decide) rfl (fun ls hl => ?_)
                refine lv_iload_n hx hb dX11_places_220 rfl (lv_at hl 4 rfl) ?_
                refine lv_if_eq (tgt := 234) hx hb dX11_places_221 (by decide) (fun _ => ?_) (fun c_100 => absurd (by decide) c_100)
                refine lv_iload hx hb dX11_places_234 (lv_at hl 1 rfl) ?_
                refine lv_istore (lv' := [(8, .int (I z_96)), (7, .int (I z_99)), (6, .int (I z_96)), (0, .ref a), (2, .int (I 0)), (3, .int (I 0)), (4, .int (I 0)), (5, .int (I v5q78))]) hx hb dX11_places_236 hl (by decide) rfl (fun ls hl => ?_)
                refine lv_iload hx hb dX11_places_238 (lv_at hl 1 rfl) ?_
                refine lv_istore (lv' := [(9, .int (I z_99)), (8, .int (I z_96)), (7, .int (I z_99)), (6, .int (I z_96)), (0, .ref a), (2, .int (I 0)), (3, .int (I 0)), (4, .int (I 0)), (5, .int (I v5q78))]) hx hb dX11_places_240 hl (by decide) rfl (fun ls hl => ?_)
                replace hl : lv_has ls 10 [(9, .int (I z_99)), (8, .int (I z_96)), (0, .ref a), (2, .int (I 0)), (3, .int (I 0)), (4, .int (I 0)), (5, .int (I v5q78))] := lv_sub hl [0, 1, 4, 5, 6, 7, 8] rfl
                refine th_loop (α := Int) (pc := 242) (fun x9 => (z_96 - x9).toNat) (fun x9 σ9 H9 l9 ls9 => ok y E σ9 ∧ fr [13] E σ σ9 ∧ fm [13, 14, 15, 16, 17, 18, 19, 20, 24] E σ σ9 a ∧ sr E σ9 a Bf ∧ th_H G b0 σ9 H9 ∧ va_S (th_A b0) s.heap H9 l9 ∧ lv_has ls9 10 [(0, .ref a), (2, .int (I 0)), (3, .int (I 0)), (4, .int (I 0)), (5, .int (I v5q78)), (8, .int (I z_96)), (9, .int (I x9))] ∧ rng x9 ∧ (0 ≤ x9) ∧ (x9 ≤ 60) ∧ (z_96 ≤ 60) ∧ (gI σ9 a 11 = a110) ∧ (gI σ9 a 13 = z_29) ∧ (gI σ9 a 17 = z_31) ∧ (gI σ9 a 25 = z_85) ∧ (aF σ9 (ad E a 1) = f1)) ?_ (z_99) σ_J_79 _ _ _ ⟨hO, hF, hM, hsr, hH, hS, lv_sub hl [2, 3, 4, 5, 6, 1, 0] rfl, rz_99, by first | (dsimp only; omega) | omega, by first | (dsimp only; omega) | omega, by first | (dsimp only; omega) | omega, J_79_2, J_79_3, J_79_4, e_86, J_79_5⟩
                intro x9 σ_J_102 H locs ls hI9 ihJ_102
                obtain ⟨v9q101, ex9⟩ : ∃ z, z = x9 := ⟨_, rfl⟩
                subst ex9
                obtain ⟨hO, hF, hM, hsr, hH, hS, hl, rv9q101, J_102_0, J_102_1, J_102_2, J_102_3, J_102_4, J_102_5, J_102_6, J_102_7⟩ := hI9
                have hl : lv_has ls 10 [(0, .ref a), (2, .int (I 0)), (3, .int (I 0)), (4, .int (I 0)), (5, .int (I v5q78)), (8, .int (I z_96)), (9, .int (I v9q101))] := hl
                have rv9q101 : rng v9q101 := rv9q101
                have J_102_0 : 0 ≤ v9q101 := J_102_0
                have J_102_1 : v9q101 ≤ 60 := J_102_1
                have J_102_2 : z_96 ≤ 60 := J_102_2
                have J_102_3 : gI σ_J_102 a 11 = a110 := J_102_3
                have J_102_4 : gI σ_J_102 a 13 = z_29 := J_102_4
                have J_102_5 : gI σ_J_102 a 17 = z_31 := J_102_5
                have J_102_6 : gI σ_J_102 a 25 = z_85 := J_102_6
                have J_102_7 : aF σ_J_102 (ad E a 1) = f1 := J_102_7
                refine lv_iload hx hb dX11_places_242 (lv_at hl 6 rfl) ?_
                refine lv_iload hx hb dX11_places_244 (lv_at hl 5 rfl) ?_
                refine lv_icmp_ge (tgt := 272) hx hb dX11_places_246 (by decide) (fun c_103 => ?_) (fun c_103 => ?_)
                · replace c_103 := (I_le (a := z_96) (b := v9q101) rz_96 rv9q101).mp c_103
                  refine lv_iinc (v := I (v5q78 + 1)) (lv' := [(5, .int (I (v5q78 + 1))), (0, .ref a), (2, .int (I 0)), (3, .int (I 0)), (4, .int (I 0)), (8, .int (I z_96)), (9, .int (I v9q101))]) hx hb dX11_places_272 hl (k := 4) rfl (I_add _ _) (by decide) rfl (fun ls hl => ?_)
                  refine lv_goto (tgt := 159) hx hb dX11_places_275 (by decide) ?_
                  replace hl : lv_has ls 10 [(5, .int (I (v5q78 + 1))), (0, .ref a), (2, .int (I 0)), (3, .int (I 0)), (4, .int (I 0))] := lv_sub hl [0, 1, 2, 3, 4] rfl
                  exact ihJ_79 (v5q78 + 1) σ_J_102 _ _ _ (by first | (dsimp only; omega) | omega) ⟨hO, hF, hM, hsr, hH, hS, lv_sub hl [1, 2, 3, 4, 0] rfl, ⟨by first | (dsimp only; omega) | omega, by first | (dsimp only; omega) | omega⟩, by first | (dsimp only; omega) | omega, by first | (dsimp only; omega) | omega, J_102_3, J_102_4, J_102_5, J_102_7⟩
                · replace c_103 := mt (I_le (a := z_96) (b := v9q101) rz_96 rv9q101).mpr c_103
                  refine lv_aload_n hx hb dX11_places_249 rfl (lv_at hl 0 rfl) ?_
                  refine ok.getR hO h_a (by decide) k13_24 (by decide) (fun _ _ he hv kk => th_get (ci := 11) (C := RX11) (T := TX11) (N := 66) hx hb hts inX11 hown hK hH he rfl 24 (by decide) fl3 hv dX11_places_250 kk) ?_
                  refine lv_aload_n hx hb dX11_places_253 rfl (lv_at hl 0 rfl) ?_
                  refine ok.getR hO h_a (by decide) k13_1 (by decide) (fun _ _ he hv kk => th_get (ci := 11) (C := RX11) (T := TX11) (N := 66) hx hb hts inX11 hown hK hH he rfl 1 (by decide) fl2 hv dX11_places_254 kk) ?_
                  refine lv_iload hx hb dX11_places_257 (lv_at hl 4 rfl) ?_
                  refine lv_iload hx hb dX11_places_259 (lv_at hl 6 rfl) ?_
                  refine th_calli (va_runS (As := [.ref (ad E a 1), .int (I v5q78), .int (I v9q101)]) (rest := [.ref (ad E a 24)]) ⟨hx, hb, hml, hown, hts⟩ (w_nth l G y b0 σ_J_102 E hO (ad E a 1) 240 f1 (hO.roww h_a k13_1 isA1 J_102_7 rfl) v5q78 (show rng v5q78 from rv5q78) (by omega) (by omega) v9q101 (show rng v9q101 from rv9q101) (by first | exact hy0 | exact (hy0).sub (by omega) (by omega)) (by omega) (by omega) (by omega) (jin.mk1 (by omega) hw_94.1 (by omega))) (va_cwS 3 hts gX11_places_X11_nth rfl rfl rfl (by decide +kernel) ⟨Nat.le_of_ble_eq_true rfl, Nat.le_of_ble_eq_true rfl⟩) (th_PS hK hH) rfl rfl hl.1 rfl (lv_room (Nat.le_of_ble_eq_true rfl)) dX11_places_261 ⟨Nat.le_of_ble_eq_true rfl, Nat.le_of_ble_eq_true rfl⟩) hS (fun z_106 σ_s_105 H locs rz_106 hw_104 hH hS => ?_)
                  obtain ⟨e9, hw_104⟩ := hw_104
                  replace e9 := e9.symm
                  subst e9
                  have hw_104 : chn f1 (v5q78 + 1) v9q101 z_106 ∧ kid f1 v5q78 z_106 := hw_104
                  have hq9 := hw_104.2.1
                  have hq8 := hw_104.2.2.1
                  refine lv_iconst (v := I 1) hx hb dX11_places_264 (by decide) ?_
                  refine m_zast hx hb hK hH hS h00 hO h_a k13_24 (by decide) rz_106 (by omega) (by omega) (by omega) dX11_places_265 (fun σ_s_107 H locs hO hF9 hM9 hH hS => ?_)
                  replace hM := hM.tu hM9 (by decide)
                  replace hF := hF.tu hF9 (by decide)
                  have e_108 : gI σ_s_107 a 11 = a110 := (hM9.i (by decide)).trans J_102_3
                  have e_109 : gI σ_s_107 a 13 = z_29 := (hM9.i (by decide)).trans J_102_4
                  have e_110 : gI σ_s_107 a 17 = z_31 := (hM9.i (by decide)).trans J_102_5
                  have e_111 : gI σ_s_107 a 25 = z_85 := (hM9.i (by decide)).trans J_102_6
                  have e_112 : aF σ_s_107 (ad E a 1) = f1 := (hM9.a (by decide) (by decide)).trans J_102_7
                  replace hsr := hsr.mv hM9 (by decide) (by decide) (by decide) (by decide) (by decide)
                  refine lv_iinc (v := I (v9q101 + 1)) (lv' := [(9, .int (I (v9q101 + 1))), (0, .ref a), (2, .int (I 0)), (3, .int (I 0)), (4, .int (I 0)), (5, .int (I v5q78)), (8, .int (I z_96))]) hx hb dX11_places_266 hl (k := 6) rfl (I_add _ _) (by decide) rfl (fun ls hl => ?_)
                  refine lv_goto (tgt := 242) hx hb dX11_places_269 (by decide) ?_
                  exact ihJ_102 (v9q101 + 1) σ_s_107 _ _ _ (by first | (dsimp only; omega) | omega) ⟨hO, hF, hM, hsr, hH, hS, lv_sub hl [1, 2, 3, 4, 5, 6, 0] rfl, ⟨by first | (dsimp only; omega) | omega, by first | (dsimp only; omega) | omega⟩, by first | (dsimp only; omega) | omega, by first | (dsimp only; omega) | omega, by first | (dsimp only; omega) | omega, e_108, e_109, e_110, e_111, e_112⟩
              · replace c_93 := mt (I_eq (a := z_92) (b := 2) rz_92 (show rng 2 from ⟨by decide, by decide⟩)).mpr c_93
                refine lv_goto (tgt := 272) hx hb dX11_places_198 (by decide) ?_
                refine lv_iinc (v := I (v5q78 + 1)) (lv' := [(5, .int (I (v5q78 + 1))), (0, .ref a), (2, .int (I 0)), (3, .int (I 0)), (4, .int (I 0))]) hx hb dX11_places_272 hl (k := 4) rfl (I_add _ _) (by decide) rfl (fun ls hl => ?_)
                refine lv_goto (tgt := 159) hx hb dX11_places_275 (by decide) ?_
                exact ihJ_79 (v5q78 + 1) σ_J_79 _ _ _ (by first | (dsimp only; omega) | omega) ⟨hO, hF, hM, hsr, hH, hS, lv_sub hl [1, 2, 3, 4, 0] rfl, ⟨by first | (dsimp only; omega) | omega, by first | (dsimp only; omega) | omega⟩, by first | (dsimp only; omega) | omega, by first | (dsimp only; omega) | omega, J_79_2, J_79_3, J_79_4, J_79_5⟩
      · replace c_22 := (I_eq (a := z_21) (b := 0) rz_21 (show rng 0 from ⟨by decide, by decide⟩)).mp c_22
        clear hw_19
        refine lv_iconst (v := I 1) hx hb dX11_places_130 (by decide) ?_
        refine lv_goto (tgt := 135) hx hb dX11_places_131 (by decide) ?_
        refine lv_istore_n (lv' := [(3, .int (I 1)), (2, .int (I 0)), (1, .int (I 0)), (0, .ref a)]) hx hb dX11_places_135 rfl hl (by decide) rfl (fun ls hl => ?_)
        refine lv_iload_n hx hb dX11_places_136 rfl (lv_at hl 0 rfl) ?_
        refine lv_if_eq (tgt := 147) hx hb dX11_places_137 (by decide) (fun c_113 => absurd c_113 (by decide)) (fun _ => ?_)
        refine lv_aload_n hx hb dX11_places_140 rfl (lv_at hl 3 rfl) ?_
        obtain ⟨_, hc_114⟩ := hO.cell h_a (by decide) (ci := 11) rfl
        refine th_calli (va_runV (As := []) (rest := []) ⟨hx, hb, hml, hown, hts⟩ (m_readNumber l G y b0 σ_s_14 E hO a h_a Bf hsr (by omega)) (cwV 0 hts gX11_places_X11_readNumber rfl rfl rfl (by decide +kernel) ⟨Nat.le_of_ble_eq_true rfl, Nat.le_of_ble_eq_true rfl⟩) (th_PV hK hH rfl hc_114) rfl rfl hl.1 rfl (lv_room (Nat.le_of_ble_eq_true rfl)) dX11_places_141 ⟨Nat.le_of_ble_eq_true rfl, Nat.le_of_ble_eq_true rfl⟩) hS (fun z_117 σ_s_116 H locs rz_117 hw_115 hH hS => ?_)
        obtain ⟨hO9, hF9, hM9, hw_115⟩ := hw_115
        replace hM := hM.tu hM9 (by decide)
        replace hF := hF.tu hF9 (by decide)
        have e_118 : aF σ_s_116 (ad E a 1) = f1 := (hM9.a (by decide) (by decide)).trans e_15
        have e_119 : gI σ_s_116 a 11 = a110 := (hM9.i (by decide)).trans e_16
        replace hsr := hsr.mv hM9 (by decide) (by decide) (by decide) (by decide) (by decide)
        replace hO := hO9
        have hw_115 : (gI σ_s_14 a 13 ≤ gI σ_s_116 a 13 ∧ gI σ_s_116 a 13 ≤ gI σ_s_14 a 11 ∧ 0 ≤ gI σ_s_116 a 17 ∧ gI σ_s_116 a 17 ≤ gI σ_s_116 a 13) ∧ pgo (gI σ_s_116 a 19) (gI σ_s_116 a 14) (gI σ_s_14 a 13) (gI σ_s_116 a 13) ∧ bdo (gI σ_s_14 a 19) (gI σ_s_116 a 19) := hw_115
        refine lv_goto (tgt := 148) hx hb dX11_places_144 (by decide) ?_
        refine lv_istore (lv' := [(4, .int (I z_117)), (3, .int (I 1)), (2, .int (I 0)), (1, .int (I 0)), (0, .ref a)]) hx hb dX11_places_148 hl (by decide) rfl (fun ls hl => ?_)
        refine lv_aload_n hx hb dX11_places_150 rfl (lv_at hl 4 rfl) ?_
        refine lv_bipush (v := I 93) hx hb dX11_places_151 (by decide) ?_
        obtain ⟨_, hc_120⟩ := hO.cell h_a (by decide) (ci := 11) rfl
        refine th_callv (va_runV (As := [.int (I 93)]) (rest := []) ⟨hx, hb, hml, hown, hts⟩ (m_need l G y b0 σ_s_116 E hO a h_a 93 (show rng 93 from (show rng 93 from ⟨by decide, by decide⟩)) Bf hsr (by omega)) (cwV 1 hts gX11_places_X11_need rfl rfl rfl (by decide +kernel) ⟨Nat.le_of_ble_eq_true rfl, Nat.le_of_ble_eq_true rfl⟩) (th_PV hK hH rfl hc_120) rfl rfl hl.1 rfl (lv_room (Nat.le_of_ble_eq_true rfl)) dX11_places_153 ⟨Nat.le_of_ble_eq_true rfl, Nat.le_of_ble_eq_true rfl⟩) hS (fun σ_s_122 H locs hw_121 hH hS => ?_)
        obtain ⟨hO9, hF9, hM9, hw_121⟩ := hw_121
        replace hM := hM.tu hM9 (by decide)
        replace hF := hF.tu hF9 (by decide)
        have e_123 : aF σ_s_122 (ad E a 1) = f1 := (hM9.a (by decide) (by decide)).trans e_118
        have e_124 : gI σ_s_122 a 11 = a110 := (hM9.i (by decide)).trans e_119
        replace hsr := hsr.mv hM9 (by decide) (by decide) (by decide) (by decide) (by decide)
        replace hO := hO9
        have hw_121 : (gI σ_s_116 a 13 ≤ gI σ_s_122 a 13 ∧ gI σ_s_122 a 13 ≤ gI σ_s_116 a 11 ∧ 0 ≤ gI σ_s_122 a 17 ∧ gI σ_s_122 a 17 ≤ gI σ_s_122 a 13) ∧ pgo (gI σ_s_122 a 19) (gI σ_s_122 a 14) (gI σ_s_116 a 13) (gI σ_s_122 a 13) ∧ bdo (gI σ_s_116 a 19) (gI σ_s_122 a 19) := hw_121
        obtain ⟨z_125, e_126, rz_125, lz_125, uz_125⟩ := hO.gi h_a (by decide) k13_13
        obtain ⟨z_127, e_128, rz_127, lz_127, uz_127⟩ := hO.gi h_a (by decide) k13_17
        refine lv_iconst (v := I 0) hx hb dX11_places_156 (by decide) ?_
        refine lv_istore (lv' := [(5, .int (I 0)), (4, .int (I z_117)), (3, .int (I 1)), (2, .int (I 0)), (1, .int (I 0)), (0, .ref a)]) hx hb dX11_places_157 hl (by decide) rfl (fun ls hl => ?_)
        replace hl : lv_has ls 10 [(5, .int (I 0)), (4, .int (I z_117)), (3, .int (I 1)), (2, .int (I 0)), (0, .ref a)] := lv_sub hl [0, 1, 2, 3, 5] rfl
        refine th_loop (α := Int) (pc := 159) (fun x9 => (mS f1 0 - x9).toNat) (fun x9 σ9 H9 l9 ls9 => ok y E σ9 ∧ fr [13] E σ σ9 ∧ fm [13, 14, 15, 16, 17, 18, 19, 20, 24] E σ σ9 a ∧ sr E σ9 a Bf ∧ th_H G b0 σ9 H9 ∧ va_S (th_A b0) s.heap H9 l9 ∧ lv_has ls9 10 [(0, .ref a), (2, .int (I 0)), (3, .int (I 1)), (4, .int (I z_117)), (5, .int (I x9))] ∧ rng x9 ∧ (0 ≤ x9) ∧ (x9 ≤ 60) ∧ (gI σ9 a 11 = a110) ∧ (gI σ9 a 13 = z_125) ∧ (gI σ9 a 17 = z_127) ∧ (aF σ9 (ad E a 1) = f1)) ?_ (0) σ_s_122 _ _ _ ⟨hO, hF, hM, hsr, hH, hS, lv_sub hl [4, 3, 2, 1, 0] rfl, (show rng 0 from ⟨by decide, by decide⟩), by first | (dsimp only; omega) | omega, by first | (dsimp only; omega) | omega, e_124, e_126, e_128, e_123⟩
        intro x9 σ_J_130 H locs ls hI9 ihJ_130
        obtain ⟨v5q129, ex9⟩ : ∃ z, z = x9 := ⟨_, rfl⟩
        subst ex9
        obtain ⟨hO, hF, hM, hsr, hH, hS, hl, rv5q129, J_130_0, J_130_1, J_130_2, J_130_3, J_130_4, J_130_5⟩ := hI9
        have hl : lv_has ls 10 [(0, .ref a), (2, .int (I 0)), (3, .int (I 1)), (4, .int (I z_117)), (5, .int (I v5q129))] := hl
        have rv5q129 : rng v5q129 := rv5q129
        have J_130_0 : 0 ≤ v5q129 := J_130_0
        have J_130_1 : v5q129 ≤ 60 := J_130_1
        have J_130_2 : gI σ_J_130 a 11 = a110 := J_130_2
        have J_130_3 : gI σ_J_130 a 13 = z_125 := J_130_3
        have J_130_4 : gI σ_J_130 a 17 = z_127 := J_130_4
        have J_130_5 : aF σ_J_130 (ad E a 1) = f1 := J_130_5
        refine lv_iload hx hb dX11_places_159 (lv_at hl 4 rfl) ?_
        refine lv_aload_n hx hb dX11_places_161 rfl (lv_at hl 0 rfl) ?_
        obtain ⟨_, hc_131⟩ := hO.cell h_a (by decide) (ci := 11) rfl
        refine th_calli (va_runV (As := []) (rest := [.int (I v5q129)]) ⟨hx, hb, hml, hown, hts⟩ (m_things l G y b0 σ_J_130 E hO a h_a f1 J_130_5) (cwV 0 hts gX11_places_X11_things rfl rfl rfl (by decide +kernel) ⟨Nat.le_of_ble_eq_true rfl, Nat.le_of_ble_eq_true rfl⟩) (th_PV hK hH rfl hc_131) rfl rfl hl.1 rfl (lv_room (Nat.le_of_ble_eq_true rfl)) dX11_places_162 ⟨Nat.le_of_ble_eq_true rfl, Nat.le_of_ble_eq_true rfl⟩) hS (fun z_134 σ_s_133 H locs rz_134 hw_132 hH hS => ?_)
        obtain ⟨e9, hw_132⟩ := hw_132
        replace e9 := e9.symm
        subst e9
        have hw_132 : z_134 = mS f1 0 := hw_132
        refine lv_icmp_ge (tgt := 278) hx hb dX11_places_165 (by decide) (fun c_135 => ?_) (fun c_135 => ?_)
        · replace c_135 := (I_le (a := z_134) (b := v5q129) rz_134 rv5q129).mp c_135
          exact th_vret hx hb hr hlocks hH hS ⟨hO, hF, hM, by omega⟩ dX11_places_278
        · replace c_135 := mt (I_le (a := z_134) (b := v5q129) rz_134 rv5q129).mpr c_135
          refine lv_aload_n hx hb dX11_places_168 rfl (lv_at hl 0 rfl) ?_
          refine ok.getI hO h_a (by decide) k13_25 (fun _ _ he hv kk => th_get (ci := 11) (C := RX11) (T := TX11) (N := 66) hx hb hts inX11 hown hK hH he rfl 25 (by decide) fl0 hv dX11_places_169 kk) (fun z_136 e_137 rz_136 lz_136 uz_136 => ?_)
          refine lv_if_eq (tgt := 278) hx hb dX11_places_172 (by decide) (fun c_138 => ?_) (fun c_138 => ?_)
          · replace c_138 := (I_eq (a := z_136) (b := 0) rz_136 (show rng 0 from ⟨by decide, by decide⟩)).mp c_138
            exact th_vret hx hb hr hlocks hH hS ⟨hO, hF, hM, by omega⟩ dX11_places_278
          · replace c_138 := mt (I_eq (a := z_136) (b := 0) rz_136 (show rng 0 from ⟨by decide, by decide⟩)).mpr c_138
            refine lv_aload_n hx hb dX11_places_175 rfl (lv_at hl 0 rfl) ?_
            refine ok.getR hO h_a (by decide) k13_23 (by decide) (fun _ _ he hv kk => th_get (ci := 11) (C := RX11) (T := TX11) (N := 66) hx hb hts inX11 hown hK hH he rfl 23 (by decide) fl1 hv dX11_places_176 kk) ?_
            refine lv_iload hx hb dX11_places_179 (lv_at hl 4 rfl) ?_
            refine m_zald hx hb hK hH hO h_a k13_23 rv5q129 (by omega) (by omega) dX11_places_181 (fun z_139 rz_139 uz_139 => ?_)
            refine lv_if_eq (tgt := 272) hx hb dX11_places_182 (by decide) (fun c_140 => ?_) (fun c_140 => ?_)
            · replace c_140 := (I_eq (a := z_139) (b := 0) rz_139 (show rng 0 from ⟨by decide, by decide⟩)).mp c_140
              refine lv_iinc (v := I (v5q129 + 1)) (lv' := [(5, .int (I (v5q129 + 1))), (0, .ref a), (2, .int (I 0)), (3, .int (I 1)), (4, .int (I z_117))]) hx hb dX11_places_272 hl (k := 4) rfl (I_add _ _) (by decide) rfl (fun ls hl => ?_)
              refine lv_goto (tgt := 159) hx hb dX11_places_275 (by decide) ?_
              exact ihJ_130 (v5q129 + 1) σ_J_130 _ _ _ (by first | (dsimp only; omega) | omega) ⟨hO, hF, hM, hsr, hH, hS, lv_sub hl [1, 2, 3, 4, 0] rfl, ⟨by first | (dsimp only; omega) | omega, by first | (dsimp only; omega) | omega⟩, by first | (dsimp only; omega) | omega, by first | (dsimp only; omega) | omega, J_130_2, J_130_3, J_130_4, J_130_5⟩
            · replace c_140 := mt (I_eq (a := z_139) (b := 0) rz_139 (show rng 0 from ⟨by decide, by decide⟩)).mpr c_140
              have hk5 := hy0 v5q129 (by omega) (by omega)
              refine lv_aload_n hx hb dX11_places_185 rfl (lv_at hl 0 rfl) ?_
              refine ok.getR hO h_a (by decide) k13_1 (by decide) (fun _ _ he hv kk => th_get (ci := 11) (C := RX11) (T := TX11) (N := 66) hx hb hts inX11 hown hK hH he rfl 1 (by decide) fl2 hv dX11_places_186 kk) ?_
              refine lv_iload hx hb dX11_places_189 (lv_at hl 4 rfl) ?_
              refine th_calli (va_runS (As := [.ref (ad E a 1), .int (I v5q129)]) (rest := []) ⟨hx, hb, hml, hown, hts⟩ (w_kind l G y b0 σ_J_130 E hO (ad E a 1) 240 f1 (hO.roww h_a k13_1 isA1 J_130_5 rfl) v5q129 (show rng v5q129 from rv5q129) (by omega) (by omega) (by omega)) (va_cwS 2 hts gX11_places_X11_kind rfl rfl rfl (by decide +kernel) ⟨Nat.le_of_ble_eq_true rfl, Nat.le_of_ble_eq_true rfl⟩) (th_PS hK hH) rfl rfl hl.1 rfl (lv_room (Nat.le_of_ble_eq_true rfl)) dX11_places_191 ⟨Nat.le_of_ble_eq_true rfl, Nat.le_of_ble_eq_true rfl⟩) hS (fun z_143 σ_s_142 H locs rz_143 hw_141 hH hS => ?_)
              obtain ⟨e9, hw_141⟩ := hw_141
              replace e9 := e9.symm
              subst e9
              have hw_141 : z_143 = mK f1 v5q129 := hw_141
              refine lv_iconst (v := I 2) hx hb dX11_places_194 (by decide) ?_
              refine lv_icmp_eq (tgt := 201) hx hb dX11_places_195 (by decide) (fun c_144 => ?_) (fun c_144 => ?_)
              · replace c_144 := (I_eq (a := z_143) (b := 2) rz_143 (show rng 2 from ⟨by decide, by decide⟩)).mp c_144
                refine lv_aload_n hx hb dX11_places_201 rfl (lv_at hl 0 rfl) ?_
                refine ok.getR hO h_a (by decide) k13_1 (by decide) (fun _ _ he hv kk => th_get (ci := 11) (C := RX11) (T := TX11) (N := 66) hx hb hts inX11 hown hK hH he rfl 1 (by decide) fl2 hv dX11_places_202 kk) ?_
                refine lv_iload hx hb dX11_places_205 (lv_at hl 4 rfl) ?_
                refine th_calli (va_runS (As := [.ref (ad E a 1), .int (I v5q129)]) (rest := []) ⟨hx, hb, hml, hown, hts⟩ (w_many l G y b0 σ_J_130 E hO (ad E a 1) 240 f1 (hO.roww h_a k13_1 isA1 J_130_5 rfl) v5q129 (show rng v5q129 from rv5q129) (by omega) (by omega) (by first | exact hy0 | exact (hy0).sub (by omega) (by omega)) (by omega) (by omega) (by omega)) (va_cwS 2 hts gX11_places_X11_many rfl rfl rfl (by decide +kernel) ⟨Nat.le_of_ble_eq_true rfl, Nat.le_of_ble_eq_true rfl⟩) (th_PS hK hH) rfl rfl hl.1 rfl (lv_room (Nat.le_of_ble_eq_true rfl)) dX11_places_207 ⟨Nat.le_of_ble_eq_true rfl, Nat.le_of_ble_eq_true rfl⟩) hS (fun z_147 σ_s_146 H locs rz_147 hw_145 hH hS => ?_)
                obtain ⟨e9, hw_145⟩ := hw_145
                replace e9 := e9.symm
                subst e9
                have hw_145 : chn f1 (v5q129 + 1) z_147 (v5q129 + mS f1 v5q129) ∧ 0 ≤ z_147 ∧ z_147 < mS f1 v5q129 := hw_145
                refine lv_istore (lv' := [(6, .int (I z_147)), (0, .ref a), (2, .int (I 0)), (3, .int (I 1)), (4, .int (I z_117)), (5, .int (I v5q129))]) hx hb dX11_places_210 hl (by decide) rfl (fun ls hl => ?_)
                refine lv_iload_n hx hb dX11_places_212 rfl (lv_at hl 2 rfl) ?_
                refine lv_iload hx hb dX11_places_213 (lv_at hl 0 rfl) ?_
                refine th_calli (va_runS (As := [.int (I 0), .int (I z_147)]) (rest := []) ⟨hx, hb, hml, hown, hts⟩ (w_held l G y b0 σ_J_130 E hO 0 (show rng 0 from (show rng 0 from ⟨by decide, by decide⟩)) z_147 (show rng z_147 from rz_147) (by omega) (by omega)) (va_cwS 2 hts gX11_places_X11_held rfl rfl rfl (by decide +kernel) ⟨Nat.le_of_ble_eq_true rfl, Nat.le_of_ble_eq_true rfl⟩) (th_PS hK hH) rfl rfl hl.1 rfl (lv_room (Nat.le_of_ble_eq_true rfl)) dX11_places_215 ⟨Nat.le_of_ble_eq_true rfl, Nat.le_of_ble_eq_true rfl⟩) hS (fun z_150 σ_s_149 H locs rz_150 hw_148 hH hS => ?_)
                obtain ⟨e9, hw_148⟩ := hw_148
                replace e9 := e9.symm
                subst e9
                have hw_148 : 0 ≤ z_150 ∧ z_150 ≤ z_147 := hw_148
                refine lv_istore (lv' := [(7, .int (I z_150)), (6, .int (I z_147)), (0, .ref a), (2, .int (I 0)), (3, .int (I 1)), (4, .int (I z_117)), (5, .int (I v5q129))]) hx hb dX11_places_218 hl (by decide) rfl (fun ls hl => ?_)
                refine lv_iload_n hx hb dX11_places_220 rfl (lv_at hl 4 rfl) ?_
                refine lv_if_eq (tgt := 234) hx hb dX11_places_221 (by decide) (fun c_151 => absurd c_151 (by decide)) (fun _ => ?_)
                refine lv_iload hx hb dX11_places_224 (lv_at hl 5 rfl) ?_
                refine lv_iload hx hb dX11_places_226 (lv_at hl 1 rfl) ?_
                refine th_calli (va_runS (As := [.int (I z_117), .int (I z_147)]) (rest := []) ⟨hx, hb, hml, hown, hts⟩ (w_held l G y b0 σ_J_130 E hO z_117 (show rng z_117 from rz_117) z_147 (show rng z_147 from rz_147) (by omega) (by omega)) (va_cwS 2 hts gX11_places_X11_held rfl rfl rfl (by decide +kernel) ⟨Nat.le_of_ble_eq_true rfl, Nat.le_of_ble_eq_true rfl⟩) (th_PS hK hH) rfl rfl hl.1 rfl (lv_room (Nat.le_of_ble_eq_true rfl)) dX11_places_228 ⟨Nat.le_of_ble_eq_true rfl, Nat.le_of_ble_eq_true rfl⟩) hS (fun z_154 σ_s_153 H locs rz_154 hw_152 hH hS => ?_)
                obtain ⟨e9, hw_152⟩ := hw_152
                replace e9 := e9.symm
                subst e9
                have hw_152 : 0 ≤ z_154 ∧ z_154 ≤ z_147 := hw_152
                refine lv_goto (tgt := 236) hx hb dX11_places_231 (by decide) ?_
                refine lv_istore (lv' := [(8, .int (I z_154)), (7, .int (I z_150)), (6, .int (I z_147)), (0, .ref a), (2, .int (I 0)), (3, .int (I 1)), (4, .int (I z_117)), (5, .int (I v5q129))]) hx hb dX11_places_236 hl (by decide) rfl (fun ls hl => ?_)
                refine lv_iload hx hb dX11_places_238 (lv_at hl 1 rfl) ?_
                refine lv_istore (lv' := [(9, .int (I z_150)), (8, .int (I z_154)), (7, .int (I z_150)), (6, .int (I z_147)), (0, .ref a), (2, .int (I 0)), (3, .int (I 1)), (4, .int (I z_117)), (5, .int (I v5q129))]) hx hb dX11_places_240 hl (by decide) rfl (fun ls hl => ?_)
                replace hl : lv_has ls 10 [(9, .int (I z_150)), (8, .int (I z_154)), (0, .ref a), (2, .int (I 0)), (3, .int (I 1)), (4, .int (I z_117)), (5, .int (I v5q129))] := lv_sub hl [0, 1, 4, 5, 6, 7, 8] rfl
                refine th_loop (α := Int) (pc := 242) (fun x9 => (z_154 - x9).toNat) (fun x9 σ9 H9 l9 ls9 => ok y E σ9 ∧ fr [13] E σ σ9 ∧ fm [13, 14, 15, 16, 17, 18, 19, 20, 24] E σ σ9 a ∧ sr E σ9 a Bf ∧ th_H G b0 σ9 H9 ∧ va_S (th_A b0) s.heap H9 l9 ∧ lv_has ls9 10 [(0, .ref a), (2, .int (I 0)), (3, .int (I 1)), (4, .int (I z_117)), (5, .int (I v5q129)), (8, .int (I z_154)), (9, .int (I x9))] ∧ rng x9 ∧ (0 ≤ x9) ∧ (x9 ≤ 60) ∧ (z_154 ≤ 60) ∧ (gI σ9 a 11 = a110) ∧ (gI σ9 a 13 = z_125) ∧ (gI σ9 a 17 = z_127) ∧ (gI σ9 a 25 = z_136) ∧ (aF σ9 (ad E a 1) = f1)) ?_ (z_150) σ_J_130 _ _ _ ⟨hO, hF, hM, hsr, hH, hS, lv_sub hl [2, 3, 4, 5, 6, 1, 0] rfl, rz_150, by first | (dsimp only; omega) | omega, by first | (dsimp only; omega) | omega, by first | (dsimp only; omega) | omega, J_130_2, J_130_3, J_130_4, e_137, J_130_5⟩
                intro x9 σ_J_156 H locs ls hI9 ihJ_156
                obtain ⟨v9q155, ex9⟩ : ∃ z, z = x9 := ⟨_, rfl⟩
                subst ex9
                obtain ⟨hO, hF, hM, hsr, hH, hS, hl, rv9q155, J_156_0, J_156_1, J_156_2, J_156_3, J_156_4, J_156_5, J_156_6, J_156_7⟩ := hI9
                have hl : lv_has ls 10 [(0, .ref a), (2, .int (I 0)), (3, .int (I 1)), (4, .int (I z_117)), (5, .int (I v5q129)), (8, .int (I z_154)), (9, .int (I v9q155))] := hl
                have rv9q155 : rng v9q155 := rv9q155
                have J_156_0 : 0 ≤ v9q155 := J_156_0
                have J_156_1 : v9q155 ≤ 60 := J_156_1
                have J_156_2 : z_154 ≤ 60 := J_156_2
                have J_156_3 : gI σ_J_156 a 11 = a110 := J_156_3
                have J_156_4 : gI σ_J_156 a 13 = z_125 := J_156_4
                have J_156_5 : gI σ_J_156 a 17 = z_127 := J_156_5
                have J_156_6 : gI σ_J_156 a 25 = z_136 := J_156_6
                have J_156_7 : aF σ_J_156 (ad E a 1) = f1 := J_156_7
                refine lv_iload hx hb dX11_places_242 (lv_at hl 6 rfl) ?_
                refine lv_iload hx hb dX11_places_244 (lv_at hl 5 rfl) ?_
                refine lv_icmp_ge (tgt := 272) hx hb dX11_places_246 (by decide) (fun c_157 => ?_) (fun c_157 => ?_)
                · replace c_157 := (I_le (a := z_154) (b := v9q155) rz_154 rv9q155).mp c_157
                  refine lv_iinc (v := I (v5q129 + 1)) (lv' := [(5, .int (I (v5q129 + 1))), (0, .ref a), (2, .int (I 0)), (3, .int (I 1)), (4, .int (I z_117)), (8, .int (I z_154)), (9, .int (I v9q155))]) hx hb dX11_places_272 hl (k := 4) rfl (I_add _ _) (by decide) rfl (fun ls hl => ?_)
                  refine lv_goto (tgt := 159) hx hb dX11_places_275 (by decide) ?_
                  replace hl : lv_has ls 10 [(5, .int (I (v5q129 + 1))), (0, .ref a), (2, .int (I 0)), (3, .int (I 1)), (4, .int (I z_117))] := lv_sub hl [0, 1, 2, 3, 4] rfl
                  exact ihJ_130 (v5q129 + 1) σ_J_156 _ _ _ (by first | (dsimp only; omega) | omega) ⟨hO, hF, hM, hsr, hH, hS, lv_sub hl [1, 2, 3, 4, 0] rfl, ⟨by first | (dsimp only; omega) | omega, by first | (dsimp only; omega) | omega⟩, by first | (dsimp only; omega) | omega, by first | (dsimp only; omega) | omega, J_156_3, J_156_4, J_156_5, J_156_7⟩
                · replace c_157 := mt (I_le (a := z_154) (b := v9q155) rz_154 rv9q155).mpr c_157
                  refine lv_aload_n hx hb dX11_places_249 rfl (lv_at hl 0 rfl) ?_
                  refine ok.getR hO h_a (by decide) k13_24 (by decide) (fun _ _ he hv kk => th_get (ci := 11) (C := RX11) (T := TX11) (N := 66) hx hb hts inX11 hown hK hH he rfl 24 (by decide) fl3 hv dX11_places_250 kk) ?_
                  refine lv_aload_n hx hb dX11_places_253 rfl (lv_at hl 0 rfl) ?_
                  refine ok.getR hO h_a (by decide) k13_1 (by decide) (fun _ _ he hv kk => th_get (ci := 11) (C := RX11) (T := TX11) (N := 66) hx hb hts inX11 hown hK hH he rfl 1 (by decide) fl2 hv dX11_places_254 kk) ?_
                  refine lv_iload hx hb dX11_places_257 (lv_at hl 4 rfl) ?_
                  refine lv_iload hx hb dX11_places_259 (lv_at hl 6 rfl) ?_
                  refine th_calli (va_runS (As := [.ref (ad E a 1), .int (I v5q129), .int (I v9q155)]) (rest := [.ref (ad E a 24)]) ⟨hx, hb, hml, hown, hts⟩ (w_nth l G y b0 σ_J_156 E hO (ad E a 1) 240 f1 (hO.roww h_a k13_1 isA1 J_156_7 rfl) v5q129 (show rng v5q129 from rv5q129) (by omega) (by omega) v9q155 (show rng v9q155 from rv9q155) (by first | exact hy0 | exact (hy0).sub (by omega) (by omega)) (by omega) (by omega) (by omega) (jin.mk1 (by omega) hw_145.1 (by omega))) (va_cwS 3 hts gX11_places_X11_nth rfl rfl rfl (by decide +kernel) ⟨Nat.le_of_ble_eq_true rfl, Nat.le_of_ble_eq_true rfl⟩) (th_PS hK hH) rfl rfl hl.1 rfl (lv_room (Nat.le_of_ble_eq_true rfl)) dX11_places_261 ⟨Nat.le_of_ble_eq_true rfl, Nat.le_of_ble_eq_true rfl⟩) hS (fun z_160 σ_s_159 H locs rz_160 hw_158 hH hS => ?_)
                  obtain ⟨e9, hw_158⟩ := hw_158
                  replace e9 := e9.symm
                  subst e9
                  have hw_158 : chn f1 (v5q129 + 1) v9q155 z_160 ∧ kid f1 v5q129 z_160 := hw_158
                  have hq9 := hw_158.2.1
                  have hq8 := hw_158.2.2.1
                  refine lv_iconst (v := I 1) hx hb dX11_places_264 (by decide) ?_
                  refine m_zast hx hb hK hH hS h00 hO h_a k13_24 (by decide) rz_160 (by omega) (by omega) (by omega) dX11_places_265 (fun σ_s_161 H locs hO hF9 hM9 hH hS => ?_)
                  replace hM := hM.tu hM9 (by decide)
                  replace hF := hF.tu hF9 (by decide)
                  have e_162 : gI σ_s_161 a 11 = a110 := (hM9.i (by decide)).trans J_156_3
                  have e_163 : gI σ_s_161 a 13 = z_125 := (hM9.i (by decide)).trans J_156_4
                  have e_164 : gI σ_s_161 a 17 = z_127 := (hM9.i (by decide)).trans J_156_5
                  have e_165 : gI σ_s_161 a 25 = z_136 := (hM9.i (by decide)).trans J_156_6
                  have e_166 : aF σ_s_161 (ad E a 1) = f1 := (hM9.a (by decide) (by decide)).trans J_156_7
                  replace hsr := hsr.mv hM9 (by decide) (by decide) (by decide) (by decide) (by decide)
                  refine lv_iinc (v := I (v9q155 + 1)) (lv' := [(9, .int (I (v9q155 + 1))), (0, .ref a), (2, .int (I 0)), (3, .int (I 1)), (4, .int (I z_117)), (5, .int (I v5q129)), (8, .int (I z_154))]) hx hb dX11_places_266 hl (k := 6) rfl (I_add _ _) (by decide) rfl (fun ls hl => ?_)
                  refine lv_goto (tgt := 242) hx hb dX11_places_269 (by decide) ?_
                  exact ihJ_156 (v9q155 + 1) σ_s_161 _ _ _ (by first | (dsimp only; omega) | omega) ⟨hO, hF, hM, hsr, hH, hS, lv_sub hl [1, 2, 3, 4, 5, 6, 0] rfl, ⟨by first | (dsimp only; omega) | omega, by first | (dsimp only; omega) | omega⟩, by first | (dsimp only; omega) | omega, by first | (dsimp only; omega) | omega, by first | (dsimp only; omega) | omega, e_162, e_163, e_164, e_165, e_166⟩
              · replace c_144 := mt (I_eq (a := z_143) (b := 2) rz_143 (show rng 2 from ⟨by decide, by decide⟩)).mpr c_144
                refine lv_goto (tgt := 272) hx hb dX11_places_198 (by decide) ?_
                refine lv_iinc (v := I (v5q129 + 1)) (lv' := [(5, .int (I (v5q129 + 1))), (0, .ref a), (2, .int (I 0)), (3, .int (I 1)), (4, .int (I z_117))]) hx hb dX11_places_272 hl (k := 4) rfl (I_add _ _) (by decide) rfl (fun ls hl => ?_)
                refine lv_goto (tgt := 159) hx hb dX11_places_275 (by decide) ?_
                exact ihJ_130 (v5q129 + 1) σ_J_130 _ _ _ (by first | (dsimp only; omega) | omega) ⟨hO, hF, hM, hsr, hH, hS, lv_sub hl [1, 2, 3, 4, 0] rfl, ⟨by first | (dsimp only; omega) | omega, by first | (dsimp only; omega) | omega⟩, by first | (dsimp only; omega) | omega, by first | (dsimp only; omega) | omega, J_130_2, J_130_3, J_130_4, J_130_5⟩
    · replace c_11 := (I_eq (a := z_10) (b := 0) rz_10 (show rng 0 from ⟨by decide, by decide⟩)).mp c_11
      clear hw_8
      refine lv_aload_n hx hb dX11_places_37 rfl (lv_at hl 2 rfl) ?_
      refine lv_bipush (v := I 93) hx hb dX11_places_38 (by decide) ?_
      obtain ⟨_, hc_167⟩ := hO.cell h_a (by decide) (ci := 11) rfl
      refine th_callv (va_runV (As := [.int (I 93)]) (rest := []) ⟨hx, hb, hml, hown, hts⟩ (m_need l G y b0 σ E hO a h_a 93 (show rng 93 from (show rng 93 from ⟨by decide, by decide⟩)) Bf hsr (by omega)) (cwV 1 hts gX11_places_X11_need rfl rfl rfl (by decide +kernel) ⟨Nat.le_of_ble_eq_true rfl, Nat.le_of_ble_eq_true rfl⟩) (th_PV hK hH rfl hc_167) rfl rfl hl.1 rfl (lv_room (Nat.le_of_ble_eq_true rfl)) dX11_places_40 ⟨Nat.le_of_ble_eq_true rfl, Nat.le_of_ble_eq_true rfl⟩) hS (fun σ_s_169 H locs hw_168 hH hS => ?_)
      obtain ⟨hO9, hF9, hM9, hw_168⟩ := hw_168
      replace hM := hM.tu hM9 (by decide)
      replace hF := hF.tu hF9 (by decide)
      have e_170 : aF σ_s_169 (ad E a 1) = f1 := (hM9.a (by decide) (by decide)).trans ef1
      have e_171 : gI σ_s_169 a 11 = a110 := (hM9.i (by decide)).trans ea110
      replace hsr := hsr.mv hM9 (by decide) (by decide) (by decide) (by decide) (by decide)
      replace hO := hO9
      have hw_168 : (gI σ a 13 ≤ gI σ_s_169 a 13 ∧ gI σ_s_169 a 13 ≤ gI σ a 11 ∧ 0 ≤ gI σ_s_169 a 17 ∧ gI σ_s_169 a 17 ≤ gI σ_s_169 a 13) ∧ pgo (gI σ_s_169 a 19) (gI σ_s_169 a 14) (gI σ a 13) (gI σ_s_169 a 13) ∧ bdo (gI σ a 19) (gI σ_s_169 a 19) := hw_168
      obtain ⟨z_172, e_173, rz_172, lz_172, uz_172⟩ := hO.gi h_a (by decide) k13_13
      obtain ⟨z_174, e_175, rz_174, lz_174, uz_174⟩ := hO.gi h_a (by decide) k13_17
      refine lv_iconst (v := I 0) hx hb dX11_places_43 (by decide) ?_
      refine lv_istore_n (lv' := [(3, .int (I 0)), (2, .int (I 0)), (1, .int (I 0)), (0, .ref a)]) hx hb dX11_places_44 rfl hl (by decide) rfl (fun ls hl => ?_)
      replace hl : lv_has ls 10 [(3, .int (I 0)), (2, .int (I 0)), (0, .ref a)] := lv_sub hl [0, 1, 3] rfl
      refine th_loop (α := Int) (pc := 45) (fun x9 => (mS f1 0 - x9).toNat) (fun x9 σ9 H9 l9 ls9 => ok y E σ9 ∧ fr [13] E σ σ9 ∧ fm [13, 14, 15, 16, 17, 18, 19, 20, 24] E σ σ9 a ∧ sr E σ9 a Bf ∧ th_H G b0 σ9 H9 ∧ va_S (th_A b0) s.heap H9 l9 ∧ lv_has ls9 10 [(0, .ref a), (2, .int (I 0)), (3, .int (I x9))] ∧ rng x9 ∧ (0 ≤ x9) ∧ (x9 ≤ 60) ∧ (gI σ9 a 11 = a110) ∧ (gI σ9 a 13 = z_172) ∧ (gI σ9 a 17 = z_174) ∧ (aF σ9 (ad E a 1) = f1)) ?_ (0) σ_s_169 _ _ _ ⟨hO, hF, hM, hsr, hH, hS, lv_sub hl [2, 1, 0] rfl, (show rng 0 from ⟨by decide, by decide⟩), by first | (dsimp only; omega) | omega, by first | (dsimp only; omega) | omega, e_171, e_173, e_175, e_170⟩
      intro x9 σ_J_204 H locs ls hI9 ihJ_204
      obtain ⟨v3q203, ex9⟩ : ∃ z, z = x9 := ⟨_, rfl⟩
      subst ex9
      obtain ⟨hO, hF, hM, hsr, hH, hS, hl, rv3q203, J_204_0, J_204_1, J_204_2, J_204_3, J_204_4, J_204_5⟩ := hI9
      have hl : lv_has ls 10 [(0, .ref a), (2, .int (I 0)), (3, .int (I v3q203))] := hl
      have rv3q203 : rng v3q203 := rv3q203
      have J_204_0 : 0 ≤ v3q203 := J_204_0
      have J_204_1 : v3q203 ≤ 60 := J_204_1
      have J_204_2 : gI σ_J_204 a 11 = a110 := J_204_2
      have J_204_3 : gI σ_J_204 a 13 = z_172 := J_204_3
      have J_204_4 : gI σ_J_204 a 17 = z_174 := J_204_4
      have J_204_5 : aF σ_J_204 (ad E a 1) = f1 := J_204_5
      refine lv_iload_n hx hb dX11_places_45 rfl (lv_at hl 2 rfl) ?_
      refine lv_aload_n hx hb dX11_places_46 rfl (lv_at hl 0 rfl) ?_
      obtain ⟨_, hc_205⟩ := hO.cell h_a (by decide) (ci := 11) rfl
      refine th_calli (va_runV (As := []) (rest := [.int (I v3q203)]) ⟨hx, hb, hml, hown, hts⟩ (m_things l G y b0 σ_J_204 E hO a h_a f1 J_204_5) (cwV 0 hts gX11_places_X11_things rfl rfl rfl (by decide +kernel) ⟨Nat.le_of_ble_eq_true rfl, Nat.le_of_ble_eq_true rfl⟩) (th_PV hK hH rfl hc_205) rfl rfl hl.1 rfl (lv_room (Nat.le_of_ble_eq_true rfl)) dX11_places_47 ⟨Nat.le_of_ble_eq_true rfl, Nat.le_of_ble_eq_true rfl⟩) hS (fun z_208 σ_s_207 H locs rz_208 hw_206 hH hS => ?_)
      obtain ⟨e9, hw_206⟩ := hw_206
      replace e9 := e9.symm
      subst e9
      have hw_206 : z_208 = mS f1 0 := hw_206
      refine lv_icmp_ge (tgt := 116) hx hb dX11_places_50 (by decide) (fun c_209 => ?_) (fun c_209 => ?_)
      · replace c_209 := (I_le (a := z_208) (b := v3q203) rz_208 rv3q203).mp c_209
        exact th_vret hx hb hr hlocks hH hS ⟨hO, hF, hM, by omega⟩ dX11_places_116
      · replace c_209 := mt (I_le (a := z_208) (b := v3q203) rz_208 rv3q203).mpr c_209
        refine lv_aload_n hx hb dX11_places_53 rfl (lv_at hl 0 rfl) ?_
        refine ok.getI hO h_a (by decide) k13_25 (fun _ _ he hv kk => th_get (ci := 11) (C := RX11) (T := TX11) (N := 66) hx hb hts inX11 hown hK hH he rfl 25 (by decide) fl0 hv dX11_places_54 kk) (fun z_210 e_211 rz_210 lz_210 uz_210 => ?_)
        refine lv_if_eq (tgt := 116) hx hb dX11_places_57 (by decide) (fun c_212 => ?_) (fun c_212 => ?_)
        · replace c_212 := (I_eq (a := z_210) (b := 0) rz_210 (show rng 0 from ⟨by decide, by decide⟩)).mp c_212
          exact th_vret hx hb hr hlocks hH hS ⟨hO, hF, hM, by omega⟩ dX11_places_116
        · replace c_212 := mt (I_eq (a := z_210) (b := 0) rz_210 (show rng 0 from ⟨by decide, by decide⟩)).mpr c_212
          refine lv_aload_n hx hb dX11_places_60 rfl (lv_at hl 0 rfl) ?_
          refine ok.getR hO h_a (by decide) k13_23 (by decide) (fun _ _ he hv kk => th_get (ci := 11) (C := RX11) (T := TX11) (N := 66) hx hb hts inX11 hown hK hH he rfl 23 (by decide) fl1 hv dX11_places_61 kk) ?_
          refine lv_iload_n hx hb dX11_places_64 rfl (lv_at hl 2 rfl) ?_
          refine m_zald hx hb hK hH hO h_a k13_23 rv3q203 (by omega) (by omega) dX11_places_65 (fun z_213 rz_213 uz_213 => ?_)
          refine lv_if_eq (tgt := 93) hx hb dX11_places_66 (by decide) (fun c_214 => ?_) (fun c_214 => ?_)
          · replace c_214 := (I_eq (a := z_213) (b := 0) rz_213 (show rng 0 from ⟨by decide, by decide⟩)).mp c_214
            refine lv_iconst (v := I (-1)) hx hb dX11_places_93 (by decide) ?_
            refine lv_istore (lv' := [(4, .int (I (-1))), (0, .ref a), (2, .int (I 0)), (3, .int (I v3q203))]) hx hb dX11_places_94 hl (by decide) rfl (fun ls hl => ?_)
            refine lv_iload hx hb dX11_places_96 (lv_at hl 0 rfl) ?_
            refine lv_iconst (v := I (-1)) hx hb dX11_places_98 (by decide) ?_
            refine lv_icmp_eq (tgt := 110) hx hb dX11_places_99 (by decide) (fun _ => ?_) (fun c_215 => absurd (by decide) c_215)
            refine lv_iinc (v := I (v3q203 + 1)) (lv' := [(3, .int (I (v3q203 + 1))), (4, .int (I (-1))), (0, .ref a), (2, .int (I 0))]) hx hb dX11_places_110 hl (k := 3) rfl (I_add _ _) (by decide) rfl (fun ls hl => ?_)
            refine lv_goto (tgt := 45) hx hb dX11_places_113 (by decide) ?_
            replace hl : lv_has ls 10 [(3, .int (I (v3q203 + 1))), (0, .ref a), (2, .int (I 0))] := lv_sub hl [0, 2, 3] rfl
            exact ihJ_204 (v3q203 + 1) σ_J_204 _ _ _ (by first | (dsimp only; omega) | omega) ⟨hO, hF, hM, hsr, hH, hS, lv_sub hl [1, 2, 0] rfl, ⟨by first | (dsimp only; omega) | omega, by first | (dsimp only; omega) | omega⟩, by first | (dsimp only; omega) | omega, by first | (dsimp only; omega) | omega, J_204_2, J_204_3, J_204_4, J_204_5⟩
          · replace c_214 := mt (I_eq (a := z_213) (b := 0) rz_213 (show rng 0 from ⟨by decide, by decide⟩)).mpr c_214
            have hk3 := hy0 v3q203 (by omega) (by omega)
            refine lv_aload_n hx hb dX11_places_69 rfl (lv_at hl 0 rfl) ?_
            refine ok.getR hO h_a (by decide) k13_1 (by decide) (fun _ _ he hv kk => th_get (ci := 11) (C := RX11) (T := TX11) (N := 66) hx hb hts inX11 hown hK hH he rfl 1 (by decide) fl2 hv dX11_places_70 kk) ?_
            refine lv_iload_n hx hb dX11_places_73 rfl (lv_at hl 2 rfl) ?_
            refine th_calli (va_runS (As := [.ref (ad E a 1), .int (I v3q203)]) (rest := []) ⟨hx, hb, hml, hown, hts⟩ (w_kind l G y b0 σ_J_204 E hO (ad E a 1) 240 f1 (hO.roww h_a k13_1 isA1 J_204_5 rfl) v3q203 (show rng v3q203 from rv3q203) (by omega) (by omega) (by omega)) (va_cwS 2 hts gX11_places_X11_kind rfl rfl rfl (by decide +kernel) ⟨Nat.le_of_ble_eq_true rfl, Nat.le_of_ble_eq_true rfl⟩) (th_PS hK hH) rfl rfl hl.1 rfl (lv_room (Nat.le_of_ble_eq_true rfl)) dX11_places_74 ⟨Nat.le_of_ble_eq_true rfl, Nat.le_of_ble_eq_true rfl⟩) hS (fun z_218 σ_s_217 H locs rz_218 hw_216 hH hS => ?_)
            obtain ⟨e9, hw_216⟩ := hw_216
            replace e9 := e9.symm
            subst e9
            have hw_216 : z_218 = mK f1 v3q203 := hw_216
            refine lv_iconst (v := I 2) hx hb dX11_places_77 (by decide) ?_
            refine lv_icmp_ne (tgt := 93) hx hb dX11_places_78 (by decide) (fun c_219 => ?_) (fun c_219 => ?_)
            · replace c_219 := mt (I_eq (a := z_218) (b := 2) rz_218 (show rng 2 from ⟨by decide, by decide⟩)).mpr c_219
              refine lv_iconst (v := I (-1)) hx hb dX11_places_93 (by decide) ?_
              refine lv_istore (lv' := [(4, .int (I (-1))), (0, .ref a), (2, .int (I 0)), (3, .int (I v3q203))]) hx hb dX11_places_94 hl (by decide) rfl (fun ls hl => ?_)
              refine lv_iload hx hb dX11_places_96 (lv_at hl 0 rfl) ?_
              refine lv_iconst (v := I (-1)) hx hb dX11_places_98 (by decide) ?_
              refine lv_icmp_eq (tgt := 110) hx hb dX11_places_99 (by decide) (fun _ => ?_) (fun c_220 => absurd (by decide) c_220)
              refine lv_iinc (v := I (v3q203 + 1)) (lv' := [(3, .int (I (v3q203 + 1))), (4, .int (I (-1))), (0, .ref a), (2, .int (I 0))]) hx hb dX11_places_110 hl (k := 3) rfl (I_add _ _) (by decide) rfl (fun ls hl => ?_)
              refine lv_goto (tgt := 45) hx hb dX11_places_113 (by decide) ?_
              replace hl : lv_has ls 10 [(3, .int (I (v3q203 + 1))), (0, .ref a), (2, .int (I 0))] := lv_sub hl [0, 2, 3] rfl
              exact ihJ_204 (v3q203 + 1) σ_J_204 _ _ _ (by first | (dsimp only; omega) | omega) ⟨hO, hF, hM, hsr, hH, hS, lv_sub hl [1, 2, 0] rfl, ⟨by first | (dsimp only; omega) | omega, by first | (dsimp only; omega) | omega⟩, by first | (dsimp only; omega) | omega, by first | (dsimp only; omega) | omega, J_204_2, J_204_3, J_204_4, J_204_5⟩
            · replace c_219 := (I_eq (a := z_218) (b := 2) rz_218 (show rng 2 from ⟨by decide, by decide⟩)).mp c_219
              refine lv_aload_n hx hb dX11_places_81 rfl (lv_at hl 0 rfl) ?_
              refine ok.getR hO h_a (by decide) k13_1 (by decide) (fun _ _ he hv kk => th_get (ci := 11) (C := RX11) (T := TX11) (N := 66) hx hb hts inX11 hown hK hH he rfl 1 (by decide) fl2 hv dX11_places_82 kk) ?_
              refine lv_iload_n hx hb dX11_places_85 rfl (lv_at hl 2 rfl) ?_
              refine lv_iload_n hx hb dX11_places_86 rfl (lv_at hl 1 rfl) ?_
              refine th_calli (va_runS (As := [.ref (ad E a 1), .int (I v3q203), .int (I 0)]) (rest := []) ⟨hx, hb, hml, hown, hts⟩ (w_byPlace l G y b0 σ_J_204 E hO (ad E a 1) 240 f1 (hO.roww h_a k13_1 isA1 J_204_5 rfl) v3q203 (show rng v3q203 from rv3q203) (by omega) (by omega) 0 (show rng 0 from (show rng 0 from ⟨by decide, by decide⟩)) (by first | exact hy0 | exact (hy0).sub (by omega) (by omega)) (by omega) (by omega) (by omega)) (va_cwS 3 hts gX11_places_X11_byPlace rfl rfl rfl (by decide +kernel) ⟨Nat.le_of_ble_eq_true rfl, Nat.le_of_ble_eq_true rfl⟩) (th_PS hK hH) rfl rfl hl.1 rfl (lv_room (Nat.le_of_ble_eq_true rfl)) dX11_places_87 ⟨Nat.le_of_ble_eq_true rfl, Nat.le_of_ble_eq_true rfl⟩) hS (fun z_223 σ_s_222 H locs rz_223 hw_221 hH hS => ?_)
              obtain ⟨e9, hw_221⟩ := hw_221
              replace e9 := e9.symm
              subst e9
              have hw_221 : z_223 = -1 ∨ (kid f1 v3q203 z_223 ∧ v3q203 < z_223 ∧ z_223 < v3q203 + mS f1 v3q203) := hw_221
              refine lv_goto (tgt := 94) hx hb dX11_places_90 (by decide) ?_
              refine lv_istore (lv' := [(4, .int (I z_223)), (0, .ref a), (2, .int (I 0)), (3, .int (I v3q203))]) hx hb dX11_places_94 hl (by decide) rfl (fun ls hl => ?_)
              refine lv_iload hx hb dX11_places_96 (lv_at hl 0 rfl) ?_
              refine lv_iconst (v := I (-1)) hx hb dX11_places_98 (by decide) ?_
              refine lv_icmp_eq (tgt := 110) hx hb dX11_places_99 (by decide) (fun c_224 => ?_) (fun c_224 => ?_)
              · replace c_224 := (I_eq (a := z_223) (b := (-1)) rz_223 (show rng (-1) from ⟨by decide, by decide⟩)).mp c_224
                refine lv_iinc (v := I (v3q203 + 1)) (lv' := [(3, .int (I (v3q203 + 1))), (4, .int (I z_223)), (0, .ref a), (2, .int (I 0))]) hx hb dX11_places_110 hl (k := 3) rfl (I_add _ _) (by decide) rfl (fun ls hl => ?_)
                refine lv_goto (tgt := 45) hx hb dX11_places_113 (by decide) ?_
                replace hl : lv_has ls 10 [(3, .int (I (v3q203 + 1))), (0, .ref a), (2, .int (I 0))] := lv_sub hl [0, 2, 3] rfl
                exact ihJ_204 (v3q203 + 1) σ_J_204 _ _ _ (by first | (dsimp only; omega) | omega) ⟨hO, hF, hM, hsr, hH, hS, lv_sub hl [1, 2, 0] rfl, ⟨by first | (dsimp only; omega) | omega, by first | (dsimp only; omega) | omega⟩, by first | (dsimp only; omega) | omega, by first | (dsimp only; omega) | omega, J_204_2, J_204_3, J_204_4, J_204_5⟩
              · replace c_224 := mt (I_eq (a := z_223) (b := (-1)) rz_223 (show rng (-1) from ⟨by decide, by decide⟩)).mpr c_224
                refine lv_aload_n hx hb dX11_places_102 rfl (lv_at hl 1 rfl) ?_
                refine ok.getR hO h_a (by decide) k13_24 (by decide) (fun _ _ he hv kk => th_get (ci := 11) (C := RX11) (T := TX11) (N := 66) hx hb hts inX11 hown hK hH he rfl 24 (by decide) fl3 hv dX11_places_103 kk) ?_
                refine lv_iload hx hb dX11_places_106 (lv_at hl 0 rfl) ?_
                refine lv_iconst (v := I 1) hx hb dX11_places_108 (by decide) ?_
                refine m_zast hx hb hK hH hS h00 hO h_a k13_24 (by decide) rz_223 (by omega) (by omega) (by omega) dX11_places_109 (fun σ_s_225 H locs hO hF9 hM9 hH hS => ?_)
                replace hM := hM.tu hM9 (by decide)
                replace hF := hF.tu hF9 (by decide)
                have e_226 : gI σ_s_225 a 11 = a110 := (hM9.i (by decide)).trans J_204_2
                have e_227 : gI σ_s_225 a 13 = z_172 := (hM9.i (by decide)).trans J_204_3
                have e_228 : gI σ_s_225 a 17 = z_174 := (hM9.i (by decide)).trans J_204_4
                have e_229 : aF σ_s_225 (ad E a 1) = f1 := (hM9.a (by decide) (by decide)).trans J_204_5
                have e_230 : gI σ_s_225 a 25 = z_210 := (hM9.i (by decide)).trans e_211
                replace hsr := hsr.mv hM9 (by decide) (by decide) (by decide) (by decide) (by decide)
                refine lv_iinc (v := I (v3q203 + 1)) (lv' := [(3, .int (I (v3q203 + 1))), (4, .int (I z_223)), (0, .ref a), (2, .int (I 0))]) hx hb dX11_places_110 hl (k := 3) rfl (I_add _ _) (by decide) rfl (fun ls hl => ?_)
                refine lv_goto (tgt := 45) hx hb dX11_places_113 (by decide) ?_
                replace hl : lv_has ls 10 [(3, .int (I (v3q203 + 1))), (0, .ref a), (2, .int (I 0))] := lv_sub hl [0, 2, 3] rfl
                exact ihJ_204 (v3q203 + 1) σ_s_225 _ _ _ (by first | (dsimp only; omega) | omega) ⟨hO, hF, hM, hsr, hH, hS, lv_sub hl [1, 2, 0] rfl, ⟨by first | (dsimp only; omega) | omega, by first | (dsimp only; omega) | omega⟩, by first | (dsimp only; omega) | omega, by first | (dsimp only; omega) | omega, e_226, e_227, e_228, e_229⟩
  · replace c_5 := (I_eq (a := z_4) (b := 0) rz_4 (show rng 0 from ⟨by decide, by decide⟩)).mp c_5
    clear hw_2
    refine lv_iconst (v := I 1) hx hb dX11_places_9 (by decide) ?_
    refine lv_goto (tgt := 14) hx hb dX11_places_10 (by decide) ?_
    refine lv_istore_n (lv' := [(1, .int (I 1)), (0, .ref a)]) hx hb dX11_places_14 rfl hl (by decide) rfl (fun ls hl => ?_)
    refine lv_iload_n hx hb dX11_places_15 rfl (lv_at hl 0 rfl) ?_
    refine lv_if_eq (tgt := 26) hx hb dX11_places_16 (by decide) (fun c_231 => absurd c_231 (by decide)) (fun _ => ?_)
    refine lv_aload_n hx hb dX11_places_19 rfl (lv_at hl 1 rfl) ?_
    obtain ⟨_, hc_232⟩ := hO.cell h_a (by decide) (ci := 11) rfl
    refine th_calli (va_runV (As := []) (rest := []) ⟨hx, hb, hml, hown, hts⟩ (m_readNumber l G y b0 σ E hO a h_a Bf hsr (by omega)) (cwV 0 hts gX11_places_X11_readNumber rfl rfl rfl (by decide +kernel) ⟨Nat.le_of_ble_eq_true rfl, Nat.le_of_ble_eq_true rfl⟩) (th_PV hK hH rfl hc_232) rfl rfl hl.1 rfl (lv_room (Nat.le_of_ble_eq_true rfl)) dX11_places_20 ⟨Nat.le_of_ble_eq_true rfl, Nat.le_of_ble_eq_true rfl⟩) hS (fun z_235 σ_s_234 H locs rz_235 hw_233 hH hS => ?_)
    obtain ⟨hO9, hF9, hM9, hw_233⟩ := hw_233
    replace hM := hM.tu hM9 (by decide)
    replace hF := hF.tu hF9 (by decide)
    have e_236 : aF σ_s_234 (ad E a 1) = f1 := (hM9.a (by decide) (by decide)).trans ef1
    have e_237 : gI σ_s_234 a 11 = a110 := (hM9.i (by decide)).trans ea110
    replace hsr := hsr.mv hM9 (by decide) (by decide) (by decide) (by decide) (by decide)
    replace hO := hO9
    have hw_233 : (gI σ a 13 ≤ gI σ_s_234 a 13 ∧ gI σ_s_234 a 13 ≤ gI σ a 11 ∧ 0 ≤ gI σ_s_234 a 17 ∧ gI σ_s_234 a 17 ≤ gI σ_s_234 a 13) ∧ pgo (gI σ_s_234 a 19) (gI σ_s_234 a 14) (gI σ a 13) (gI σ_s_234 a 13) ∧ bdo (gI σ a 19) (gI σ_s_234 a 19) := hw_233
    refine lv_goto (tgt := 27) hx hb dX11_places_23 (by decide) ?_
    refine lv_istore_n (lv' := [(2, .int (I z_235)), (1, .int (I 1)), (0, .ref a)]) hx hb dX11_places_27 rfl hl (by decide) rfl (fun ls hl => ?_)
    refine lv_aload_n hx hb dX11_places_28 rfl (lv_at hl 2 rfl) ?_
    refine lv_bipush (v := I 58) hx hb dX11_places_29 (by decide) ?_
    obtain ⟨_, hc_238⟩ := hO.cell h_a (by decide) (ci := 11) rfl
    refine th_calli (va_runV (As := [.int (I 58)]) (rest := []) ⟨hx, hb, hml, hown, hts⟩ (m_isMarked l G y b0 σ_s_234 E hO a h_a 58 (show rng 58 from (show rng 58 from ⟨by decide, by decide⟩)) Bf hsr (by omega)) (cwV 1 hts gX11_places_X11_isMarked rfl rfl rfl (by decide +kernel) ⟨Nat.le_of_ble_eq_true rfl, Nat.le_of_ble_eq_true rfl⟩) (th_PV hK hH rfl hc_238) rfl rfl hl.1 rfl (lv_room (Nat.le_of_ble_eq_true rfl)) dX11_places_31 ⟨Nat.le_of_ble_eq_true rfl, Nat.le_of_ble_eq_true rfl⟩) hS (fun z_241 σ_s_240 H locs rz_241 hw_239 hH hS => ?_)
    obtain ⟨e9, bhw_239, hw_239⟩ := hw_239
    replace e9 := e9.symm
    subst e9
    have hw_239 : z_241 = 0 ∨ (z_241 = 1 ∧ gI σ_s_234 a 19 = 0 ∧ gI σ_s_234 a 14 = 3 ∧ Bf (gI σ_s_234 a 17) = 58) := hw_239
    refine lv_if_ne (tgt := 117) hx hb dX11_places_34 (by decide) (fun c_242 => ?_) (fun c_242 => ?_)
    · replace c_242 := mt (I_eq (a := z_241) (b := 0) rz_241 (show rng 0 from ⟨by decide, by decide⟩)).mpr c_242
      replace hw_239 := (hw_239.resolve_left c_242).2
      refine lv_aload_n hx hb dX11_places_117 rfl (lv_at hl 2 rfl) ?_
      obtain ⟨_, hc_243⟩ := hO.cell h_a (by decide) (ci := 11) rfl
      refine th_callv (va_runV (As := []) (rest := []) ⟨hx, hb, hml, hown, hts⟩ (m_pass l G y b0 σ_s_234 E hO a h_a Bf hsr (by omega)) (cwV 0 hts gX11_places_X11_pass rfl rfl rfl (by decide +kernel) ⟨Nat.le_of_ble_eq_true rfl, Nat.le_of_ble_eq_true rfl⟩) (th_PV hK hH rfl hc_243) rfl rfl hl.1 rfl (lv_room (Nat.le_of_ble_eq_true rfl)) dX11_places_118 ⟨Nat.le_of_ble_eq_true rfl, Nat.le_of_ble_eq_true rfl⟩) hS (fun σ_s_245 H locs hw_244 hH hS => ?_)
      obtain ⟨hO9, hF9, hM9, hw_244⟩ := hw_244
      replace hM := hM.tu hM9 (by decide)
      replace hF := hF.tu hF9 (by decide)
      have e_246 : aF σ_s_245 (ad E a 1) = f1 := (hM9.a (by decide) (by decide)).trans e_236
      have e_247 : gI σ_s_245 a 11 = a110 := (hM9.i (by decide)).trans e_237
      replace hsr := hsr.mv hM9 (by decide) (by decide) (by decide) (by decide) (by decide)
      replace hO := hO9
      have hw_244 : (gI σ_s_234 a 13 ≤ gI σ_s_245 a 13 ∧ gI σ_s_245 a 13 ≤ gI σ_s_234 a 11 ∧ 0 ≤ gI σ_s_245 a 17 ∧ gI σ_s_245 a 17 ≤ gI σ_s_245 a 13) ∧ pgo (gI σ_s_245 a 19) (gI σ_s_245 a 14) (gI σ_s_234 a 13) (gI σ_s_245 a 13) ∧ gI σ_s_245 a 19 = gI σ_s_234 a 19 := hw_244
      refine lv_aload_n hx hb dX11_places_121 rfl (lv_at hl 2 rfl) ?_
      refine lv_bipush (v := I 93) hx hb dX11_places_122 (by decide) ?_
      obtain ⟨_, hc_248⟩ := hO.cell h_a (by decide) (ci := 11) rfl
      refine th_calli (va_runV (As := [.int (I 93)]) (rest := []) ⟨hx, hb, hml, hown, hts⟩ (m_isMarked l G y b0 σ_s_245 E hO a h_a 93 (show rng 93 from (show rng 93 from ⟨by decide, by decide⟩)) Bf hsr (by omega)) (cwV 1 hts gX11_places_X11_isMarked rfl rfl rfl (by decide +kernel) ⟨Nat.le_of_ble_eq_true rfl, Nat.le_of_ble_eq_true rfl⟩) (th_PV hK hH rfl hc_248) rfl rfl hl.1 rfl (lv_room (Nat.le_of_ble_eq_true rfl)) dX11_places_124 ⟨Nat.le_of_ble_eq_true rfl, Nat.le_of_ble_eq_true rfl⟩) hS (fun z_251 σ_s_250 H locs rz_251 hw_249 hH hS => ?_)
      obtain ⟨e9, bhw_249, hw_249⟩ := hw_249
      replace e9 := e9.symm
      subst e9
      have hw_249 : z_251 = 0 ∨ (z_251 = 1 ∧ gI σ_s_245 a 19 = 0 ∧ gI σ_s_245 a 14 = 3 ∧ Bf (gI σ_s_245 a 17) = 93) := hw_249
      refine lv_if_ne (tgt := 134) hx hb dX11_places_127 (by decide) (fun c_252 => ?_) (fun c_252 => ?_)
      · replace c_252 := mt (I_eq (a := z_251) (b := 0) rz_251 (show rng 0 from ⟨by decide, by decide⟩)).mpr c_252
        replace hw_249 := (hw_249.resolve_left c_252).2
        refine lv_iconst (v := I 0) hx hb dX11_places_134 (by decide) ?_
        refine lv_istore_n (lv' := [(3, .int (I 0)), (2, .int (I z_235)), (1, .int (I 1)), (0, .ref a)]) hx hb dX11_places_135 rfl hl (by decide) rfl (fun ls hl => ?_)
        refine lv_iload_n hx hb dX11_places_136 rfl (lv_at hl 0 rfl) ?_
        refine lv_if_eq (tgt := 147) hx hb dX11_places_137 (by decide) (fun _ => ?_) (fun c_253 => absurd (by decide) c_253)
        refine lv_iconst (v := I 0) hx hb dX11_places_147 (by decide) ?_
        refine lv_istore (lv' := [(4, .int (I 0)), (3, .int (I 0)), (2, .int (I z_235)), (1, .int (I 1)), (0, .ref a)]) hx hb dX11_places_148 hl (by decide) rfl (fun ls hl => ?_)
        refine lv_aload_n hx hb dX11_places_150 rfl (lv_at hl 4 rfl) ?_
        refine lv_bipush (v := I 93) hx hb dX11_places_151 (by decide) ?_
        obtain ⟨_, hc_254⟩ := hO.cell h_a (by decide) (ci := 11) rfl
        refine th_callv (va_runV (As := [.int (I 93)]) (rest := []) ⟨hx, hb, hml, hown, hts⟩ (m_need l G y b0 σ_s_245 E hO a h_a 93 (show rng 93 from (show rng 93 from ⟨by decide, by decide⟩)) Bf hsr (by omega)) (cwV 1 hts gX11_places_X11_need rfl rfl rfl (by decide +kernel) ⟨Nat.le_of_ble_eq_true rfl, Nat.le_of_ble_eq_true rfl⟩) (th_PV hK hH rfl hc_254) rfl rfl hl.1 rfl (lv_room (Nat.le_of_ble_eq_true rfl)) dX11_places_153 ⟨Nat.le_of_ble_eq_true rfl, Nat.le_of_ble_eq_true rfl⟩) hS (fun σ_s_256 H locs hw_255 hH hS => ?_)
        obtain ⟨hO9, hF9, hM9, hw_255⟩ := hw_255
        replace hM := hM.tu hM9 (by decide)
        replace hF := hF.tu hF9 (by decide)
        have e_257 : aF σ_s_256 (ad E a 1) = f1 := (hM9.a (by decide) (by decide)).trans e_246
        have e_258 : gI σ_s_256 a 11 = a110 := (hM9.i (by decide)).trans e_247
        replace hsr := hsr.mv hM9 (by decide) (by decide) (by decide) (by decide) (by decide)
        replace hO := hO9
        have hw_255 : (gI σ_s_245 a 13 ≤ gI σ_s_256 a 13 ∧ gI σ_s_256 a 13 ≤ gI σ_s_245 a 11 ∧ 0 ≤ gI σ_s_256 a 17 ∧ gI σ_s_256 a 17 ≤ gI σ_s_256 a 13) ∧ pgo (gI σ_s_256 a 19) (gI σ_s_256 a 14) (gI σ_s_245 a 13) (gI σ_s_256 a 13) ∧ bdo (gI σ_s_245 a 19) (gI σ_s_256 a 19) := hw_255
        obtain ⟨z_259, e_260, rz_259, lz_259, uz_259⟩ := hO.gi h_a (by decide) k13_13
        obtain ⟨z_261, e_262, rz_261, lz_261, uz_261⟩ := hO.gi h_a (by decide) k13_17
        refine lv_iconst (v := I 0) hx hb dX11_places_156 (by decide) ?_
        refine lv_istore (lv' := [(5, .int (I 0)), (4, .int (I 0)), (3, .int (I 0)), (2, .int (I z_235)), (1, .int (I 1)), (0, .ref a)]) hx hb dX11_places_157 hl (by decide) rfl (fun ls hl => ?_)
        replace hl : lv_has ls 10 [(5, .int (I 0)), (4, .int (I 0)), (3, .int (I 0)), (2, .int (I z_235)), (0, .ref a)] := lv_sub hl [0, 1, 2, 3, 5] rfl
        refine th_loop (α := Int) (pc := 159) (fun x9 => (mS f1 0 - x9).toNat) (fun x9 σ9 H9 l9 ls9 => ok y E σ9 ∧ fr [13] E σ σ9 ∧ fm [13, 14, 15, 16, 17, 18, 19, 20, 24] E σ σ9 a ∧ sr E σ9 a Bf ∧ th_H G b0 σ9 H9 ∧ va_S (th_A b0) s.heap H9 l9 ∧ lv_has ls9 10 [(0, .ref a), (2, .int (I z_235)), (3, .int (I 0)), (4, .int (I 0)), (5, .int (I x9))] ∧ rng x9 ∧ (0 ≤ x9) ∧ (x9 ≤ 60) ∧ (gI σ9 a 11 = a110) ∧ (gI σ9 a 13 = z_259) ∧ (gI σ9 a 17 = z_261) ∧ (aF σ9 (ad E a 1) = f1)) ?_ (0) σ_s_256 _ _ _ ⟨hO, hF, hM, hsr, hH, hS, lv_sub hl [4, 3, 2, 1, 0] rfl, (show rng 0 from ⟨by decide, by decide⟩), by first | (dsimp only; omega) | omega, by first | (dsimp only; omega) | omega, e_258, e_260, e_262, e_257⟩
        intro x9 σ_J_264 H locs ls hI9 ihJ_264
        obtain ⟨v5q263, ex9⟩ : ∃ z, z = x9 := ⟨_, rfl⟩
        subst ex9
        obtain ⟨hO, hF, hM, hsr, hH, hS, hl, rv5q263, J_264_0, J_264_1, J_264_2, J_264_3, J_264_4, J_264_5⟩ := hI9
        have hl : lv_has ls 10 [(0, .ref a), (2, .int (I z_235)), (3, .int (I 0)), (4, .int (I 0)), (5, .int (I v5q263))] := hl
        have rv5q263 : rng v5q263 := rv5q263
        have J_264_0 : 0 ≤ v5q263 := J_264_0
        have J_264_1 : v5q263 ≤ 60 := J_264_1
        have J_264_2 : gI σ_J_264 a 11 = a110 := J_264_2
        have J_264_3 : gI σ_J_264 a 13 = z_259 := J_264_3
        have J_264_4 : gI σ_J_264 a 17 = z_261 := J_264_4
        have J_264_5 : aF σ_J_264 (ad E a 1) = f1 := J_264_5
        refine lv_iload hx hb dX11_places_159 (lv_at hl 4 rfl) ?_
        refine lv_aload_n hx hb dX11_places_161 rfl (lv_at hl 0 rfl) ?_
        obtain ⟨_, hc_265⟩ := hO.cell h_a (by decide) (ci := 11) rfl
        refine th_calli (va_runV (As := []) (rest := [.int (I v5q263)]) ⟨hx, hb, hml, hown, hts⟩ (m_things l G y b0 σ_J_264 E hO a h_a f1 J_264_5) (cwV 0 hts gX11_places_X11_things rfl rfl rfl (by decide +kernel) ⟨Nat.le_of_ble_eq_true rfl, Nat.le_of_ble_eq_true rfl⟩) (th_PV hK hH rfl hc_265) rfl rfl hl.1 rfl (lv_room (Nat.le_of_ble_eq_true rfl)) dX11_places_162 ⟨Nat.le_of_ble_eq_true rfl, Nat.le_of_ble_eq_true rfl⟩) hS (fun z_268 σ_s_267 H locs rz_268 hw_266 hH hS => ?_)
        obtain ⟨e9, hw_266⟩ := hw_266
        replace e9 := e9.symm
        subst e9
        have hw_266 : z_268 = mS f1 0 := hw_266
        refine lv_icmp_ge (tgt := 278) hx hb dX11_places_165 (by decide) (fun c_269 => ?_) (fun c_269 => ?_)
        · replace c_269 := (I_le (a := z_268) (b := v5q263) rz_268 rv5q263).mp c_269
          exact th_vret hx hb hr hlocks hH hS ⟨hO, hF, hM, by omega⟩ dX11_places_278
        · replace c_269 := mt (I_le (a := z_268) (b := v5q263) rz_268 rv5q263).mpr c_269
          refine lv_aload_n hx hb dX11_places_168 rfl (lv_at hl 0 rfl) ?_
          refine ok.getI hO h_a (by decide) k13_25 (fun _ _ he hv kk => th_get (ci := 11) (C := RX11) (T := TX11) (N := 66) hx hb hts inX11 hown hK hH he rfl 25 (by decide) fl0 hv dX11_places_169 kk) (fun z_270 e_271 rz_270 lz_270 uz_270 => ?_)
          refine lv_if_eq (tgt := 278) hx hb dX11_places_172 (by decide) (fun c_272 => ?_) (fun c_272 => ?_)
          · replace c_272 := (I_eq (a := z_270) (b := 0) rz_270 (show rng 0 from ⟨by decide, by decide⟩)).mp c_272
            exact th_vret hx hb hr hlocks hH hS ⟨hO, hF, hM, by omega⟩ dX11_places_278
          · replace c_272 := mt (I_eq (a := z_270) (b := 0) rz_270 (show rng 0 from ⟨by decide, by decide⟩)).mpr c_272
            refine lv_aload_n hx hb dX11_places_175 rfl (lv_at hl 0 rfl) ?_
            refine ok.getR hO h_a (by decide) k13_23 (by decide) (fun _ _ he hv kk => th_get (ci := 11) (C := RX11) (T := TX11) (N := 66) hx hb hts inX11 hown hK hH he rfl 23 (by decide) fl1 hv dX11_places_176 kk) ?_
            refine lv_iload hx hb dX11_places_179 (lv_at hl 4 rfl) ?_
            refine m_zald hx hb hK hH hO h_a k13_23 rv5q263 (by omega) (by omega) dX11_places_181 (fun z_273 rz_273 uz_273 => ?_)
            refine lv_if_eq (tgt := 272) hx hb dX11_places_182 (by decide) (fun c_274 => ?_) (fun c_274 => ?_)
            · replace c_274 := (I_eq (a := z_273) (b := 0) rz_273 (show rng 0 from ⟨by decide, by decide⟩)).mp c_274
              refine lv_iinc (v := I (v5q263 + 1)) (lv' := [(5, .int (I (v5q263 + 1))), (0, .ref a), (2, .int (I z_235)), (3, .int (I 0)), (4, .int (I 0))]) hx hb dX11_places_272 hl (k := 4) rfl (I_add _ _) (by decide) rfl (fun ls hl => ?_)
              refine lv_goto (tgt := 159) hx hb dX11_places_275 (by decide) ?_
              exact ihJ_264 (v5q263 + 1) σ_J_264 _ _ _ (by first | (dsimp only; omega) | omega) ⟨hO, hF, hM, hsr, hH, hS, lv_sub hl [1, 2, 3, 4, 0] rfl, ⟨by first | (dsimp only; omega) | omega, by first | (dsimp only; omega) | omega⟩, by first | (dsimp only; omega) | omega, by first | (dsimp only; omega) | omega, J_264_2, J_264_3, J_264_4, J_264_5⟩
            · replace c_274 := mt (I_eq (a := z_273) (b := 0) rz_273 (show rng 0 from ⟨by decide, by decide⟩)).mpr c_274
              have hk5 := hy0 v5q263 (by omega) (by omega)
              refine lv_aload_n hx hb dX11_places_185 rfl (lv_at hl 0 rfl) ?_
              refine ok.getR hO h_a (by decide) k13_1 (by decide) (fun _ _ he hv kk => th_get (ci := 11) (C := RX11) (T := TX11) (N := 66) hx hb hts inX11 hown hK hH he rfl 1 (by decide) fl2 hv dX11_places_186 kk) ?_
              refine lv_iload hx hb dX11_places_189 (lv_at hl 4 rfl) ?_
              refine th_calli (va_runS (As := [.ref (ad E a 1), .int (I v5q263)]) (rest := []) ⟨hx, hb, hml, hown, hts⟩ (w_kind l G y b0 σ_J_264 E hO (ad E a 1) 240 f1 (hO.roww h_a k13_1 isA1 J_264_5 rfl) v5q263 (show rng v5q263 from rv5q263) (by omega) (by omega) (by omega)) (va_cwS 2 hts gX11_places_X11_kind rfl rfl rfl (by decide +kernel) ⟨Nat.le_of_ble_eq_true rfl, Nat.le_of_ble_eq_true rfl⟩) (th_PS hK hH) rfl rfl hl.1 rfl (lv_room (Nat.le_of_ble_eq_true rfl)) dX11_places_191 ⟨Nat.le_of_ble_eq_true rfl, Nat.le_of_ble_eq_true rfl⟩) hS (fun z_277 σ_s_276 H locs rz_277 hw_275 hH hS => ?_)
              obtain ⟨e9, hw_275⟩ := hw_275
              replace e9 := e9.symm
              subst e9
              have hw_275 : z_277 = mK f1 v5q263 := hw_275
              refine lv_iconst (v := I 2) hx hb dX11_places_194 (by decide) ?_
              refine lv_icmp_eq (tgt := 201) hx hb dX11_places_195 (by decide) (fun c_278 => ?_) (fun c_278 => ?_)
              · replace c_278 := (I_eq (a := z_277) (b := 2) rz_277 (show rng 2 from ⟨by decide, by decide⟩)).mp c_278
                refine lv_aload_n hx hb dX11_places_201 rfl (lv_at hl 0 rfl) ?_
                refine ok.getR hO h_a (by decide) k13_1 (by decide) (fun _ _ he hv kk => th_get (ci := 11) (C := RX11) (T := TX11) (N := 66) hx hb hts inX11 hown hK hH he rfl 1 (by decide) fl2 hv dX11_places_202 kk) ?_
                refine lv_iload hx hb dX11_places_205 (lv_at hl 4 rfl) ?_
                refine th_calli (va_runS (As := [.ref (ad E a 1), .int (I v5q263)]) (rest := []) ⟨hx, hb, hml, hown, hts⟩ (w_many l G y b0 σ_J_264 E hO (ad E a 1) 240 f1 (hO.roww h_a k13_1 isA1 J_264_5 rfl) v5q263 (show rng v5q263 from rv5q263) (by omega) (by omega) (by first | exact hy0 | exact (hy0).sub (by omega) (by omega)) (by omega) (by omega) (by omega)) (va_cwS 2 hts gX11_places_X11_many rfl rfl rfl (by decide +kernel) ⟨Nat.le_of_ble_eq_true rfl, Nat.le_of_ble_eq_true rfl⟩) (th_PS hK hH) rfl rfl hl.1 rfl (lv_room (Nat.le_of_ble_eq_true rfl)) dX11_places_207 ⟨Nat.le_of_ble_eq_true rfl, Nat.le_of_ble_eq_true rfl⟩) hS (fun z_281 σ_s_280 H locs rz_281 hw_279 hH hS => ?_)
                obtain ⟨e9, hw_279⟩ := hw_279
                replace e9 := e9.symm
                subst e9
                have hw_279 : chn f1 (v5q263 + 1) z_281 (v5q263 + mS f1 v5q263) ∧ 0 ≤ z_281 ∧ z_281 < mS f1 v5q263 := hw_279
                refine lv_istore (lv' := [(6, .int (I z_281)), (0, .ref a), (2, .int (I z_235)), (3, .int (I 0)), (4, .int (I 0)), (5, .int (I v5q263))]) hx hb dX11_places_210 hl (by decide) rfl (fun ls hl => ?_)
                refine lv_iload_n hx hb dX11_places_212 rfl (lv_at hl 2 rfl) ?_
                refine lv_iload hx hb dX11_places_213 (lv_at hl 0 rfl) ?_
                refine th_calli (va_runS (As := [.int (I z_235), .int (I z_281)]) (rest := []) ⟨hx, hb, hml, hown, hts⟩ (w_held l G y b0 σ_J_264 E hO z_235 (show rng z_235 from rz_235) z_281 (show rng z_281 from rz_281) (by omega) (by omega)) (va_cwS 2 hts gX11_places_X11_held rfl rfl rfl (by decide +kernel) ⟨Nat.le_of_ble_eq_true rfl, Nat.le_of_ble_eq_true rfl⟩) (th_PS hK hH) rfl rfl hl.1 rfl (lv_room (Nat.le_of_ble_eq_true rfl)) dX11_places_215 ⟨Nat.le_of_ble_eq_true rfl, Nat.le_of_ble_eq_true rfl⟩) hS (fun z_284 σ_s_283 H locs rz_284 hw_282 hH hS => ?_)
                obtain ⟨e9, hw_282⟩ := hw_282
                replace e9 := e9.symm
                subst e9
                have hw_282 : 0 ≤ z_284 ∧ z_284 ≤ z_281 := hw_282
                refine lv_istore (lv' := [(7, .int (I z_284)), (6, .int (I z_281)), (0, .ref a), (2, .int (I z_235)), (3, .int (I 0)), (4, .int (I 0)), (5, .int (I v5q263))]) hx hb dX11_places_218 hl (by decide) rfl (fun ls hl => ?_)
                refine lv_iload_n hx hb dX11_places_220 rfl (lv_at hl 4 rfl) ?_
                refine lv_if_eq (tgt := 234) hx hb dX11_places_221 (by decide) (fun _ => ?_) (fun c_285 => absurd (by decide) c_285)
                refine lv_iload hx hb dX11_places_234 (lv_at hl 1 rfl) ?_
                refine lv_istore (lv' := [(8, .int (I z_281)), (7, .int (I z_284)), (6, .int (I z_281)), (0, .ref a), (2, .int (I z_235)), (3, .int (I 0)), (4, .int (I 0)), (5, .int (I v5q263))]) hx hb dX11_places_236 hl (by decide) rfl (fun ls hl => ?_)
                refine lv_iload hx hb dX11_places_238 (lv_at hl 1 rfl) ?_
                refine lv_istore (lv' := [(9, .int (I z_284)), (8, .int (I z_281)), (7, .int (I z_284)), (6, .int (I z_281)), (0, .ref a), (2, .int (I z_235)), (3, .int (I 0)), (4, .int (I 0)), (5, .int (I v5q263))]) hx hb dX11_places_240 hl (by decide) rfl (fun ls hl => ?_)
                replace hl : lv_has ls 10 [(9, .int (I z_284)), (8, .int (I z_281)), (0, .ref a), (2, .int (I z_235)), (3, .int (I 0)), (4, .int (I 0)), (5, .int (I v5q263))] := lv_sub hl [0, 1, 4, 5, 6, 7, 8] rfl
                refine th_loop (α := Int) (pc := 242) (fun x9 => (z_281 - x9).toNat) (fun x9 σ9 H9 l9 ls9 => ok y E σ9 ∧ fr [13] E σ σ9 ∧ fm [13, 14, 15, 16, 17, 18, 19, 20, 24] E σ σ9 a ∧ sr E σ9 a Bf ∧ th_H G b0 σ9 H9 ∧ va_S (th_A b0) s.heap H9 l9 ∧ lv_has ls9 10 [(0, .ref a), (2, .int (I z_235)), (3, .int (I 0)), (4, .int (I 0)), (5, .int (I v5q263)), (8, .int (I z_281)), (9, .int (I x9))] ∧ rng x9 ∧ (0 ≤ x9) ∧ (x9 ≤ 60) ∧ (z_281 ≤ 60) ∧ (gI σ9 a 11 = a110) ∧ (gI σ9 a 13 = z_259) ∧ (gI σ9 a 17 = z_261) ∧ (gI σ9 a 25 = z_270) ∧ (aF σ9 (ad E a 1) = f1)) ?_ (z_284) σ_J_264 _ _ _ ⟨hO, hF, hM, hsr, hH, hS, lv_sub hl [2, 3, 4, 5, 6, 1, 0] rfl, rz_284, by first | (dsimp only; omega) | omega, by first | (dsimp only; omega) | omega, by first | (dsimp only; omega) | omega, J_264_2, J_264_3, J_264_4, e_271, J_264_5⟩
                intro x9 σ_J_287 H locs ls hI9 ihJ_287
                obtain ⟨v9q286, ex9⟩ : ∃ z, z = x9 := ⟨_, rfl⟩
                subst ex9
                obtain ⟨hO, hF, hM, hsr, hH, hS, hl, rv9q286, J_287_0, J_287_1, J_287_2, J_287_3, J_287_4, J_287_5, J_287_6, J_287_7⟩ := hI9
                have hl : lv_has ls 10 [(0, .ref a), (2, .int (I z_235)), (3, .int (I 0)), (4, .int (I 0)), (5, .int (I v5q263)), (8, .int (I z_281)), (9, .int (I v9q286))] := hl
                have rv9q286 : rng v9q286 := rv9q286
                have J_287_0 : 0 ≤ v9q286 := J_287_0
                have J_287_1 : v9q286 ≤ 60 := J_287_1
                have J_287_2 : z_281 ≤ 60 := J_287_2
                have J_287_3 : gI σ_J_287 a 11 = a110 := J_287_3
                have J_287_4 : gI σ_J_287 a 13 = z_259 := J_287_4
                have J_287_5 : gI σ_J_287 a 17 = z_261 := J_287_5
                have J_287_6 : gI σ_J_287 a 25 = z_270 := J_287_6
                have J_287_7 : aF σ_J_287 (ad E a 1) = f1 := J_287_7
                refine lv_iload hx hb dX11_places_242 (lv_at hl 6 rfl) ?_
                refine lv_iload hx hb dX11_places_244 (lv_at hl 5 rfl) ?_
                refine lv_icmp_ge (tgt := 272) hx hb dX11_places_246 (by decide) (fun c_288 => ?_) (fun c_288 => ?_)
                · replace c_288 := (I_le (a := z_281) (b := v9q286) rz_281 rv9q286).mp c_288
                  refine lv_iinc (v := I (v5q263 + 1)) (lv' := [(5, .int (I (v5q263 + 1))), (0, .ref a), (2, .int (I z_235)), (3, .int (I 0)), (4, .int (I 0)), (8, .int (I z_281)), (9, .int (I v9q286))]) hx hb dX11_places_272 hl (k := 4) rfl (I_add _ _) (by decide) rfl (fun ls hl => ?_)
                  refine lv_goto (tgt := 159) hx hb dX11_places_275 (by decide) ?_
                  replace hl : lv_has ls 10 [(5, .int (I (v5q263 + 1))), (0, .ref a), (2, .int (I z_235)), (3, .int (I 0)), (4, .int (I 0))] := lv_sub hl [0, 1, 2, 3, 4] rfl
                  exact ihJ_264 (v5q263 + 1) σ_J_287 _ _ _ (by first | (dsimp only; omega) | omega) ⟨hO, hF, hM, hsr, hH, hS, lv_sub hl [1, 2, 3, 4, 0] rfl, ⟨by first | (dsimp only; omega) | omega, by first | (dsimp only; omega) | omega⟩, by first | (dsimp only; omega) | omega, by first | (dsimp only; omega) | omega, J_287_3, J_287_4, J_287_5, J_287_7⟩
                · replace c_288 := mt (I_le (a := z_281) (b := v9q286) rz_281 rv9q286).mpr c_288
                  refine lv_aload_n hx hb dX11_places_249 rfl (lv_at hl 0 rfl) ?_
                  refine ok.getR hO h_a (by decide) k13_24 (by decide) (fun _ _ he hv kk => th_get (ci := 11) (C := RX11) (T := TX11) (N := 66) hx hb hts inX11 hown hK hH he rfl 24 (by decide) fl3 hv dX11_places_250 kk) ?_
                  refine lv_aload_n hx hb dX11_places_253 rfl (lv_at hl 0 rfl) ?_
                  refine ok.getR hO h_a (by decide) k13_1 (by decide) (fun _ _ he hv kk => th_get (ci := 11) (C := RX11) (T := TX11) (N := 66) hx hb hts inX11 hown hK hH he rfl 1 (by decide) fl2 hv dX11_places_254 kk) ?_
                  refine lv_iload hx hb dX11_places_257 (lv_at hl 4 rfl) ?_
                  refine lv_iload hx hb dX11_places_259 (lv_at hl 6 rfl) ?_
                  refine th_calli (va_runS (As := [.ref (ad E a 1), .int (I v5q263), .int (I v9q286)]) (rest := [.ref (ad E a 24)]) ⟨hx, hb, hml, hown, hts⟩ (w_nth l G y b0 σ_J_287 E hO (ad E a 1) 240 f1 (hO.roww h_a k13_1 isA1 J_287_7 rfl) v5q263 (show rng v5q263 from rv5q263) (by omega) (by omega) v9q286 (show rng v9q286 from rv9q286) (by first | exact hy0 | exact (hy0).sub (by omega) (by omega)) (by omega) (by omega) (by omega) (jin.mk1 (by omega) hw_279.1 (by omega))) (va_cwS 3 hts gX11_places_X11_nth rfl rfl rfl (by decide +kernel) ⟨Nat.le_of_ble_eq_true rfl, Nat.le_of_ble_eq_true rfl⟩) (th_PS hK hH) rfl rfl hl.1 rfl (lv_room (Nat.le_of_ble_eq_true rfl)) dX11_places_261 ⟨Nat.le_of_ble_eq_true rfl, Nat.le_of_ble_eq_true rfl⟩) hS (fun z_291 σ_s_290 H locs rz_291 hw_289 hH hS => ?_)
                  obtain ⟨e9, hw_289⟩ := hw_289
                  replace e9 := e9.symm
                  subst e9
                  have hw_289 : chn f1 (v5q263 + 1) v9q286 z_291 ∧ kid f1 v5q263 z_291 := hw_289
                  have hq9 := hw_289.2.1
                  have hq8 := hw_289.2.2.1
                  refine lv_iconst (v := I 1) hx hb dX11_places_264 (by decide) ?_
                  refine m_zast hx hb hK hH hS h00 hO h_a k13_24 (by decide) rz_291 (by omega) (by omega) (by omega) dX11_places_265 (fun σ_s_292 H locs hO hF9 hM9 hH hS => ?_)
                  replace hM := hM.tu hM9 (by decide)
                  replace hF := hF.tu hF9 (by decide)
                  have e_293 : gI σ_s_292 a 11 = a110 := (hM9.i (by decide)).trans J_287_3
                  have e_294 : gI σ_s_292 a 13 = z_259 := (hM9.i (by decide)).trans J_287_4
                  have e_295 : gI σ_s_292 a 17 = z_261 := (hM9.i (by decide)).trans J_287_5
                  have e_296 : gI σ_s_292 a 25 = z_270 := (hM9.i (by decide)).trans J_287_6
                  have e_297 : aF σ_s_292 (ad E a 1) = f1 := (hM9.a (by decide) (by decide)).trans J_287_7
                  replace hsr := hsr.mv hM9 (by decide) (by decide) (by decide) (by decide) (by decide)
                  refine lv_iinc (v := I (v9q286 + 1)) (lv' := [(9, .int (I (v9q286 + 1))), (0, .ref a), (2, .int (I z_235)), (3, .int (I 0)), (4, .int (I 0)), (5, .int (I v5q263)), (8, .int (I z_281))]) hx hb dX11_places_266 hl (k := 6) rfl (I_add _ _) (by decide) rfl (fun ls hl => ?_)
                  refine lv_goto (tgt := 242) hx hb dX11_places_269 (by decide) ?_
                  exact ihJ_287 (v9q286 + 1) σ_s_292 _ _ _ (by first | (dsimp only; omega) | omega) ⟨hO, hF, hM, hsr, hH, hS, lv_sub hl [1, 2, 3, 4, 5, 6, 0] rfl, ⟨by first | (dsimp only; omega) | omega, by first | (dsimp only; omega) | omega⟩, by first | (dsimp only; omega) | omega, by first | (dsimp only; omega) | omega, by first | (dsimp only; omega) | omega, e_293, e_294, e_295, e_296, e_297⟩
              · replace c_278 := mt (I_eq (a := z_277) (b := 2) rz_277 (show rng 2 from ⟨by decide, by decide⟩)).mpr c_278
                refine lv_goto (tgt := 272) hx hb dX11_places_198 (by decide) ?_
                refine lv_iinc (v := I (v5q263 + 1)) (lv' := [(5, .int (I (v5q263 + 1))), (0, .ref a), (2, .int (I z_235)), (3, .int (I 0)), (4, .int (I 0))]) hx hb dX11_places_272 hl (k := 4) rfl (I_add _ _) (by decide) rfl (fun ls hl => ?_)
                refine lv_goto (tgt := 159) hx hb dX11_places_275 (by decide) ?_
                exact ihJ_264 (v5q263 + 1) σ_J_264 _ _ _ (by first | (dsimp only; omega) | omega) ⟨hO, hF, hM, hsr, hH, hS, lv_sub hl [1, 2, 3, 4, 0] rfl, ⟨by first | (dsimp only; omega) | omega, by first | (dsimp only; omega) | omega⟩, by first | (dsimp only; omega) | omega, by first | (dsimp only; omega) | omega, J_264_2, J_264_3, J_264_4, J_264_5⟩
      · replace c_252 := (I_eq (a := z_251) (b := 0) rz_251 (show rng 0 from ⟨by decide, by decide⟩)).mp c_252
        clear hw_249
        refine lv_iconst (v := I 1) hx hb dX11_places_130 (by decide) ?_
        refine lv_goto (tgt := 135) hx hb dX11_places_131 (by decide) ?_
        refine lv_istore_n (lv' := [(3, .int (I 1)), (2, .int (I z_235)), (1, .int (I 1)), (0, .ref a)]) hx hb dX11_places_135 rfl hl (by decide) rfl (fun ls hl => ?_)
        refine lv_iload_n hx hb dX11_places_136 rfl (lv_at hl 0 rfl) ?_
        refine lv_if_eq (tgt := 147) hx hb dX11_places_137 (by decide) (fun c_298 => absurd c_298 (by decide)) (fun _ => ?_)
        refine lv_aload_n hx hb dX11_places_140 rfl (lv_at hl 3 rfl) ?_
        obtain ⟨_, hc_299⟩ := hO.cell h_a (by decide) (ci := 11) rfl
        refine th_calli (va_runV (As := []) (rest := []) ⟨hx, hb, hml, hown, hts⟩ (m_readNumber l G y b0 σ_s_245 E hO a h_a Bf hsr (by omega)) (cwV 0 hts gX11_places_X11_readNumber rfl rfl rfl (by decide +kernel) ⟨Nat.le_of_ble_eq_true rfl, Nat.le_of_ble_eq_true rfl⟩) (th_PV hK hH rfl hc_299) rfl rfl hl.1 rfl (lv_room (Nat.le_of_ble_eq_true rfl)) dX11_places_141 ⟨Nat.le_of_ble_eq_true rfl, Nat.le_of_ble_eq_true rfl⟩) hS (fun z_302 σ_s_301 H locs rz_302 hw_300 hH hS => ?_)
        obtain ⟨hO9, hF9, hM9, hw_300⟩ := hw_300
        replace hM := hM.tu hM9 (by decide)
        replace hF := hF.tu hF9 (by decide)
        have e_303 : aF σ_s_301 (ad E a 1) = f1 := (hM9.a (by decide) (by decide)).trans e_246
        have e_304 : gI σ_s_301 a 11 = a110 := (hM9.i (by decide)).trans e_247
        replace hsr := hsr.mv hM9 (by decide) (by decide) (by decide) (by decide) (by decide)
        replace hO := hO9
        have hw_300 : (gI σ_s_245 a 13 ≤ gI σ_s_301 a 13 ∧ gI σ_s_301 a 13 ≤ gI σ_s_245 a 11 ∧ 0 ≤ gI σ_s_301 a 17 ∧ gI σ_s_301 a 17 ≤ gI σ_s_301 a 13) ∧ pgo (gI σ_s_301 a 19) (gI σ_s_301 a 14) (gI σ_s_245 a 13) (gI σ_s_301 a 13) ∧ bdo (gI σ_s_245 a 19) (gI σ_s_301 a 19) := hw_300
        refine lv_goto (tgt := 148) hx hb dX11_places_144 (by decide) ?_
        refine lv_istore (lv' := [(4, .int (I z_302)), (3, .int (I 1)), (2, .int (I z_235)), (1, .int (I 1)), (0, .ref a)]) hx hb dX11_places_148 hl (by decide) rfl (fun ls hl => ?_)
        refine lv_aload_n hx hb dX11_places_150 rfl (lv_at hl 4 rfl) ?_
        refine lv_bipush (v := I 93) hx hb dX11_places_151 (by decide) ?_
        obtain ⟨_, hc_305⟩ := hO.cell h_a (by decide) (ci := 11) rfl
        refine th_callv (va_runV (As := [.int (I 93)]) (rest := []) ⟨hx, hb, hml, hown, hts⟩ (m_need l G y b0 σ_s_301 E hO a h_a 93 (show rng 93 from (show rng 93 from ⟨by decide, by decide⟩)) Bf hsr (by omega)) (cwV 1 hts gX11_places_X11_need rfl rfl rfl (by decide +kernel) ⟨Nat.le_of_ble_eq_true rfl, Nat.le_of_ble_eq_true rfl⟩) (th_PV hK hH rfl hc_305) rfl rfl hl.1 rfl (lv_room (Nat.le_of_ble_eq_true rfl)) dX11_places_153 ⟨Nat.le_of_ble_eq_true rfl, Nat.le_of_ble_eq_true rfl⟩) hS (fun σ_s_307 H locs hw_306 hH hS => ?_)
        obtain ⟨hO9, hF9, hM9, hw_306⟩ := hw_306
        replace hM := hM.tu hM9 (by decide)
        replace hF := hF.tu hF9 (by decide)
        have e_308 : aF σ_s_307 (ad E a 1) = f1 := (hM9.a (by decide) (by decide)).trans e_303
        have e_309 : gI σ_s_307 a 11 = a110 := (hM9.i (by decide)).trans e_304
        replace hsr := hsr.mv hM9 (by decide) (by decide) (by decide) (by decide) (by decide)
        replace hO := hO9
        have hw_306 : (gI σ_s_301 a 13 ≤ gI σ_s_307 a 13 ∧ gI σ_s_307 a 13 ≤ gI σ_s_301 a 11 ∧ 0 ≤ gI σ_s_307 a 17 ∧ gI σ_s_307 a 17 ≤ gI σ_s_307 a 13) ∧ pgo (gI σ_s_307 a 19) (gI σ_s_307 a 14) (gI σ_s_301 a 13) (gI σ_s_307 a 13) ∧ bdo (gI σ_s_301 a 19) (gI σ_s_307 a 19) := hw_306
        obtain ⟨z_310, e_311, rz_310, lz_310, uz_310⟩ := hO.gi h_a (by decide) k13_13
        obtain ⟨z_312, e_313, rz_312, lz_312, uz_312⟩ := hO.gi h_a (by decide) k13_17
        refine lv_iconst (v := I 0) hx hb dX11_places_156 (by decide) ?_
        refine lv_istore (lv' := [(5, .int (I 0)), (4, .int (I z_302)), (3, .int (I 1)), (2, .int (I z_235)), (1, .int (I 1)), (0, .ref a)]) hx hb dX11_places_157 hl (by decide) rfl (fun ls hl => ?_)
        replace hl : lv_has ls 10 [(5, .int (I 0)), (4, .int (I z_302)), (3, .int (I 1)), (2, .int (I z_235)), (0, .ref a)] := lv_sub hl [0, 1, 2, 3, 5] rfl
        refine th_loop (α := Int) (pc := 159) (fun x9 => (mS f1 0 - x9).toNat) (fun x9 σ9 H9 l9 ls9 => ok y E σ9 ∧ fr [13] E σ σ9 ∧ fm [13, 14, 15, 16, 17, 18, 19, 20, 24] E σ σ9 a ∧ sr E σ9 a Bf ∧ th_H G b0 σ9 H9 ∧ va_S (th_A b0) s.heap H9 l9 ∧ lv_has ls9 10 [(0, .ref a), (2, .int (I z_235)), (3, .int (I 1)), (4, .int (I z_302)), (5, .int (I x9))] ∧ rng x9 ∧ (0 ≤ x9) ∧ (x9 ≤ 60) ∧ (gI σ9 a 11 = a110) ∧ (gI σ9 a 13 = z_310) ∧ (gI σ9 a 17 = z_312) ∧ (aF σ9 (ad E a 1) = f1)) ?_ (0) σ_s_307 _ _ _ ⟨hO, hF, hM, hsr, hH, hS, lv_sub hl [4, 3, 2, 1, 0] rfl, (show rng 0 from ⟨by decide, by decide⟩), by first | (dsimp only; omega) | omega, by first | (dsimp only; omega) | omega, e_309, e_311, e_313, e_308⟩
        intro x9 σ_J_315 H locs ls hI9 ihJ_315
        obtain ⟨v5q314, ex9⟩ : ∃ z, z = x9 := ⟨_, rfl⟩
        subst ex9
        obtain ⟨hO, hF, hM, hsr, hH, hS, hl, rv5q314, J_315_0, J_315_1, J_315_2, J_315_3, J_315_4, J_315_5⟩ := hI9
        have hl : lv_has ls 10 [(0, .ref a), (2, .int (I z_235)), (3, .int (I 1)), (4, .int (I z_302)), (5, .int (I v5q314))] := hl
        have rv5q314 : rng v5q314 := rv5q314
        have J_315_0 : 0 ≤ v5q314 := J_315_0
        have J_315_1 : v5q314 ≤ 60 := J_315_1
        have J_315_2 : gI σ_J_315 a 11 = a110 := J_315_2
        have J_315_3 : gI σ_J_315 a 13 = z_310 := J_315_3
        have J_315_4 : gI σ_J_315 a 17 = z_312 := J_315_4
        have J_315_5 : aF σ_J_315 (ad E a 1) = f1 := J_315_5
        refine lv_iload hx hb dX11_places_159 (lv_at hl 4 rfl) ?_
        refine lv_aload_n hx hb dX11_places_161 rfl (lv_at hl 0 rfl) ?_
        obtain ⟨_, hc_316⟩ := hO.cell h_a (by decide) (ci := 11) rfl
        refine th_calli (va_runV (As := []) (rest := [.int (I v5q314)]) ⟨hx, hb, hml, hown, hts⟩ (m_things l G y b0 σ_J_315 E hO a h_a f1 J_315_5) (cwV 0 hts gX11_places_X11_things rfl rfl rfl (by decide +kernel) ⟨Nat.le_of_ble_eq_true rfl, Nat.le_of_ble_eq_true rfl⟩) (th_PV hK hH rfl hc_316) rfl rfl hl.1 rfl (lv_room (Nat.le_of_ble_eq_true rfl)) dX11_places_162 ⟨Nat.le_of_ble_eq_true rfl, Nat.le_of_ble_eq_true rfl⟩) hS (fun z_319 σ_s_318 H locs rz_319 hw_317 hH hS => ?_)
        obtain ⟨e9, hw_317⟩ := hw_317
        replace e9 := e9.symm
        subst e9
        have hw_317 : z_319 = mS f1 0 := hw_317
        refine lv_icmp_ge (tgt := 278) hx hb dX11_places_165 (by decide) (fun c_320 => ?_) (fun c_320 => ?_)
        · replace c_320 := (I_le (a := z_319) (b := v5q314) rz_319 rv5q314).mp c_320
          exact th_vret hx hb hr hlocks hH hS ⟨hO, hF, hM, by omega⟩ dX11_places_278
        · replace c_320 := mt (I_le (a := z_319) (b := v5q314) rz_319 rv5q314).mpr c_320
          refine lv_aload_n hx hb dX11_places_168 rfl (lv_at hl 0 rfl) ?_
          refine ok.getI hO h_a (by decide) k13_25 (fun _ _ he hv kk => th_get (ci := 11) (C := RX11) (T := TX11) (N := 66) hx hb hts inX11 hown hK hH he rfl 25 (by decide) fl0 hv dX11_places_169 kk) (fun z_321 e_322 rz_321 lz_321 uz_321 => ?_)
          refine lv_if_eq (tgt := 278) hx hb dX11_places_172 (by decide) (fun c_323 => ?_) (fun c_323 => ?_)
          · replace c_323 := (I_eq (a := z_321) (b := 0) rz_321 (show rng 0 from ⟨by decide, by decide⟩)).mp c_323
            exact th_vret hx hb hr hlocks hH hS ⟨hO, hF, hM, by omega⟩ dX11_places_278
          · replace c_323 := mt (I_eq (a := z_321) (b := 0) rz_321 (show rng 0 from ⟨by decide, by decide⟩)).mpr c_323
            refine lv_aload_n hx hb dX11_places_175 rfl (lv_at hl 0 rfl) ?_
            refine ok.getR hO h_a (by decide) k13_23 (by decide) (fun _ _ he hv kk => th_get (ci := 11) (C := RX11) (T := TX11) (N := 66) hx hb hts inX11 hown hK hH he rfl 23 (by decide) fl1 hv dX11_places_176 kk) ?_
            refine lv_iload hx hb dX11_places_179 (lv_at hl 4 rfl) ?_
            refine m_zald hx hb hK hH hO h_a k13_23 rv5q314 (by omega) (by omega) dX11_places_181 (fun z_324 rz_324 uz_324 => ?_)
            refine lv_if_eq (tgt := 272) hx hb dX11_places_182 (by decide) (fun c_325 => ?_) (fun c_325 => ?_)
            · replace c_325 := (I_eq (a := z_324) (b := 0) rz_324 (show rng 0 from ⟨by decide, by decide⟩)).mp c_325
              refine lv_iinc (v := I (v5q314 + 1)) (lv' := [(5, .int (I (v5q314 + 1))), (0, .ref a), (2, .int (I z_235)), (3, .int (I 1)), (4, .int (I z_302))]) hx hb dX11_places_272 hl (k := 4) rfl (I_add _ _) (by decide) rfl (fun ls hl => ?_)
              refine lv_goto (tgt := 159) hx hb dX11_places_275 (by decide) ?_
              exact ihJ_315 (v5q314 + 1) σ_J_315 _ _ _ (by first | (dsimp only; omega) | omega) ⟨hO, hF, hM, hsr, hH, hS, lv_sub hl [1, 2, 3, 4, 0] rfl, ⟨by first | (dsimp only; omega) | omega, by first | (dsimp only; omega) | omega⟩, by first | (dsimp only; omega) | omega, by first | (dsimp only; omega) | omega, J_315_2, J_315_3, J_315_4, J_315_5⟩
            · replace c_325 := mt (I_eq (a := z_324) (b := 0) rz_324 (show rng 0 from ⟨by decide, by decide⟩)).mpr c_325
              have hk5 := hy0 v5q314 (by omega) (by omega)
              refine lv_aload_n hx hb dX11_places_185 rfl (lv_at hl 0 rfl) ?_
              refine ok.getR hO h_a (by decide) k13_1 (by decide) (fun _ _ he hv kk => th_get (ci := 11) (C := RX11) (T := TX11) (N := 66) hx hb hts inX11 hown hK hH he rfl 1 (by decide) fl2 hv dX11_places_186 kk) ?_
              refine lv_iload hx hb dX11_places_189 (lv_at hl 4 rfl) ?_
              refine th_calli (va_runS (As := [.ref (ad E a 1), .int (I v5q314)]) (rest := []) ⟨hx, hb, hml, hown, hts⟩ (w_kind l G y b0 σ_J_315 E hO (ad E a 1) 240 f1 (hO.roww h_a k13_1 isA1 J_315_5 rfl) v5q314 (show rng v5q314 from rv5q314) (by omega) (by omega) (by omega)) (va_cwS 2 hts gX11_places_X11_kind rfl rfl rfl (by decide +kernel) ⟨Nat.le_of_ble_eq_true rfl, Nat.le_of_ble_eq_true rfl⟩) (th_PS hK hH) rfl rfl hl.1 rfl (lv_room (Nat.le_of_ble_eq_true rfl)) dX11_places_191 ⟨Nat.le_of_ble_eq_true rfl, Nat.le_of_ble_eq_true rfl⟩) hS (fun z_328 σ_s_327 H locs rz_328 hw_326 hH hS => ?_)
              obtain ⟨e9, hw_326⟩ := hw_326
              replace e9 := e9.symm
              subst e9
              have hw_326 : z_328 = mK f1 v5q314 := hw_326
              refine lv_iconst (v := I 2) hx hb dX11_places_194 (by decide) ?_
              refine lv_icmp_eq (tgt := 201) hx hb dX11_places_195 (by decide) (fun c_329 => ?_) (fun c_329 => ?_)
              · replace c_329 := (I_eq (a := z_328) (b := 2) rz_328 (show rng 2 from ⟨by decide, by decide⟩)).mp c_329
                refine lv_aload_n hx hb dX11_places_201 rfl (lv_at hl 0 rfl) ?_
                refine ok.getR hO h_a (by decide) k13_1 (by decide) (fun _ _ he hv kk => th_get (ci := 11) (C := RX11) (T := TX11) (N := 66) hx hb hts inX11 hown hK hH he rfl 1 (by decide) fl2 hv dX11_places_202 kk) ?_
                refine lv_iload hx hb dX11_places_205 (lv_at hl 4 rfl) ?_
                refine th_calli (va_runS (As := [.ref (ad E a 1), .int (I v5q314)]) (rest := []) ⟨hx, hb, hml, hown, hts⟩ (w_many l G y b0 σ_J_315 E hO (ad E a 1) 240 f1 (hO.roww h_a k13_1 isA1 J_315_5 rfl) v5q314 (show rng v5q314 from rv5q314) (by omega) (by omega) (by first | exact hy0 | exact (hy0).sub (by omega) (by omega)) (by omega) (by omega) (by omega)) (va_cwS 2 hts gX11_places_X11_many rfl rfl rfl (by decide +kernel) ⟨Nat.le_of_ble_eq_true rfl, Nat.le_of_ble_eq_true rfl⟩) (th_PS hK hH) rfl rfl hl.1 rfl (lv_room (Nat.le_of_ble_eq_true rfl)) dX11_places_207 ⟨Nat.le_of_ble_eq_true rfl, Nat.le_of_ble_eq_true rfl⟩) hS (fun z_332 σ_s_331 H locs rz_332 hw_330 hH hS => ?_)
                obtain ⟨e9, hw_330⟩ := hw_330
                replace e9 := e9.symm
                subst e9
                have hw_330 : chn f1 (v5q314 + 1) z_332 (v5q314 + mS f1 v5q314) ∧ 0 ≤ z_332 ∧ z_332 < mS f1 v5q314 := hw_330
                refine lv_istore (lv' := [(6, .int (I z_332)), (0, .ref a), (2, .int (I z_235)), (3, .int (I 1)), (4, .int (I z_302)), (5, .int (I v5q314))]) hx hb dX11_places_210 hl (by decide) rfl (fun ls hl => ?_)
                refine lv_iload_n hx hb dX11_places_212 rfl (lv_at hl 2 rfl) ?_
                refine lv_iload hx hb dX11_places_213 (lv_at hl 0 rfl) ?_
                refine th_calli (va_runS (As := [.int (I z_235), .int (I z_332)]) (rest := []) ⟨hx, hb, hml, hown, hts⟩ (w_held l G y b0 σ_J_315 E hO z_235 (show rng z_235 from rz_235) z_332 (show rng z_332 from rz_332) (by omega) (by omega)) (va_cwS 2 hts gX11_places_X11_held rfl rfl rfl (by decide +kernel) ⟨Nat.le_of_ble_eq_true rfl, Nat.le_of_ble_eq_true rfl⟩) (th_PS hK hH) rfl rfl hl.1 rfl (lv_room (Nat.le_of_ble_eq_true rfl)) dX11_places_215 ⟨Nat.le_of_ble_eq_true rfl, Nat.le_of_ble_eq_true rfl⟩) hS (fun z_335 σ_s_334 H locs rz_335 hw_333 hH hS => ?_)
                obtain ⟨e9, hw_333⟩ := hw_333
                replace e9 := e9.symm
                subst e9
                have hw_333 : 0 ≤ z_335 ∧ z_335 ≤ z_332 := hw_333
                refine lv_istore (lv' := [(7, .int (I z_335)), (6, .int (I z_332)), (0, .ref a), (2, .int (I z_235)), (3, .int (I 1)), (4, .int (I z_302)), (5, .int (I v5q314))]) hx hb dX11_places_218 hl (by decide) rfl (fun ls hl => ?_)
                refine lv_iload_n hx hb dX11_places_220 rfl (lv_at hl 4 rfl) ?_
                refine lv_if_eq (tgt := 234) hx hb dX11_places_221 (by decide) (fun c_336 => absurd c_336 (by decide)) (fun _ => ?_)
                refine lv_iload hx hb dX11_places_224 (lv_at hl 5 rfl) ?_
                refine lv_iload hx hb dX11_places_226 (lv_at hl 1 rfl) ?_
                refine th_calli (va_runS (As := [.int (I z_302), .int (I z_332)]) (rest := []) ⟨hx, hb, hml, hown, hts⟩ (w_held l G y b0 σ_J_315 E hO z_302 (show rng z_302 from rz_302) z_332 (show rng z_332 from rz_332) (by omega) (by omega)) (va_cwS 2 hts gX11_places_X11_held rfl rfl rfl (by decide +kernel) ⟨Nat.le_of_ble_eq_true rfl, Nat.le_of_ble_eq_true rfl⟩) (th_PS hK hH) rfl rfl hl.1 rfl (lv_room (Nat.le_of_ble_eq_true rfl)) dX11_places_228 ⟨Nat.le_of_ble_eq_true rfl, Nat.le_of_ble_eq_true rfl⟩) hS (fun z_339 σ_s_338 H locs rz_339 hw_337 hH hS => ?_)
                obtain ⟨e9, hw_337⟩ := hw_337
                replace e9 := e9.symm
                subst e9
                have hw_337 : 0 ≤ z_339 ∧ z_339 ≤ z_332 := hw_337
                refine lv_goto (tgt := 236) hx hb dX11_places_231 (by decide) ?_
                refine lv_istore (lv' := [(8, .int (I z_339)), (7, .int (I z_335)), (6, .int (I z_332)), (0, .ref a), (2, .int (I z_235)), (3, .int (I 1)), (4, .int (I z_302)), (5, .int (I v5q314))]) hx hb dX11_places_236 hl (by decide) rfl (fun ls hl => ?_)
                refine lv_iload hx hb dX11_places_238 (lv_at hl 1 rfl) ?_
                refine lv_istore (lv' := [(9, .int (I z_335)), (8, .int (I z_339)), (7, .int (I z_335)), (6, .int (I z_332)), (0, .ref a), (2, .int (I z_235)), (3, .int (I 1)), (4, .int (I z_302)), (5, .int (I v5q314))]) hx hb dX11_places_240 hl (by decide) rfl (fun ls hl => ?_)
                replace hl : lv_has ls 10 [(9, .int (I z_335)), (8, .int (I z_339)), (0, .ref a), (2, .int (I z_235)), (3, .int (I 1)), (4, .int (I z_302)), (5, .int (I v5q314))] := lv_sub hl [0, 1, 4, 5, 6, 7, 8] rfl
                refine th_loop (α := Int) (pc := 242) (fun x9 => (z_339 - x9).toNat) (fun x9 σ9 H9 l9 ls9 => ok y E σ9 ∧ fr [13] E σ σ9 ∧ fm [13, 14, 15, 16, 17, 18, 19, 20, 24] E σ σ9 a ∧ sr E σ9 a Bf ∧ th_H G b0 σ9 H9 ∧ va_S (th_A b0) s.heap H9 l9 ∧ lv_has ls9 10 [(0, .ref a), (2, .int (I z_235)), (3, .int (I 1)), (4, .int (I z_302)), (5, .int (I v5q314)), (8, .int (I z_339)), (9, .int (I x9))] ∧ rng x9 ∧ (0 ≤ x9) ∧ (x9 ≤ 60) ∧ (z_339 ≤ 60) ∧ (gI σ9 a 11 = a110) ∧ (gI σ9 a 13 = z_310) ∧ (gI σ9 a 17 = z_312) ∧ (gI σ9 a 25 = z_321) ∧ (aF σ9 (ad E a 1) = f1)) ?_ (z_335) σ_J_315 _ _ _ ⟨hO, hF, hM, hsr, hH, hS, lv_sub hl [2, 3, 4, 5, 6, 1, 0] rfl, rz_335, by first | (dsimp only; omega) | omega, by first | (dsimp only; omega) | omega, by first | (dsimp only; omega) | omega, J_315_2, J_315_3, J_315_4, e_322, J_315_5⟩
                intro x9 σ_J_341 H locs ls hI9 ihJ_341
                obtain ⟨v9q340, ex9⟩ : ∃ z, z = x9 := ⟨_, rfl⟩
                subst ex9
                obtain ⟨hO, hF, hM, hsr, hH, hS, hl, rv9q340, J_341_0, J_341_1, J_341_2, J_341_3, J_341_4, J_341_5, J_341_6, J_341_7⟩ := hI9
                have hl : lv_has ls 10 [(0, .ref a), (2, .int (I z_235)), (3, .int (I 1)), (4, .int (I z_302)), (5, .int (I v5q314)), (8, .int (I z_339)), (9, .int (I v9q340))] := hl
                have rv9q340 : rng v9q340 := rv9q340
                have J_341_0 : 0 ≤ v9q340 := J_341_0
                have J_341_1 : v9q340 ≤ 60 := J_341_1
                have J_341_2 : z_339 ≤ 60 := J_341_2
                have J_341_3 : gI σ_J_341 a 11 = a110 := J_341_3
                have J_341_4 : gI σ_J_341 a 13 = z_310 := J_341_4
                have J_341_5 : gI σ_J_341 a 17 = z_312 := J_341_5
                have J_341_6 : gI σ_J_341 a 25 = z_321 := J_341_6
                have J_341_7 : aF σ_J_341 (ad E a 1) = f1 := J_341_7
                refine lv_iload hx hb dX11_places_242 (lv_at hl 6 rfl) ?_
                refine lv_iload hx hb dX11_places_244 (lv_at hl 5 rfl) ?_
                refine lv_icmp_ge (tgt := 272) hx hb dX11_places_246 (by decide) (fun c_342 => ?_) (fun c_342 => ?_)
                · replace c_342 := (I_le (a := z_339) (b := v9q340) rz_339 rv9q340).mp c_342
                  refine lv_iinc (v := I (v5q314 + 1)) (lv' := [(5, .int (I (v5q314 + 1))), (0, .ref a), (2, .int (I z_235)), (3, .int (I 1)), (4, .int (I z_302)), (8, .int (I z_339)), (9, .int (I v9q340))]) hx hb dX11_places_272 hl (k := 4) rfl (I_add _ _) (by decide) rfl (fun ls hl => ?_)
                  refine lv_goto (tgt := 159) hx hb dX11_places_275 (by decide) ?_
                  replace hl : lv_has ls 10 [(5, .int (I (v5q314 + 1))), (0, .ref a), (2, .int (I z_235)), (3, .int (I 1)), (4, .int (I z_302))] := lv_sub hl [0, 1, 2, 3, 4] rfl
                  exact ihJ_315 (v5q314 + 1) σ_J_341 _ _ _ (by first | (dsimp only; omega) | omega) ⟨hO, hF, hM, hsr, hH, hS, lv_sub hl [1, 2, 3, 4, 0] rfl, ⟨by first | (dsimp only; omega) | omega, by first | (dsimp only; omega) | omega⟩, by first | (dsimp only; omega) | omega, by first | (dsimp only; omega) | omega, J_341_3, J_341_4, J_341_5, J_341_7⟩
                · replace c_342 := mt (I_le (a := z_339) (b := v9q340) rz_339 rv9q340).mpr c_342
                  refine lv_aload_n hx hb dX11_places_249 rfl (lv_at hl 0 rfl) ?_
                  refine ok.getR hO h_a (by decide) k13_24 (by decide) (fun _ _ he hv kk => th_get (ci := 11) (C := RX11) (T := TX11) (N := 66) hx hb hts inX11 hown hK hH he rfl 24 (by decide) fl3 hv dX11_places_250 kk) ?_
                  refine lv_aload_n hx hb dX11_places_253 rfl (lv_at hl 0 rfl) ?_
                  refine ok.getR hO h_a (by decide) k13_1 (by decide) (fun _ _ he hv kk => th_get (ci := 11) (C := RX11) (T := TX11) (N := 66) hx hb hts inX11 hown hK hH he rfl 1 (by decide) fl2 hv dX11_places_254 kk) ?_
                  refine lv_iload hx hb dX11_places_257 (lv_at hl 4 rfl) ?_
                  refine lv_iload hx hb dX11_places_259 (lv_at hl 6 rfl) ?_
                  refine th_calli (va_runS (As := [.ref (ad E a 1), .int (I v5q314), .int (I v9q340)]) (rest := [.ref (ad E a 24)]) ⟨hx, hb, hml, hown, hts⟩ (w_nth l G y b0 σ_J_341 E hO (ad E a 1) 240 f1 (hO.roww h_a k13_1 isA1 J_341_7 rfl) v5q314 (show rng v5q314 from rv5q314) (by omega) (by omega) v9q340 (show rng v9q340 from rv9q340) (by first | exact hy0 | exact (hy0).sub (by omega) (by omega)) (by omega) (by omega) (by omega) (jin.mk1 (by omega) hw_330.1 (by omega))) (va_cwS 3 hts gX11_places_X11_nth rfl rfl rfl (by decide +kernel) ⟨Nat.le_of_ble_eq_true rfl, Nat.le_of_ble_eq_true rfl⟩) (th_PS hK hH) rfl rfl hl.1 rfl (lv_room (Nat.le_of_ble_eq_true rfl)) dX11_places_261 ⟨Nat.le_of_ble_eq_true rfl, Nat.le_of_ble_eq_true rfl⟩) hS (fun z_345 σ_s_344 H locs rz_345 hw_343 hH hS => ?_)
                  obtain ⟨e9, hw_343⟩ := hw_343
                  replace e9 := e9.symm
                  subst e9
                  have hw_343 : chn f1 (v5q314 + 1) v9q340 z_345 ∧ kid f1 v5q314 z_345 := hw_343
                  have hq9 := hw_343.2.1
                  have hq8 := hw_343.2.2.1
                  refine lv_iconst (v := I 1) hx hb dX11_places_264 (by decide) ?_
                  refine m_zast hx hb hK hH hS h00 hO h_a k13_24 (by decide) rz_345 (by omega) (by omega) (by omega) dX11_places_265 (fun σ_s_346 H locs hO hF9 hM9 hH hS => ?_)
                  replace hM := hM.tu hM9 (by decide)
                  replace hF := hF.tu hF9 (by decide)
                  have e_347 : gI σ_s_346 a 11 = a110 := (hM9.i (by decide)).trans J_341_3
                  have e_348 : gI σ_s_346 a 13 = z_310 := (hM9.i (by decide)).trans J_341_4
                  have e_349 : gI σ_s_346 a 17 = z_312 := (hM9.i (by decide)).trans J_341_5
                  have e_350 : gI σ_s_346 a 25 = z_321 := (hM9.i (by decide)).trans J_341_6
                  have e_351 : aF σ_s_346 (ad E a 1) = f1 := (hM9.a (by decide) (by decide)).trans J_341_7
                  replace hsr := hsr.mv hM9 (by decide) (by decide) (by decide) (by decide) (by decide)
                  refine lv_iinc (v := I (v9q340 + 1)) (lv' := [(9, .int (I (v9q340 + 1))), (0, .ref a), (2, .int (I z_235)), (3, .int (I 1)), (4, .int (I z_302)), (5, .int (I v5q314)), (8, .int (I z_339))]) hx hb dX11_places_266 hl (k := 6) rfl (I_add _ _) (by decide) rfl (fun ls hl => ?_)
                  refine lv_goto (tgt := 242) hx hb dX11_places_269 (by decide) ?_
                  exact ihJ_341 (v9q340 + 1) σ_s_346 _ _ _ (by first | (dsimp only; omega) | omega) ⟨hO, hF, hM, hsr, hH, hS, lv_sub hl [1, 2, 3, 4, 5, 6, 0] rfl, ⟨by first | (dsimp only; omega) | omega, by first | (dsimp only; omega) | omega⟩, by first | (dsimp only; omega) | omega, by first | (dsimp only; omega) | omega, by first | (dsimp only; omega) | omega, e_347, e_348, e_349, e_350, e_351⟩
              · replace c_329 := mt (I_eq (a := z_328) (b := 2) rz_328 (show rng 2 from ⟨by decide, by decide⟩)).mpr c_329
                refine lv_goto (tgt := 272) hx hb dX11_places_198 (by decide) ?_
                refine lv_iinc (v := I (v5q314 + 1)) (lv' := [(5, .int (I (v5q314 + 1))), (0, .ref a), (2, .int (I z_235)), (3, .int (I 1)), (4, .int (I z_302))]) hx hb dX11_places_272 hl (k := 4) rfl (I_add _ _) (by decide) rfl (fun ls hl => ?_)
                refine lv_goto (tgt := 159) hx hb dX11_places_275 (by decide) ?_
                exact ihJ_315 (v5q314 + 1) σ_J_315 _ _ _ (by first | (dsimp only; omega) | omega) ⟨hO, hF, hM, hsr, hH, hS, lv_sub hl [1, 2, 3, 4, 0] rfl, ⟨by first | (dsimp only; omega) | omega, by first | (dsimp only; omega) | omega⟩, by first | (dsimp only; omega) | omega, by first | (dsimp only; omega) | omega, J_315_2, J_315_3, J_315_4, J_315_5⟩
    · replace c_242 := (I_eq (a := z_241) (b := 0) rz_241 (show rng 0 from ⟨by decide, by decide⟩)).mp c_242
      clear hw_239
      refine lv_aload_n hx hb dX11_places_37 rfl (lv_at hl 2 rfl) ?_
      refine lv_bipush (v := I 93) hx hb dX11_places_38 (by decide) ?_
      obtain ⟨_, hc_352⟩ := hO.cell h_a (by decide) (ci := 11) rfl
      refine th_callv (va_runV (As := [.int (I 93)]) (rest := []) ⟨hx, hb, hml, hown, hts⟩ (m_need l G y b0 σ_s_234 E hO a h_a 93 (show rng 93 from (show rng 93 from ⟨by decide, by decide⟩)) Bf hsr (by omega)) (cwV 1 hts gX11_places_X11_need rfl rfl rfl (by decide +kernel) ⟨Nat.le_of_ble_eq_true rfl, Nat.le_of_ble_eq_true rfl⟩) (th_PV hK hH rfl hc_352) rfl rfl hl.1 rfl (lv_room (Nat.le_of_ble_eq_true rfl)) dX11_places_40 ⟨Nat.le_of_ble_eq_true rfl, Nat.le_of_ble_eq_true rfl⟩) hS (fun σ_s_354 H locs hw_353 hH hS => ?_)
      obtain ⟨hO9, hF9, hM9, hw_353⟩ := hw_353
      replace hM := hM.tu hM9 (by decide)
      replace hF := hF.tu hF9 (by decide)
      have e_355 : aF σ_s_354 (ad E a 1) = f1 := (hM9.a (by decide) (by decide)).trans e_236
      have e_356 : gI σ_s_354 a 11 = a110 := (hM9.i (by decide)).trans e_237
      replace hsr := hsr.mv hM9 (by decide) (by decide) (by decide) (by decide) (by decide)
      replace hO := hO9
      have hw_353 : (gI σ_s_234 a 13 ≤ gI σ_s_354 a 13 ∧ gI σ_s_354 a 13 ≤ gI σ_s_234 a 11 ∧ 0 ≤ gI σ_s_354 a 17 ∧ gI σ_s_354 a 17 ≤ gI σ_s_354 a 13) ∧ pgo (gI σ_s_354 a 19) (gI σ_s_354 a 14) (gI σ_s_234 a 13) (gI σ_s_354 a 13) ∧ bdo (gI σ_s_234 a 19) (gI σ_s_354 a 19) := hw_353
      obtain ⟨z_357, e_358, rz_357, lz_357, uz_357⟩ := hO.gi h_a (by decide) k13_13
      obtain ⟨z_359, e_360, rz_359, lz_359, uz_359⟩ := hO.gi h_a (by decide) k13_17
      refine lv_iconst (v := I 0) hx hb dX11_places_43 (by decide) ?_
      refine lv_istore_n (lv' := [(3, .int (I 0)), (2, .int (I z_235)), (1, .int (I 1)), (0, .ref a)]) hx hb dX11_places_44 rfl hl (by decide) rfl (fun ls hl => ?_)
      replace hl : lv_has ls 10 [(3, .int (I 0)), (2, .int (I z_235)), (0, .ref a)] := lv_sub hl [0, 1, 3] rfl
      refine th_loop (α := Int) (pc := 45) (fun x9 => (mS f1 0 - x9).toNat) (fun x9 σ9 H9 l9 ls9 => ok y E σ9 ∧ fr [13] E σ σ9 ∧ fm [13, 14, 15, 16, 17, 18, 19, 20, 24] E σ σ9 a ∧ sr E σ9 a Bf ∧ th_H G b0 σ9 H9 ∧ va_S (th_A b0) s.heap H9 l9 ∧ lv_has ls9 10 [(0, .ref a), (2, .int (I z_235)), (3, .int (I x9))] ∧ rng x9 ∧ (0 ≤ x9) ∧ (x9 ≤ 60) ∧ (gI σ9 a 11 = a110) ∧ (gI σ9 a 13 = z_357) ∧ (gI σ9 a 17 = z_359) ∧ (aF σ9 (ad E a 1) = f1)) ?_ (0) σ_s_354 _ _ _ ⟨hO, hF, hM, hsr, hH, hS, lv_sub hl [2, 1, 0] rfl, (show rng 0 from ⟨by decide, by decide⟩), by first | (dsimp only; omega) | omega, by first | (dsimp only; omega) | omega, e_356, e_358, e_360, e_355⟩
      intro x9 σ_J_362 H locs ls hI9 ihJ_362
      obtain ⟨v3q361, ex9⟩ : ∃ z, z = x9 := ⟨_, rfl⟩
      subst ex9
      obtain ⟨hO, hF, hM, hsr, hH, hS, hl, rv3q361, J_362_0, J_362_1, J_362_2, J_362_3, J_362_4, J_362_5⟩ := hI9
      have hl : lv_has ls 10 [(0, .ref a), (2, .int (I z_235)), (3, .int (I v3q361))] := hl
      have rv3q361 : rng v3q361 := rv3q361
      have J_362_0 : 0 ≤ v3q361 := J_362_0
      have J_362_1 : v3q361 ≤ 60 := J_362_1
      have J_362_2 : gI σ_J_362 a 11 = a110 := J_362_2
      have J_362_3 : gI σ_J_362 a 13 = z_357 := J_362_3
      have J_362_4 : gI σ_J_362 a 17 = z_359 := J_362_4
      have J_362_5 : aF σ_J_362 (ad E a 1) = f1 := J_362_5
      refine lv_iload_n hx hb dX11_places_45 rfl (lv_at hl 2 rfl) ?_
      refine lv_aload_n hx hb dX11_places_46 rfl (lv_at hl 0 rfl) ?_
      obtain ⟨_, hc_363⟩ := hO.cell h_a (by decide) (ci := 11) rfl
      refine th_calli (va_runV (As := []) (rest := [.int (I v3q361)]) ⟨hx, hb, hml, hown, hts⟩ (m_things l G y b0 σ_J_362 E hO a h_a f1 J_362_5) (cwV 0 hts gX11_places_X11_things rfl rfl rfl (by decide +kernel) ⟨Nat.le_of_ble_eq_true rfl, Nat.le_of_ble_eq_true rfl⟩) (th_PV hK hH rfl hc_363) rfl rfl hl.1 rfl (lv_room (Nat.le_of_ble_eq_true rfl)) dX11_places_47 ⟨Nat.le_of_ble_eq_true rfl, Nat.le_of_ble_eq_true rfl⟩) hS (fun z_366 σ_s_365 H locs rz_366 hw_364 hH hS => ?_)
      obtain ⟨e9, hw_364⟩ := hw_364
      replace e9 := e9.symm
      subst e9
      have hw_364 : z_366 = mS f1 0 := hw_364
      refine lv_icmp_ge (tgt := 116) hx hb dX11_places_50 (by decide) (fun c_367 => ?_) (fun c_367 => ?_)
      · replace c_367 := (I_le (a := z_366) (b := v3q361) rz_366 rv3q361).mp c_367
        exact th_vret hx hb hr hlocks hH hS ⟨hO, hF, hM, by omega⟩ dX11_places_116
      · replace c_367 := mt (I_le (a := z_366) (b := v3q361) rz_366 rv3q361).mpr c_367
        refine lv_aload_n hx hb dX11_places_53 rfl (lv_at hl 0 rfl) ?_
        refine ok.getI hO h_a (by decide) k13_25 (fun _ _ he hv kk => th_get (ci := 11) (C := RX11) (T := TX11) (N := 66) hx hb hts inX11 hown hK hH he rfl 25 (by decide) fl0 hv dX11_places_54 kk) (fun z_368 e_369 rz_368 lz_368 uz_368 => ?_)
        refine lv_if_eq (tgt := 116) hx hb dX11_places_57 (by decide) (fun c_370 => ?_) (fun c_370 => ?_)
        · replace c_370 := (I_eq (a := z_368) (b := 0) rz_368 (show rng 0 from ⟨by decide, by decide⟩)).mp c_370
          exact th_vret hx hb hr hlocks hH hS ⟨hO, hF, hM, by omega⟩ dX11_places_116
        · replace c_370 := mt (I_eq (a := z_368) (b := 0) rz_368 (show rng 0 from ⟨by decide, by decide⟩)).mpr c_370
          refine lv_aload_n hx hb dX11_places_60 rfl (lv_at hl 0 rfl) ?_
          refine ok.getR hO h_a (by decide) k13_23 (by decide) (fun _ _ he hv kk => th_get (ci := 11) (C := RX11) (T := TX11) (N := 66) hx hb hts inX11 hown hK hH he rfl 23 (by decide) fl1 hv dX11_places_61 kk) ?_
          refine lv_iload_n hx hb dX11_places_64 rfl (lv_at hl 2 rfl) ?_
          refine m_zald hx hb hK hH hO h_a k13_23 rv3q361 (by omega) (by omega) dX11_places_65 (fun z_371 rz_371 uz_371 => ?_)
          refine lv_if_eq (tgt := 93) hx hb dX11_places_66 (by decide) (fun c_372 => ?_) (fun c_372 => ?_)
          · replace c_372 := (I_eq (a := z_371) (b := 0) rz_371 (show rng 0 from ⟨by decide, by decide⟩)).mp c_372
            refine lv_iconst (v := I (-1)) hx hb dX11_places_93 (by decide) ?_
            refine lv_istore (lv' := [(4, .int (I (-1))), (0, .ref a), (2, .int (I z_235)), (3, .int (I v3q361))]) hx hb dX11_places_94 hl (by decide) rfl (fun ls hl => ?_)
            refine lv_iload hx hb dX11_places_96 (lv_at hl 0 rfl) ?_
            refine lv_iconst (v := I (-1)) hx hb dX11_places_98 (by decide) ?_
            refine lv_icmp_eq (tgt := 110) hx hb dX11_places_99 (by decide) (fun _ => ?_) (fun c_373 => absurd (by decide) c_373)
            refine lv_iinc (v := I (v3q361 + 1)) (lv' := [(3, .int (I (v3q361 + 1))), (4, .int (I (-1))), (0, .ref a), (2, .int (I z_235))]) hx hb dX11_places_110 hl (k := 3) rfl (I_add _ _) (by decide) rfl (fun ls hl => ?_)
            refine lv_goto (tgt := 45) hx hb dX11_places_113 (by decide) ?_
            replace hl : lv_has ls 10 [(3, .int (I (v3q361 + 1))), (0, .ref a), (2, .int (I z_235))] := lv_sub hl [0, 2, 3] rfl
            exact ihJ_362 (v3q361 + 1) σ_J_362 _ _ _ (by first | (dsimp only; omega) | omega) ⟨hO, hF, hM, hsr, hH, hS, lv_sub hl [1, 2, 0] rfl, ⟨by first | (dsimp only; omega) | omega, by first | (dsimp only; omega) | omega⟩, by first | (dsimp only; omega) | omega, by first | (dsimp only; omega) | omega, J_362_2, J_362_3, J_362_4, J_362_5⟩
          · replace c_372 := mt (I_eq (a := z_371) (b := 0) rz_371 (show rng 0 from ⟨by decide, by decide⟩)).mpr c_372
            have hk3 := hy0 v3q361 (by omega) (by omega)
            refine lv_aload_n hx hb dX11_places_69 rfl (lv_at hl 0 rfl) ?_
            refine ok.getR hO h_a (by decide) k13_1 (by decide) (fun _ _ he hv kk => th_get (ci := 11) (C := RX11) (T := TX11) (N := 66) hx hb hts inX11 hown hK hH he rfl 1 (by decide) fl2 hv dX11_places_70 kk) ?_
            refine lv_iload_n hx hb dX11_places_73 rfl (lv_at hl 2 rfl) ?_
            refine th_calli (va_runS (As := [.ref (ad E a 1), .int (I v3q361)]) (rest := []) ⟨hx, hb, hml, hown, hts⟩ (w_kind l G y b0 σ_J_362 E hO (ad E a 1) 240 f1 (hO.roww h_a k13_1 isA1 J_362_5 rfl) v3q361 (show rng v3q361 from rv3q361) (by omega) (by omega) (by omega)) (va_cwS 2 hts gX11_places_X11_kind rfl rfl rfl (by decide +kernel) ⟨Nat.le_of_ble_eq_true rfl, Nat.le_of_ble_eq_true rfl⟩) (th_PS hK hH) rfl rfl hl.1 rfl (lv_room (Nat.le_of_ble_eq_true rfl)) dX11_places_74 ⟨Nat.le_of_ble_eq_true rfl, Nat.le_of_ble_eq_true rfl⟩) hS (fun z_376 σ_s_375 H locs rz_376 hw_374 hH hS => ?_)
            obtain ⟨e9, hw_374⟩ := hw_374
            replace e9 := e9.symm
            subst e9
            have hw_374 : z_376 = mK f1 v3q361 := hw_374
            refine lv_iconst (v := I 2) hx hb dX11_places_77 (by decide) ?_
            refine lv_icmp_ne (tgt := 93) hx hb dX11_places_78 (by decide) (fun c_377 => ?_) (fun c_377 => ?_)
            · replace c_377 := mt (I_eq (a := z_376) (b := 2) rz_376 (show rng 2 from ⟨by decide, by decide⟩)).mpr c_377
              refine lv_iconst (v := I (-1)) hx hb dX11_places_93 (by decide) ?_
              refine lv_istore (lv' := [(4, .int (I (-1))), (0, .ref a), (2, .int (I z_235)), (3, .int (I v3q361))]) hx hb dX11_places_94 hl (by decide) rfl (fun ls hl => ?_)
              refine lv_iload hx hb dX11_places_96 (lv_at hl 0 rfl) ?_
              refine lv_iconst (v := I (-1)) hx hb dX11_places_98 (by decide) ?_
              refine lv_icmp_eq (tgt := 110) hx hb dX11_places_99 (by decide) (fun _ => ?_) (fun c_378 => absurd (by decide) c_378)
              refine lv_iinc (v := I (v3q361 + 1)) (lv' := [(3, .int (I (v3q361 + 1))), (4, .int (I (-1))), (0, .ref a), (2, .int (I z_235))]) hx hb dX11_places_110 hl (k := 3) rfl (I_add _ _) (by decide) rfl (fun ls hl => ?_)
              refine lv_goto (tgt := 45) hx hb dX11_places_113 (by decide) ?_
              replace hl : lv_has ls 10 [(3, .int (I (v3q361 + 1))), (0, .ref a), (2, .int (I z_235))] := lv_sub hl [0, 2, 3] rfl
              exact ihJ_362 (v3q361 + 1) σ_J_362 _ _ _ (by first | (dsimp only; omega) | omega) ⟨hO, hF, hM, hsr, hH, hS, lv_sub hl [1, 2, 0] rfl, ⟨by first | (dsimp only; omega) | omega, by first | (dsimp only; omega) | omega⟩, by first | (dsimp only; omega) | omega, by first | (dsimp only; omega) | omega, J_362_2, J_362_3, J_362_4, J_362_5⟩
            · replace c_377 := (I_eq (a := z_376) (b := 2) rz_376 (show rng 2 from ⟨by decide, by decide⟩)).mp c_377
              refine lv_aload_n hx hb dX11_places_81 rfl (lv_at hl 0 rfl) ?_
              refine ok.getR hO h_a (by decide) k13_1 (by decide) (fun _ _ he hv kk => th_get (ci := 11) (C := RX11) (T := TX11) (N := 66) hx hb hts inX11 hown hK hH he rfl 1 (by decide) fl2 hv dX11_places_82 kk) ?_
              refine lv_iload_n hx hb dX11_places_85 rfl (lv_at hl 2 rfl) ?_
              refine lv_iload_n hx hb dX11_places_86 rfl (lv_at hl 1 rfl) ?_
              refine th_calli (va_runS (As := [.ref (ad E a 1), .int (I v3q361), .int (I z_235)]) (rest := []) ⟨hx, hb, hml, hown, hts⟩ (w_byPlace l G y b0 σ_J_362 E hO (ad E a 1) 240 f1 (hO.roww h_a k13_1 isA1 J_362_5 rfl) v3q361 (show rng v3q361 from rv3q361) (by omega) (by omega) z_235 (show rng z_235 from rz_235) (by first | exact hy0 | exact (hy0).sub (by omega) (by omega)) (by omega) (by omega) (by omega)) (va_cwS 3 hts gX11_places_X11_byPlace rfl rfl rfl (by decide +kernel) ⟨Nat.le_of_ble_eq_true rfl, Nat.le_of_ble_eq_true rfl⟩) (th_PS hK hH) rfl rfl hl.1 rfl (lv_room (Nat.le_of_ble_eq_true rfl)) dX11_places_87 ⟨Nat.le_of_ble_eq_true rfl, Nat.le_of_ble_eq_true rfl⟩) hS (fun z_381 σ_s_380 H locs rz_381 hw_379 hH hS => ?_)
              obtain ⟨e9, hw_379⟩ := hw_379
              replace e9 := e9.symm
              subst e9
              have hw_379 : z_381 = -1 ∨ (kid f1 v3q361 z_381 ∧ v3q361 < z_381 ∧ z_381 < v3q361 + mS f1 v3q361) := hw_379
              refine lv_goto (tgt := 94) hx hb dX11_places_90 (by decide) ?_
              refine lv_istore (lv' := [(4, .int (I z_381)), (0, .ref a), (2, .int (I z_235)), (3, .int (I v3q361))]) hx hb dX11_places_94 hl (by decide) rfl (fun ls hl => ?_)
              refine lv_iload hx hb dX11_places_96 (lv_at hl 0 rfl) ?_
              refine lv_iconst (v := I (-1)) hx hb dX11_places_98 (by decide) ?_
              refine lv_icmp_eq (tgt := 110) hx hb dX11_places_99 (by decide) (fun c_382 => ?_) (fun c_382 => ?_)
              · replace c_382 := (I_eq (a := z_381) (b := (-1)) rz_381 (show rng (-1) from ⟨by decide, by decide⟩)).mp c_382
                refine lv_iinc (v := I (v3q361 + 1)) (lv' := [(3, .int (I (v3q361 + 1))), (4, .int (I z_381)), (0, .ref a), (2, .int (I z_235))]) hx hb dX11_places_110 hl (k := 3) rfl (I_add _ _) (by decide) rfl (fun ls hl => ?_)
                refine lv_goto (tgt := 45) hx hb dX11_places_113 (by decide) ?_
                replace hl : lv_has ls 10 [(3, .int (I (v3q361 + 1))), (0, .ref a), (2, .int (I z_235))] := lv_sub hl [0, 2, 3] rfl
                exact ihJ_362 (v3q361 + 1) σ_J_362 _ _ _ (by first | (dsimp only; omega) | omega) ⟨hO, hF, hM, hsr, hH, hS, lv_sub hl [1, 2, 0] rfl, ⟨by first | (dsimp only; omega) | omega, by first | (dsimp only; omega) | omega⟩, by first | (dsimp only; omega) | omega, by first | (dsimp only; omega) | omega, J_362_2, J_362_3, J_362_4, J_362_5⟩
              · replace c_382 := mt (I_eq (a := z_381) (b := (-1)) rz_381 (show rng (-1) from ⟨by decide, by decide⟩)).mpr c_382
                refine lv_aload_n hx hb dX11_places_102 rfl (lv_at hl 1 rfl) ?_
                refine ok.getR hO h_a (by decide) k13_24 (by decide) (fun _ _ he hv kk => th_get (ci := 11) (C := RX11) (T := TX11) (N := 66) hx hb hts inX11 hown hK hH he rfl 24 (by decide) fl3 hv dX11_places_103 kk) ?_
                refine lv_iload hx hb dX11_places_106 (lv_at hl 0 rfl) ?_
                refine lv_iconst (v := I 1) hx hb dX11_places_108 (by decide) ?_
                refine m_zast hx hb hK hH hS h00 hO h_a k13_24 (by decide) rz_381 (by omega) (by omega) (by omega) dX11_places_109 (fun σ_s_383 H locs hO hF9 hM9 hH hS => ?_)
                replace hM := hM.tu hM9 (by decide)
                replace hF := hF.tu hF9 (by decide)
                have e_384 : gI σ_s_383 a 11 = a110 := (hM9.i (by decide)).trans J_362_2
                have e_385 : gI σ_s_383 a 13 = z_357 := (hM9.i (by decide)).trans J_362_3
                have e_386 : gI σ_s_383 a 17 = z_359 := (hM9.i (by decide)).trans J_362_4
                have e_387 : aF σ_s_383 (ad E a 1) = f1 := (hM9.a (by decide) (by decide)).trans J_362_5
                have e_388 : gI σ_s_383 a 25 = z_368 := (hM9.i (by decide)).trans e_369
                replace hsr := hsr.mv hM9 (by decide) (by decide) (by decide) (by decide) (by decide)
                refine lv_iinc (v := I (v3q361 + 1)) (lv' := [(3, .int (I (v3q361 + 1))), (4, .int (I z_381)), (0, .ref a), (2, .int (I z_235))]) hx hb dX11_places_110 hl (k := 3) rfl (I_add _ _) (by decide) rfl (fun ls hl => ?_)
                refine lv_goto (tgt := 45) hx hb dX11_places_113 (by decide) ?_
                replace hl : lv_has ls 10 [(3, .int (I (v3q361 + 1))), (0, .ref a), (2, .int (I z_235))] := lv_sub hl [0, 2, 3] rfl
                exact ihJ_362 (v3q361 + 1) σ_s_383 _ _ _ (by first | (dsimp only; omega) | omega) ⟨hO, hF, hM, hsr, hH, hS, lv_sub hl [1, 2, 0] rfl, ⟨by first | (dsimp only; omega) | omega, by first | (dsimp only; omega) | omega⟩, by first | (dsimp only; omega) | omega, by first | (dsimp only; omega) | omega, e_384, e_385, e_386, e_387⟩

set_option maxHeartbeats 4000000 in
set_option maxRecDepth 100000 in
theorem w_lettersOf (l : Launch) (G : va_G) (y : Nat → ClassId) (b0 : Nat) (σ : th_M) (E : th_E) (hO : ok y E σ) (w : Int) (rw : rng w) : Met l yX11_lettersOf wsX11_lettersOf ({ frames := 0, cells := 0, slots := 0, locals := 0 }) (th_P G y b0 σ [.int (I w)]) (th_Qi G b0 (fun r σ1 => σ1 = σ ∧ (0 ≤ r ∧ r ≤ 7))) 0 0 (th_A b0) := by
  refine Met.ofW (cc := cX11_lettersOf) (maxL := 3) (ret := (some .int)) (by decide) rfl ?_
  intro p e s m args below meth c s₁ B hml hv
  obtain ⟨rfl, hH, hK⟩ := hv
  have hx := B.exec
  have hb := B.bytes
  have hr := B.returns
  have hts := atoms_spec (ws := wsX11_lettersOf) B.pre
  have hown : s.vm.findClass RX11 = some m.cls := findClass_of_methodNamed B.named
  have hlocks := B.notSynchronized
  have h00 : b0 ≤ s.heap.size := hH.1
  have hS : va_S (th_A b0) s.heap s.heap [] := va_S.rf
  have hl := lv_entry ([.int (I w)]) (n := 3) (Nat.le_of_ble_eq_true rfl)
  rw [lg_entry_eq]
  generalize (lg_sl ([.int (I w)]) ++ List.replicate (3 - (lg_sl ([.int (I w)])).length) Slot.unset).toArray = ls at hl ⊢
  have hl : lv_has ls 3 [(0, .int (I w))] := hl
  refine lv_iconst (v := I 0) hx hb dX11_lettersOf_0 (by decide) ?_
  refine lv_istore_n (lv' := [(1, .int (I 0)), (0, .int (I w))]) hx hb dX11_lettersOf_1 rfl hl (by decide) rfl (fun ls hl => ?_)
  refine lv_iload_n hx hb dX11_lettersOf_2 rfl (lv_at hl 1 rfl) ?_
  refine lv_istore_n (lv' := [(2, .int (I w)), (1, .int (I 0)), (0, .int (I w))]) hx hb dX11_lettersOf_3 rfl hl (by decide) rfl (fun ls hl => ?_)
  replace hl : lv_has ls 3 [(2, .int (I w)), (1, .int (I 0))] := lv_sub hl [0, 1] rfl
  refine th_loop (α := Int × Int) (pc := 4) (fun x9 => (x9.2).toNat) (fun x9 σ9 H9 l9 ls9 => σ9 = σ ∧ th_H G b0 σ9 H9 ∧ va_S (th_A b0) s.heap H9 l9 ∧ lv_has ls9 3 [(1, .int (I x9.1)), (2, .int (I x9.2))] ∧ rng x9.1 ∧ rng x9.2 ∧ (0 ≤ x9.1) ∧ (x9.1 ≤ 7) ∧ ((x9.1 = 0 ∧ x9.2 ≤ 2147483647) ∨ (x9.1 = 1 ∧ x9.2 ≤ 67108863) ∨ (x9.1 = 2 ∧ x9.2 ≤ 2097151) ∨ (x9.1 = 3 ∧ x9.2 ≤ 65535) ∨ (x9.1 = 4 ∧ x9.2 ≤ 2047) ∨ (x9.1 = 5 ∧ x9.2 ≤ 63) ∨ (x9.1 = 6 ∧ x9.2 ≤ 1) ∨ (x9.1 = 7 ∧ x9.2 ≤ 0))) ?_ (0, w) σ _ _ _ ⟨rfl, hH, hS, lv_sub hl [1, 0] rfl, (show rng 0 from ⟨by decide, by decide⟩), rw, by first | (dsimp only; omega) | omega, by first | (dsimp only; omega) | omega, by first | (dsimp only; omega) | omega⟩
  intro x9 σ_J_5 H locs ls hI9 ihJ_5
  obtain ⟨v1q4, v2q4⟩ := x9
  obtain ⟨eJ_5, hH, hS, hl, rv1q4, rv2q4, J_5_0, J_5_1, J_5_2⟩ := hI9
  replace eJ_5 := eJ_5.symm
  subst eJ_5
  have hl : lv_has ls 3 [(1, .int (I v1q4)), (2, .int (I v2q4))] := hl
  have rv1q4 : rng v1q4 := rv1q4
  have rv2q4 : rng v2q4 := rv2q4
  have J_5_0 : 0 ≤ v1q4 := J_5_0
  have J_5_1 : v1q4 ≤ 7 := J_5_1
  have J_5_2 : (v1q4 = 0 ∧ v2q4 ≤ 2147483647) ∨ (v1q4 = 1 ∧ v2q4 ≤ 67108863) ∨ (v1q4 = 2 ∧ v2q4 ≤ 2097151) ∨ (v1q4 = 3 ∧ v2q4 ≤ 65535) ∨ (v1q4 = 4 ∧ v2q4 ≤ 2047) ∨ (v1q4 = 5 ∧ v2q4 ≤ 63) ∨ (v1q4 = 6 ∧ v2q4 ≤ 1) ∨ (v1q4 = 7 ∧ v2q4 ≤ 0) := J_5_2
  refine lv_iload_n hx hb dX11_lettersOf_4 rfl (lv_at hl 1 rfl) ?_
  refine lv_if_le (tgt := 19) hx hb dX11_lettersOf_5 (by decide) (fun c_6 => ?_) (fun c_6 => ?_)
  · replace c_6 := (I_le (a := v2q4) (b := 0) rv2q4 (show rng 0 from ⟨by decide, by decide⟩)).mp c_6
    refine lv_iload_n hx hb dX11_lettersOf_19 rfl (lv_at hl 0 rfl) ?_
    exact th_iret hx hb hr hlocks hH hS (z := v1q4) rv1q4 ⟨rfl, by omega⟩ dX11_lettersOf_20
  · replace c_6 := mt (I_le (a := v2q4) (b := 0) rv2q4 (show rng 0 from ⟨by decide, by decide⟩)).mpr c_6
    refine lv_iinc (v := I (v1q4 + 1)) (lv' := [(1, .int (I (v1q4 + 1))), (2, .int (I v2q4))]) hx hb dX11_lettersOf_8 hl (k := 0) rfl (I_add _ _) (by decide) rfl (fun ls hl => ?_)
    refine lv_iload_n hx hb dX11_lettersOf_11 rfl (lv_at hl 1 rfl) ?_
    refine lv_bipush (v := I 32) hx hb dX11_lettersOf_12 (by decide) ?_
    refine lv_idiv hx hb dX11_lettersOf_14 (by decide) ?_
    refine th_div (n := 32) rv2q4 (by omega) (by decide) (fun z_7 rz_7 hz_7 => ?_)
    refine lv_istore_n (lv' := [(2, .int (I z_7)), (1, .int (I (v1q4 + 1)))]) hx hb dX11_lettersOf_15 rfl hl (by decide) rfl (fun ls hl => ?_)
    refine lv_goto (tgt := 4) hx hb dX11_lettersOf_16 (by decide) ?_
    exact ihJ_5 (v1q4 + 1, z_7) σ _ _ _ (by first | (dsimp only; omega) | omega) ⟨rfl, hH, hS, lv_sub hl [1, 0] rfl, ⟨by first | (dsimp only; omega) | omega, by first | (dsimp only; omega) | omega⟩, rz_7, by first | (dsimp only; omega) | omega, by first | (dsimp only; omega) | omega, by first | (dsimp only; omega) | omega⟩

set_option maxHeartbeats 4000000 in
set_option maxRecDepth 100000 in
theorem w_compareWords (l : Launch) (G : va_G) (y : Nat → ClassId) (b0 : Nat) (σ : th_M) (E : th_E) (hO : ok y E σ) (w : Int) (rw : rng w) (u : Int) (ru : rng u) : Met l yX11_compareWords wsX11_compareWords ({ frames := 1, cells := 0, slots := 0, locals := 26 }) (th_P G y b0 σ [.int (I w), .int (I u)]) (th_Qi G b0 (fun r σ1 => σ1 = σ ∧ (True))) 0 0 (th_A b0) := by
  refine Met.ofW (cc := cX11_compareWords) (maxL := 4) (ret := (some .int)) (by decide) rfl ?_
  intro p e s m args below meth c s₁ B hml hv
  obtain ⟨rfl, hH, hK⟩ := hv
  have hx := B.exec
  have hb := B.bytes
  have hr := B.returns
  have hts := atoms_spec (ws := wsX11_compareWords) B.pre
  have hown : s.vm.findClass RX11 = some m.cls := findClass_of_methodNamed B.named
  have hlocks := B.notSynchronized
  have h00 : b0 ≤ s.heap.size := hH.1
  have hS : va_S (th_A b0) s.heap s.heap [] := va_S.rf
  have hl := lv_entry ([.int (I w), .int (I u)]) (n := 4) (Nat.le_of_ble_eq_true rfl)
  rw [lg_entry_eq]
  generalize (lg_sl ([.int (I w), .int (I u)]) ++ List.replicate (4 - (lg_sl ([.int (I w), .int (I u)])).length) Slot.unset).toArray = ls at hl ⊢
  have hl : lv_has ls 4 [(0, .int (I w)), (1, .int (I u))] := hl
  refine lv_iload_n hx hb dX11_compareWords_0 rfl (lv_at hl 0 rfl) ?_
  refine lv_iconst (v := I 5) hx hb dX11_compareWords_1 (by decide) ?_
  refine lv_bipush (v := I 6) hx hb dX11_compareWords_2 (by decide) ?_
  refine lv_iload_n hx hb dX11_compareWords_4 rfl (lv_at hl 0 rfl) ?_
  refine th_calli (va_runS (As := [.int (I w)]) (rest := [.int (I 6), .int (I 5), .int (I w)]) ⟨hx, hb, hml, hown, hts⟩ (w_lettersOf l G y b0 σ E hO w (show rng w from rw)) (va_cwS 1 hts gX11_compareWords_X11_lettersOf rfl rfl rfl (by decide +kernel) ⟨Nat.le_of_ble_eq_true rfl, Nat.le_of_ble_eq_true rfl⟩) (th_PS hK hH) rfl rfl hl.1 rfl (lv_room (Nat.le_of_ble_eq_true rfl)) dX11_compareWords_5 ⟨Nat.le_of_ble_eq_true rfl, Nat.le_of_ble_eq_true rfl⟩) hS (fun z_3 σ_s_2 H locs rz_3 hw_1 hH hS => ?_)
  obtain ⟨e9, hw_1⟩ := hw_1
  replace e9 := e9.symm
  subst e9
  have hw_1 : 0 ≤ z_3 ∧ z_3 ≤ 7 := hw_1
  refine lv_isub hx hb dX11_compareWords_8 ?_
  refine nq_top (I_sub _ _) ?_
  refine lv_imul hx hb dX11_compareWords_9 ?_
  refine nq_top (I_mul _ _) ?_
  refine lv_ishl hx hb dX11_compareWords_10 ?_
  refine th_topi (fun z_4 rz_4 => ?_)
  refine lv_istore_n (lv' := [(2, .int (I z_4)), (0, .int (I w)), (1, .int (I u))]) hx hb dX11_compareWords_11 rfl hl (by decide) rfl (fun ls hl => ?_)
  refine lv_iload_n hx hb dX11_compareWords_12 rfl (lv_at hl 2 rfl) ?_
  refine lv_iconst (v := I 5) hx hb dX11_compareWords_13 (by decide) ?_
  refine lv_bipush (v := I 6) hx hb dX11_compareWords_14 (by decide) ?_
  refine lv_iload_n hx hb dX11_compareWords_16 rfl (lv_at hl 2 rfl) ?_
  refine th_calli (va_runS (As := [.int (I u)]) (rest := [.int (I 6), .int (I 5), .int (I u)]) ⟨hx, hb, hml, hown, hts⟩ (w_lettersOf l G y b0 σ E hO u (show rng u from ru)) (va_cwS 1 hts gX11_compareWords_X11_lettersOf rfl rfl rfl (by decide +kernel) ⟨Nat.le_of_ble_eq_true rfl, Nat.le_of_ble_eq_true rfl⟩) (th_PS hK hH) rfl rfl hl.1 rfl (lv_room (Nat.le_of_ble_eq_true rfl)) dX11_compareWords_17 ⟨Nat.le_of_ble_eq_true rfl, Nat.le_of_ble_eq_true rfl⟩) hS (fun z_7 σ_s_6 H locs rz_7 hw_5 hH hS => ?_)
  obtain ⟨e9, hw_5⟩ := hw_5
  replace e9 := e9.symm
  subst e9
  have hw_5 : 0 ≤ z_7 ∧ z_7 ≤ 7 := hw_5
  refine lv_isub hx hb dX11_compareWords_20 ?_
  refine nq_top (I_sub _ _) ?_
  refine lv_imul hx hb dX11_compareWords_21 ?_
  refine nq_top (I_mul _ _) ?_
  refine lv_ishl hx hb dX11_compareWords_22 ?_
  refine th_topi (fun z_8 rz_8 => ?_)
  refine lv_istore_n (lv' := [(3, .int (I z_8)), (2, .int (I z_4)), (0, .int (I w)), (1, .int (I u))]) hx hb dX11_compareWords_23 rfl hl (by decide) rfl (fun ls hl => ?_)
  refine lv_iload_n hx hb dX11_compareWords_24 rfl (lv_at hl 1 rfl) ?_
  refine lv_iload_n hx hb dX11_compareWords_25 rfl (lv_at hl 0 rfl) ?_
  refine lv_icmp_ge (tgt := 33) hx hb dX11_compareWords_26 (by decide) (fun c_9 => ?_) (fun c_9 => ?_)
  · replace c_9 := (I_le (a := z_8) (b := z_4) rz_8 rz_4).mp c_9
    refine lv_iload_n hx hb dX11_compareWords_33 rfl (lv_at hl 1 rfl) ?_
    refine lv_iload_n hx hb dX11_compareWords_34 rfl (lv_at hl 0 rfl) ?_
    refine lv_icmp_le (tgt := 42) hx hb dX11_compareWords_35 (by decide) (fun c_10 => ?_) (fun c_10 => ?_)
    · replace c_10 := (I_le (a := z_4) (b := z_8) rz_4 rz_8).mp c_10
      refine lv_iconst (v := I 0) hx hb dX11_compareWords_42 (by decide) ?_
      exact th_iret hx hb hr hlocks hH hS (z := 0) (show rng 0 from ⟨by decide, by decide⟩) ⟨rfl, trivial⟩ dX11_compareWords_43
    · replace c_10 := mt (I_le (a := z_4) (b := z_8) rz_4 rz_8).mpr c_10
      refine lv_iconst (v := I 1) hx hb dX11_compareWords_38 (by decide) ?_
      refine lv_goto (tgt := 43) hx hb dX11_compareWords_39 (by decide) ?_
      exact th_iret hx hb hr hlocks hH hS (z := 1) (show rng 1 from ⟨by decide, by decide⟩) ⟨rfl, trivial⟩ dX11_compareWords_43
  · replace c_9 := mt (I_le (a := z_8) (b := z_4) rz_8 rz_4).mpr c_9
    refine lv_iconst (v := I (-1)) hx hb dX11_compareWords_29 (by decide) ?_
    refine lv_goto (tgt := 43) hx hb dX11_compareWords_30 (by decide) ?_
    exact th_iret hx hb hr hlocks hH hS (z := (-1)) (show rng (-1) from ⟨by decide, by decide⟩) ⟨rfl, trivial⟩ dX11_compareWords_43

set_option maxHeartbeats 4000000 in
set_option maxRecDepth 100000 in
theorem w_isSigned (l : Launch) (G : va_G) (y : Nat → ClassId) (b0 : Nat) (σ : th_M) (E : th_E) (hO : ok y E σ) (w : Int) (rw : rng w) (u : Int) (ru : rng u) : Met l yX11_isSigned wsX11_isSigned ({ frames := 0, cells := 0, slots := 0, locals := 0 }) (th_P G y b0 σ [.int (I w), .int (I u)]) (th_Qi G b0 (fun r σ1 => σ1 = σ ∧ (0 ≤ r ∧ r ≤ 1) ∧ (True))) 0 0 (th_A b0) := by
  refine Met.ofW (cc := cX11_isSigned) (maxL := 2) (ret := (some .boolean)) (by decide) rfl ?_
  intro p e s m args below meth c s₁ B hml hv
  obtain ⟨rfl, hH, hK⟩ := hv
  have hx := B.exec
  have hb := B.bytes
  have hr := B.returns
  have hts := atoms_spec (ws := wsX11_isSigned) B.pre
  have hown : s.vm.findClass RX11 = some m.cls := findClass_of_methodNamed B.named
  have hlocks := B.notSynchronized
  have h00 : b0 ≤ s.heap.size := hH.1
  have hS : va_S (th_A b0) s.heap s.heap [] := va_S.rf
  have hl := lv_entry ([.int (I w), .int (I u)]) (n := 2) (Nat.le_of_ble_eq_true rfl)
  rw [lg_entry_eq]
  generalize (lg_sl ([.int (I w), .int (I u)]) ++ List.replicate (2 - (lg_sl ([.int (I w), .int (I u)])).length) Slot.unset).toArray = ls at hl ⊢
  have hl : lv_has ls 2 [(0, .int (I w)), (1, .int (I u))] := hl
  refine lv_iload_n hx hb dX11_isSigned_0 rfl (lv_at hl 0 rfl) ?_
  refine lv_bipush (v := I 61) hx hb dX11_isSigned_1 (by decide) ?_
  refine lv_icmp_ne (tgt := 18) hx hb dX11_isSigned_3 (by decide) (fun c_1 => ?_) (fun c_1 => ?_)
  · replace c_1 := mt (I_eq (a := w) (b := 61) rw (show rng 61 from ⟨by decide, by decide⟩)).mpr c_1
    refine lv_iload_n hx hb dX11_isSigned_18 rfl (lv_at hl 0 rfl) ?_
    refine lv_bipush (v := I 60) hx hb dX11_isSigned_19 (by decide) ?_
    refine lv_icmp_ne (tgt := 36) hx hb dX11_isSigned_21 (by decide) (fun c_2 => ?_) (fun c_2 => ?_)
    · replace c_2 := mt (I_eq (a := w) (b := 60) rw (show rng 60 from ⟨by decide, by decide⟩)).mpr c_2
      refine lv_iload_n hx hb dX11_isSigned_36 rfl (lv_at hl 1 rfl) ?_
      refine lv_if_le (tgt := 44) hx hb dX11_isSigned_37 (by decide) (fun c_3 => ?_) (fun c_3 => ?_)
      · replace c_3 := (I_le (a := u) (b := 0) ru (show rng 0 from ⟨by decide, by decide⟩)).mp c_3
        refine lv_iconst (v := I 0) hx hb dX11_isSigned_44 (by decide) ?_
        exact th_zret hx hb hr hlocks hH hS (z := 0) (by omega) ⟨rfl, ⟨by omega, by omega⟩, trivial⟩ dX11_isSigned_45
      · replace c_3 := mt (I_le (a := u) (b := 0) ru (show rng 0 from ⟨by decide, by decide⟩)).mpr c_3
        refine lv_iconst (v := I 1) hx hb dX11_isSigned_40 (by decide) ?_
        refine lv_goto (tgt := 45) hx hb dX11_isSigned_41 (by decide) ?_
        exact th_zret hx hb hr hlocks hH hS (z := 1) (by omega) ⟨rfl, ⟨by omega, by omega⟩, trivial⟩ dX11_isSigned_45
    · replace c_2 := (I_eq (a := w) (b := 60) rw (show rng 60 from ⟨by decide, by decide⟩)).mp c_2
      refine lv_iload_n hx hb dX11_isSigned_24 rfl (lv_at hl 1 rfl) ?_
      refine lv_if_ge (tgt := 32) hx hb dX11_isSigned_25 (by decide) (fun c_4 => ?_) (fun c_4 => ?_)
      · replace c_4 := (I_le (a := 0) (b := u) (show rng 0 from ⟨by decide, by decide⟩) ru).mp c_4
        refine lv_iconst (v := I 0) hx hb dX11_isSigned_32 (by decide) ?_
        refine lv_goto (tgt := 45) hx hb dX11_isSigned_33 (by decide) ?_
        exact th_zret hx hb hr hlocks hH hS (z := 0) (by omega) ⟨rfl, ⟨by omega, by omega⟩, trivial⟩ dX11_isSigned_45
      · replace c_4 := mt (I_le (a := 0) (b := u) (show rng 0 from ⟨by decide, by decide⟩) ru).mpr c_4
        refine lv_iconst (v := I 1) hx hb dX11_isSigned_28 (by decide) ?_
        refine lv_goto (tgt := 45) hx hb dX11_isSigned_29 (by decide) ?_
        exact th_zret hx hb hr hlocks hH hS (z := 1) (by omega) ⟨rfl, ⟨by omega, by omega⟩, trivial⟩ dX11_isSigned_45
  · replace c_1 := (I_eq (a := w) (b := 61) rw (show rng 61 from ⟨by decide, by decide⟩)).mp c_1
    refine lv_iload_n hx hb dX11_isSigned_6 rfl (lv_at hl 1 rfl) ?_
    refine lv_if_ne (tgt := 14) hx hb dX11_isSigned_7 (by decide) (fun c_5 => ?_) (fun c_5 => ?_)
    · replace c_5 := mt (I_eq (a := u) (b := 0) ru (show rng 0 from ⟨by decide, by decide⟩)).mpr c_5
      refine lv_iconst (v := I 0) hx hb dX11_isSigned_14 (by decide) ?_
      refine lv_goto (tgt := 45) hx hb dX11_isSigned_15 (by decide) ?_
      exact th_zret hx hb hr hlocks hH hS (z := 0) (by omega) ⟨rfl, ⟨by omega, by omega⟩, trivial⟩ dX11_isSigned_45
    · replace c_5 := (I_eq (a := u) (b := 0) ru (show rng 0 from ⟨by decide, by decide⟩)).mp c_5
      refine lv_iconst (v := I 1) hx hb dX11_isSigned_10 (by decide) ?_
      refine lv_goto (tgt := 45) hx hb dX11_isSigned_11 (by decide) ?_
      exact th_zret hx hb hr hlocks hH hS (z := 1) (by omega) ⟨rfl, ⟨by omega, by omega⟩, trivial⟩ dX11_isSigned_45

set_option maxHeartbeats 4000000 in
set_option maxRecDepth 100000 in
theorem m_isMarkedX (l : Launch) (G : va_G) (y : Nat → ClassId) (b0 : Nat) (σ : th_M) (E : th_E) (hO : ok y E σ) (a : Nat) (h_a : kd E a = 13) (i : Int) (ri : rng i) (Bf : Int → Int) (hsr : sr E σ a Bf) (hy0 : 0 ≤ gI σ a 17 ∧ gI σ a 17 ≤ 400) : Met l yX11_isMarked wsX11_isMarked ({ frames := 1, cells := 0, slots := 0, locals := 25 }) (th_P G y b0 σ [.ref a, .int (I i)]) (th_Qi G b0 (fun r σ1 => σ1 = σ ∧ (0 ≤ r ∧ r ≤ 1) ∧ ((r = 1 ∧ mkd (gI σ a 19) (gI σ a 14) (Bf (gI σ a 17)) i) ∨ (r = 0 ∧ ¬ mkd (gI σ a 19) (gI σ a 14) (Bf (gI σ a 17)) i)))) 0 0 (th_A b0) := by
  refine Met.ofW (cc := cX11_isMarked) (maxL := 2) (ret := (some .boolean)) (by decide) rfl ?_
  intro p e s m args below meth c s₁ B hml hv
  obtain ⟨rfl, hH, hK⟩ := hv
  have hx := B.exec
  have hb := B.bytes
  have hr := B.returns
  have hts := atoms_spec (ws := wsX11_isMarked) B.pre
  have hown : s.vm.findClass RX11 = some m.cls := findClass_of_methodNamed B.named
  have hlocks := B.notSynchronized
  have h00 : b0 ≤ s.heap.size := hH.1
  have hS : va_S (th_A b0) s.heap s.heap [] := va_S.rf
  have inX11 : ∀ w ∈ wsX110, w ∈ wsX11_isMarked := by decide +kernel
  have fl0 := hts (.fieldLink RX11 162 "NestQueryModel" "bad" "I") (by decide +kernel)
  have fl1 := hts (.fieldLink RX11 136 "NestQueryModel" "token" "I") (by decide +kernel)
  have fl2 := hts (.fieldLink RX11 133 "NestQueryModel" "begins" "I") (by decide +kernel)
  have hl := lv_entry ([.ref a, .int (I i)]) (n := 2) (Nat.le_of_ble_eq_true rfl)
  rw [lg_entry_eq]
  generalize (lg_sl ([.ref a, .int (I i)]) ++ List.replicate (2 - (lg_sl ([.ref a, .int (I i)])).length) Slot.unset).toArray = ls at hl ⊢
  have hl : lv_has ls 2 [(0, .ref a), (1, .int (I i))] := hl
  obtain ⟨a170, ea170, ra170, la170, ua170⟩ := hO.gi h_a (by decide) k13_17
  refine lv_aload_n hx hb dX11_isMarked_0 rfl (lv_at hl 0 rfl) ?_
  refine ok.getI hO h_a (by decide) k13_19 (fun _ _ he hv kk => th_get (ci := 11) (C := RX11) (T := TX11) (N := 66) hx hb hts inX11 hown hK hH he rfl 19 (by decide) fl0 hv dX11_isMarked_1 kk) (fun z_1 e_2 rz_1 lz_1 uz_1 => ?_)
  refine lv_if_ne (tgt := 31) hx hb dX11_isMarked_4 (by decide) (fun c_3 => ?_) (fun c_3 => ?_)
  · replace c_3 := mt (I_eq (a := z_1) (b := 0) rz_1 (show rng 0 from ⟨by decide, by decide⟩)).mpr c_3
    refine lv_iconst (v := I 0) hx hb dX11_isMarked_31 (by decide) ?_
    exact th_zret hx hb hr hlocks hH hS (z := 0) (by omega) ⟨rfl, ⟨by omega, by omega⟩, by first | exact Or.inl ⟨rfl, by unfold mkd; rw [show gI σ a 17 = a170 by omega]; omega⟩ | exact Or.inr ⟨rfl, by unfold mkd; rw [show gI σ a 17 = a170 by omega]; omega⟩⟩ dX11_isMarked_32
  · replace c_3 := (I_eq (a := z_1) (b := 0) rz_1 (show rng 0 from ⟨by decide, by decide⟩)).mp c_3
    refine lv_aload_n hx hb dX11_isMarked_7 rfl (lv_at hl 0 rfl) ?_
    refine ok.getI hO h_a (by decide) k13_14 (fun _ _ he hv kk => th_get (ci := 11) (C := RX11) (T := TX11) (N := 66) hx hb hts inX11 hown hK hH he rfl 14 (by decide) fl1 hv dX11_isMarked_8 kk) (fun z_4 e_5 rz_4 lz_4 uz_4 => ?_)
    refine lv_iconst (v := I 3) hx hb dX11_isMarked_11 (by decide) ?_
    refine lv_icmp_ne (tgt := 31) hx hb dX11_isMarked_12 (by decide) (fun c_6 => ?_) (fun c_6 => ?_)
    · replace c_6 := mt (I_eq (a := z_4) (b := 3) rz_4 (show rng 3 from ⟨by decide, by decide⟩)).mpr c_6
      refine lv_iconst (v := I 0) hx hb dX11_isMarked_31 (by decide) ?_
      exact th_zret hx hb hr hlocks hH hS (z := 0) (by omega) ⟨rfl, ⟨by omega, by omega⟩, by first | exact Or.inl ⟨rfl, by unfold mkd; rw [show gI σ a 17 = a170 by omega]; omega⟩ | exact Or.inr ⟨rfl, by unfold mkd; rw [show gI σ a 17 = a170 by omega]; omega⟩⟩ dX11_isMarked_32
    · replace c_6 := (I_eq (a := z_4) (b := 3) rz_4 (show rng 3 from ⟨by decide, by decide⟩)).mp c_6
      refine lv_aload_n hx hb dX11_isMarked_15 rfl (lv_at hl 0 rfl) ?_
      refine lv_aload_n hx hb dX11_isMarked_16 rfl (lv_at hl 0 rfl) ?_
      refine ok.getIc hO h_a (by decide) k13_17 ea170 (fun _ _ he hv kk => th_get (ci := 11) (C := RX11) (T := TX11) (N := 66) hx hb hts inX11 hown hK hH he rfl 17 (by decide) fl2 hv dX11_isMarked_17 kk) ?_
      obtain ⟨_, hc_7⟩ := hO.cell h_a (by decide) (ci := 11) rfl
      refine th_calli (va_runV (As := [.int (I a170)]) (rest := []) ⟨hx, hb, hml, hown, hts⟩ (m_byteAt l G y b0 σ E hO a h_a a170 (show rng a170 from ra170) (by omega) (by omega) Bf hsr) (cwV 1 hts gX11_isMarked_X11_byteAt rfl rfl rfl (by decide +kernel) ⟨Nat.le_of_ble_eq_true rfl, Nat.le_of_ble_eq_true rfl⟩) (th_PV hK hH rfl hc_7) rfl rfl hl.1 rfl (lv_room (Nat.le_of_ble_eq_true rfl)) dX11_isMarked_20 ⟨Nat.le_of_ble_eq_true rfl, Nat.le_of_ble_eq_true rfl⟩) hS (fun z_10 σ_s_9 H locs rz_10 hw_8 hH hS => ?_)
      obtain ⟨e9, hw_8⟩ := hw_8
      replace e9 := e9.symm
      subst e9
      have hw_8 : z_10 = Bf a170 ∧ (z_10 = -1 ∨ a170 < gI σ a 11) := hw_8
      refine lv_iload_n hx hb dX11_isMarked_23 rfl (lv_at hl 1 rfl) ?_
      refine lv_icmp_ne (tgt := 31) hx hb dX11_isMarked_24 (by decide) (fun c_11 => ?_) (fun c_11 => ?_)
      · replace c_11 := mt (I_eq (a := z_10) (b := i) rz_10 ri).mpr c_11
        refine lv_iconst (v := I 0) hx hb dX11_isMarked_31 (by decide) ?_
        exact th_zret hx hb hr hlocks hH hS (z := 0) (by omega) ⟨rfl, ⟨by omega, by omega⟩, by first | exact Or.inl ⟨rfl, by unfold mkd; rw [show gI σ a 17 = a170 by omega]; omega⟩ | exact Or.inr ⟨rfl, by unfold mkd; rw [show gI σ a 17 = a170 by omega]; omega⟩⟩ dX11_isMarked_32
      · replace c_11 := (I_eq (a := z_10) (b := i) rz_10 ri).mp c_11
        refine lv_iconst (v := I 1) hx hb dX11_isMarked_27 (by decide) ?_
        refine lv_goto (tgt := 32) hx hb dX11_isMarked_28 (by decide) ?_
        exact th_zret hx hb hr hlocks hH hS (z := 1) (by omega) ⟨rfl, ⟨by omega, by omega⟩, by first | exact Or.inl ⟨rfl, by unfold mkd; rw [show gI σ a 17 = a170 by omega]; omega⟩ | exact Or.inr ⟨rfl, by unfold mkd; rw [show gI σ a 17 = a170 by omega]; omega⟩⟩ dX11_isMarked_32
