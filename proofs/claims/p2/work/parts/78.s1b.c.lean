set_option maxHeartbeats 4000000 in
set_option maxRecDepth 100000 in
theorem n_wrong (l : Launch) (G : va_G) (y : Nat → ClassId) (b0 : Nat) (σ : th_M) (E : th_E) (hO : ok y E σ) (a : Nat) (h_a : kd E a = 13) (i : Int) (ri : rng i) (l_i : 1 ≤ i) (u_i : i ≤ 3) (Bf : Int → Int) (hsr : sr E σ a Bf) (T : tkT) (hSt : tkSt Bf T) (fc jt : Int) (hR0 : RSt σ a T fc jt) : Met l yX11_wrong wsX11_wrong ({ frames := 0, cells := 0, slots := 0, locals := 0 }) (th_P G y b0 σ [.ref a, .int (I i)]) (th_Qv G b0 (fun σ1 => ok y E σ1 ∧ fr [13] E σ σ1 ∧ fm [19, 20] E σ σ1 a ∧ ((¬ gI σ1 a 19 = 0 ∧ (gI σ a 19 = 0 ∨ gI σ1 a 19 = gI σ a 19)) ∧ ∃ c1 j1, RSt σ1 a T c1 j1 ∧ (j1 = jt ∧ (fc = 0 → c1 = i) ∧ (fc ≠ 0 → c1 = fc))))) 0 0 (th_A b0) := by
  refine Met.ofW (cc := cX11_wrong) (maxL := 2) (ret := none) (by decide) rfl ?_
  intro p e s m args below meth c s₁ B hml hv
  obtain ⟨rfl, hH, hK⟩ := hv
  have hx := B.exec
  have hb := B.bytes
  have hr := B.returns
  have hts := atoms_spec (ws := wsX11_wrong) B.pre
  have hown : s.vm.findClass RX11 = some m.cls := findClass_of_methodNamed B.named
  have hlocks := B.notSynchronized
  have h00 : b0 ≤ s.heap.size := hH.1
  have hS : va_S (th_A b0) s.heap s.heap [] := va_S.rf
  have hF : fr [13] E σ σ := fr.rf
  have hM : fm [19, 20] E σ σ a := fm.rf
  have inX11 : ∀ w ∈ wsX110, w ∈ wsX11_wrong := by decide +kernel
  have fl0 := hts (.fieldLink RX11 162 "NestQueryModel" "bad" "I") (by decide +kernel)
  have fl1 := hts (.fieldLink RX11 133 "NestQueryModel" "begins" "I") (by decide +kernel)
  have fl2 := hts (.fieldLink RX11 165 "NestQueryModel" "badPlace" "I") (by decide +kernel)
  have hl := lv_entry ([.ref a, .int (I i)]) (n := 2) (Nat.le_of_ble_eq_true rfl)
  rw [lg_entry_eq]
  generalize (lg_sl ([.ref a, .int (I i)]) ++ List.replicate (2 - (lg_sl ([.ref a, .int (I i)])).length) Slot.unset).toArray = ls at hl ⊢
  have hl : lv_has ls 2 [(0, .ref a), (1, .int (I i))] := hl
  obtain ⟨a170, ea170, ra170, la170, ua170⟩ := hO.gi h_a (by decide) k13_17
  obtain ⟨a190, ea190, ra190, la190, ua190⟩ := hO.gi h_a (by decide) k13_19
  have hV0 := hR0.1
  refine lv_aload_n hx hb dX11_wrong_0 rfl (lv_at hl 0 rfl) ?_
  refine ok.getIc hO h_a (by decide) k13_19 ea190 (fun _ _ he hv kk => th_get (ci := 11) (C := RX11) (T := TX11) (N := 66) hx hb hts inX11 hown hK hH he rfl 19 (by decide) fl0 hv dX11_wrong_1 kk) ?_
  refine lv_if_eq (tgt := 8) hx hb dX11_wrong_4 (by decide) (fun c_1 => ?_) (fun c_1 => ?_)
  · replace c_1 := (I_eq (a := a190) (b := 0) ra190 (show rng 0 from ⟨by decide, by decide⟩)).mp c_1
    refine lv_aload_n hx hb dX11_wrong_8 rfl (lv_at hl 0 rfl) ?_
    refine lv_iload_n hx hb dX11_wrong_9 rfl (lv_at hl 1 rfl) ?_
    refine ok.putJ hO h_a k13_19 ri (by omega) (by omega) (fun _ he hl9 kk => th_put (ci := 11) (v := .int (I i)) (ty := .int) (C := RX11) (T := TX11) (N := 66) hx hb hts inX11 tyX11 tyX11_ok nmX11 hown hK hH hS h00 he rfl 19 (by decide) fl0 rfl (by decide +kernel) rfl rfl hl9 dX11_wrong_10 kk) (fun σ_s_2 H locs hO hF9 hM9 hg9 ha9 hH hS => ?_)
    replace hM := hM.tu hM9 (by decide)
    replace hF := hF.tu hF9 (by decide)
    have e_3 : gI σ_s_2 a 17 = a170 := (hM9.i (by decide)).trans ea170
    replace hsr := hsr.mv hM9 (by decide) (by decide) (by decide) (by decide) (by decide)
    have e_4 := hg9
    refine lv_aload_n hx hb dX11_wrong_13 rfl (lv_at hl 0 rfl) ?_
    refine lv_aload_n hx hb dX11_wrong_14 rfl (lv_at hl 0 rfl) ?_
    refine ok.getIc hO h_a (by decide) k13_17 e_3 (fun _ _ he hv kk => th_get (ci := 11) (C := RX11) (T := TX11) (N := 66) hx hb hts inX11 hown hK hH he rfl 17 (by decide) fl1 hv dX11_wrong_15 kk) ?_
    refine ok.putJ hO h_a k13_20 ra170 (by omega) (by omega) (fun _ he hl9 kk => th_put (ci := 11) (v := .int (I a170)) (ty := .int) (C := RX11) (T := TX11) (N := 66) hx hb hts inX11 tyX11 tyX11_ok nmX11 hown hK hH hS h00 he rfl 20 (by decide) fl2 rfl (by decide +kernel) rfl rfl hl9 dX11_wrong_18 kk) (fun σ_s_5 H locs hO hF9 hM9 hg9 ha9 hH hS => ?_)
    replace hM := hM.tu hM9 (by decide)
    replace hF := hF.tu hF9 (by decide)
    have e_6 : gI σ_s_5 a 17 = a170 := (hM9.i (by decide)).trans e_3
    have e_7 : gI σ_s_5 a 19 = i := (hM9.i (by decide)).trans e_4
    replace hsr := hsr.mv hM9 (by decide) (by decide) (by decide) (by decide) (by decide)
    have e_8 := hg9
    exact th_vret hx hb hr hlocks hH hS ⟨hO, hF, hM, ⟨⟨by omega, by omega⟩, i, jt, hR0.bad (by omega) (by omega) (by omega), rfl, by omega, by omega⟩⟩ dX11_wrong_21
  · replace c_1 := mt (I_eq (a := a190) (b := 0) ra190 (show rng 0 from ⟨by decide, by decide⟩)).mpr c_1
    exact th_vret hx hb hr hlocks hH hS ⟨hO, hF, hM, ⟨⟨by omega, by omega⟩, fc, jt, hR0, rfl, by omega, by omega⟩⟩ dX11_wrong_7

set_option maxHeartbeats 4000000 in
set_option maxRecDepth 100000 in
theorem n_isMarked (l : Launch) (G : va_G) (y : Nat → ClassId) (b0 : Nat) (σ : th_M) (E : th_E) (hO : ok y E σ) (a : Nat) (h_a : kd E a = 13) (i : Int) (ri : rng i) (l_i : 0 ≤ i) (u_i : i ≤ 255) (Bf : Int → Int) (hsr : sr E σ a Bf) (T : tkT) (hSt : tkSt Bf T) (fc jt : Int) (hR0 : RSt σ a T fc jt) (hy0 : 0 ≤ gI σ a 17 ∧ gI σ a 17 ≤ 400) : Met l yX11_isMarked wsX11_isMarked ({ frames := 1, cells := 0, slots := 0, locals := 25 }) (th_P G y b0 σ [.ref a, .int (I i)]) (th_Qi G b0 (fun r σ1 => σ1 = σ ∧ (0 ≤ r ∧ r ≤ 1) ∧ ((r = 1 ∧ fc = 0 ∧ tK T jt = i) ∨ (r = 0 ∧ (fc ≠ 0 ∨ tK T jt ≠ i))))) 0 0 (th_A b0) := by
  refine Met.ofW (cc := cX11_isMarked) (maxL := 2) (ret := (some .boolean)) (by decide) rfl ?_
  intro p e s m args below meth c s₁ B hml hv
  obtain ⟨rfl, hH, hK⟩ := hv
  have hx := B.exec
  have hb := B.bytes
  have hr := B.returns
  have hts := atoms_spec (ws := wsX11_isMarked) B.pre
  have hown : s.vm.findClass RX11 = some m.cls := findClass_of_methodNamed B.named
  have hlocks := B.notSynchronized
  have h00 : b0 ≤ s.heap.size := hH.1
  have hS : va_S (th_A b0) s.heap s.heap [] := va_S.rf
  have h39 := hR0.t3
  have hs9 := hR0.sign hSt
  have inX11 : ∀ w ∈ wsX110, w ∈ wsX11_isMarked := by decide +kernel
  have fl0 := hts (.fieldLink RX11 162 "NestQueryModel" "bad" "I") (by decide +kernel)
  have fl1 := hts (.fieldLink RX11 136 "NestQueryModel" "token" "I") (by decide +kernel)
  have fl2 := hts (.fieldLink RX11 133 "NestQueryModel" "begins" "I") (by decide +kernel)
  have hl := lv_entry ([.ref a, .int (I i)]) (n := 2) (Nat.le_of_ble_eq_true rfl)
  rw [lg_entry_eq]
  generalize (lg_sl ([.ref a, .int (I i)]) ++ List.replicate (2 - (lg_sl ([.ref a, .int (I i)])).length) Slot.unset).toArray = ls at hl ⊢
  have hl : lv_has ls 2 [(0, .ref a), (1, .int (I i))] := hl
  obtain ⟨a170, ea170, ra170, la170, ua170⟩ := hO.gi h_a (by decide) k13_17
  have hV0 := hR0.1
  refine lv_aload_n hx hb dX11_isMarked_0 rfl (lv_at hl 0 rfl) ?_
  refine ok.getI hO h_a (by decide) k13_19 (fun _ _ he hv kk => th_get (ci := 11) (C := RX11) (T := TX11) (N := 66) hx hb hts inX11 hown hK hH he rfl 19 (by decide) fl0 hv dX11_isMarked_1 kk) (fun z_1 e_2 rz_1 lz_1 uz_1 => ?_)
  refine lv_if_ne (tgt := 31) hx hb dX11_isMarked_4 (by decide) (fun c_3 => ?_) (fun c_3 => ?_)
  · replace c_3 := mt (I_eq (a := z_1) (b := 0) rz_1 (show rng 0 from ⟨by decide, by decide⟩)).mpr c_3
    refine lv_iconst (v := I 0) hx hb dX11_isMarked_31 (by decide) ?_
    exact th_zret hx hb hr hlocks hH hS (z := 0) (by omega) ⟨rfl, ⟨by omega, by omega⟩, by omega⟩ dX11_isMarked_32
  · replace c_3 := (I_eq (a := z_1) (b := 0) rz_1 (show rng 0 from ⟨by decide, by decide⟩)).mp c_3
    refine lv_aload_n hx hb dX11_isMarked_7 rfl (lv_at hl 0 rfl) ?_
    refine ok.getI hO h_a (by decide) k13_14 (fun _ _ he hv kk => th_get (ci := 11) (C := RX11) (T := TX11) (N := 66) hx hb hts inX11 hown hK hH he rfl 14 (by decide) fl1 hv dX11_isMarked_8 kk) (fun z_4 e_5 rz_4 lz_4 uz_4 => ?_)
    refine lv_iconst (v := I 3) hx hb dX11_isMarked_11 (by decide) ?_
    refine lv_icmp_ne (tgt := 31) hx hb dX11_isMarked_12 (by decide) (fun c_6 => ?_) (fun c_6 => ?_)
    · replace c_6 := mt (I_eq (a := z_4) (b := 3) rz_4 (show rng 3 from ⟨by decide, by decide⟩)).mpr c_6
      refine lv_iconst (v := I 0) hx hb dX11_isMarked_31 (by decide) ?_
      exact th_zret hx hb hr hlocks hH hS (z := 0) (by omega) ⟨rfl, ⟨by omega, by omega⟩, by omega⟩ dX11_isMarked_32
    · replace c_6 := (I_eq (a := z_4) (b := 3) rz_4 (show rng 3 from ⟨by decide, by decide⟩)).mp c_6
      refine lv_aload_n hx hb dX11_isMarked_15 rfl (lv_at hl 0 rfl) ?_
      refine lv_aload_n hx hb dX11_isMarked_16 rfl (lv_at hl 0 rfl) ?_
      refine ok.getIc hO h_a (by decide) k13_17 ea170 (fun _ _ he hv kk => th_get (ci := 11) (C := RX11) (T := TX11) (N := 66) hx hb hts inX11 hown hK hH he rfl 17 (by decide) fl2 hv dX11_isMarked_17 kk) ?_
      obtain ⟨_, hc_7⟩ := hO.cell h_a (by decide) (ci := 11) rfl
      refine th_calli (va_runV (As := [.int (I a170)]) (rest := []) ⟨hx, hb, hml, hown, hts⟩ (m_byteAt l G y b0 σ E hO a h_a a170 (show rng a170 from ra170) (by omega) (by omega) Bf hsr) (cwV 1 hts gX11_isMarked_X11_byteAt rfl rfl rfl (by decide +kernel) ⟨Nat.le_of_ble_eq_true rfl, Nat.le_of_ble_eq_true rfl⟩) (th_PV hK hH rfl hc_7) rfl rfl hl.1 rfl (lv_room (Nat.le_of_ble_eq_true rfl)) dX11_isMarked_20 ⟨Nat.le_of_ble_eq_true rfl, Nat.le_of_ble_eq_true rfl⟩) hS (fun z_10 σ_s_9 H locs rz_10 hw_8 hH hS => ?_)
      obtain ⟨e9, hw_8⟩ := hw_8
      replace e9 := e9.symm
      subst e9
      replace hw_8 : z_10 = Bf a170 ∧ (z_10 = -1 ∨ a170 < gI σ a 11) := hw_8
      refine lv_iload_n hx hb dX11_isMarked_23 rfl (lv_at hl 1 rfl) ?_
      refine lv_icmp_ne (tgt := 31) hx hb dX11_isMarked_24 (by decide) (fun c_11 => ?_) (fun c_11 => ?_)
      · replace c_11 := mt (I_eq (a := z_10) (b := i) rz_10 ri).mpr c_11
        refine lv_iconst (v := I 0) hx hb dX11_isMarked_31 (by decide) ?_
        exact th_zret hx hb hr hlocks hH hS (z := 0) (by omega) ⟨rfl, ⟨by omega, by omega⟩, (by have h9 := hw_8.1; have h8 : Bf a170 = Bf (gI σ a 17) := (by rw [show gI σ a 17 = a170 by omega]); omega)⟩ dX11_isMarked_32
      · replace c_11 := (I_eq (a := z_10) (b := i) rz_10 ri).mp c_11
        refine lv_iconst (v := I 1) hx hb dX11_isMarked_27 (by decide) ?_
        refine lv_goto (tgt := 32) hx hb dX11_isMarked_28 (by decide) ?_
        exact th_zret hx hb hr hlocks hH hS (z := 1) (by omega) ⟨rfl, ⟨by omega, by omega⟩, (by have h9 := hw_8.1; have h8 : Bf a170 = Bf (gI σ a 17) := (by rw [show gI σ a 17 = a170 by omega]); omega)⟩ dX11_isMarked_32

set_option maxHeartbeats 4000000 in
set_option maxRecDepth 100000 in
theorem n_pass (l : Launch) (G : va_G) (y : Nat → ClassId) (b0 : Nat) (σ : th_M) (E : th_E) (hO : ok y E σ) (a : Nat) (h_a : kd E a = 13) (Bf : Int → Int) (hsr : sr E σ a Bf) (T : tkT) (hSt : tkSt Bf T) (fc jt : Int) (hR0 : RSt σ a T fc jt) (hy0 : 0 ≤ gI σ a 17 ∧ gI σ a 17 ≤ gI σ a 13 ∧ gI σ a 13 ≤ gI σ a 11 ∧ gI σ a 11 ≤ 400) (hy1 : fc = 0 → tK T jt ≠ 259) : Met l yX11_pass wsX11_pass ({ frames := 2, cells := 0, slots := 0, locals := 66 }) (th_P G y b0 σ [.ref a]) (th_Qv G b0 (fun σ1 => ok y E σ1 ∧ fr [13] E σ σ1 ∧ fm [13, 14, 15, 16, 17, 18] E σ σ1 a ∧ (((gI σ a 13 ≤ gI σ1 a 13 ∧ gI σ1 a 13 ≤ gI σ a 11 ∧ 0 ≤ gI σ1 a 17 ∧ gI σ1 a 17 ≤ gI σ1 a 13) ∧ pgo (gI σ1 a 19) (gI σ1 a 14) (gI σ a 13) (gI σ1 a 13) ∧ gI σ1 a 19 = gI σ a 19) ∧ ∃ c1 j1, RSt σ1 a T c1 j1 ∧ (c1 = fc ∧ (fc ≠ 0 → j1 = jt) ∧ (fc = 0 → j1 = jt + 1))))) 0 0 (th_A b0) := by
  refine Met.ofW (cc := cX11_pass) (maxL := 1) (ret := none) (by decide) rfl ?_
  intro p e s m args below meth c s₁ B hml hv
  obtain ⟨rfl, hH, hK⟩ := hv
  have hx := B.exec
  have hb := B.bytes
  have hr := B.returns
  have hts := atoms_spec (ws := wsX11_pass) B.pre
  have hown : s.vm.findClass RX11 = some m.cls := findClass_of_methodNamed B.named
  have hlocks := B.notSynchronized
  have h00 : b0 ≤ s.heap.size := hH.1
  have hS : va_S (th_A b0) s.heap s.heap [] := va_S.rf
  have hF : fr [13] E σ σ := fr.rf
  have hM : fm [13, 14, 15, 16, 17, 18] E σ σ a := fm.rf
  have inX11 : ∀ w ∈ wsX110, w ∈ wsX11_pass := by decide +kernel
  have fl0 := hts (.fieldLink RX11 162 "NestQueryModel" "bad" "I") (by decide +kernel)
  have hl := lv_entry ([.ref a]) (n := 1) (Nat.le_of_ble_eq_true rfl)
  rw [lg_entry_eq]
  generalize (lg_sl ([.ref a]) ++ List.replicate (1 - (lg_sl ([.ref a])).length) Slot.unset).toArray = ls at hl ⊢
  have hl : lv_has ls 1 [(0, .ref a)] := hl
  obtain ⟨a110, ea110, ra110, la110, ua110⟩ := hO.gi h_a (by decide) k13_11
  obtain ⟨a130, ea130, ra130, la130, ua130⟩ := hO.gi h_a (by decide) k13_13
  obtain ⟨a140, ea140, ra140, la140, ua140⟩ := hO.gi h_a (by decide) k13_14
  obtain ⟨a170, ea170, ra170, la170, ua170⟩ := hO.gi h_a (by decide) k13_17
  obtain ⟨a190, ea190, ra190, la190, ua190⟩ := hO.gi h_a (by decide) k13_19
  have hV0 := hR0.1
  refine lv_aload_n hx hb dX11_pass_0 rfl (lv_at hl 0 rfl) ?_
  refine ok.getIc hO h_a (by decide) k13_19 ea190 (fun _ _ he hv kk => th_get (ci := 11) (C := RX11) (T := TX11) (N := 66) hx hb hts inX11 hown hK hH he rfl 19 (by decide) fl0 hv dX11_pass_1 kk) ?_
  refine lv_if_ne (tgt := 11) hx hb dX11_pass_4 (by decide) (fun c_1 => ?_) (fun c_1 => ?_)
  · replace c_1 := mt (I_eq (a := a190) (b := 0) ra190 (show rng 0 from ⟨by decide, by decide⟩)).mpr c_1
    exact th_vret hx hb hr hlocks hH hS ⟨hO, hF, hM, ⟨⟨by omega, pgo.of (by omega), by omega⟩, fc, jt, hR0, by omega, by omega, by omega⟩⟩ dX11_pass_11
  · replace c_1 := (I_eq (a := a190) (b := 0) ra190 (show rng 0 from ⟨by decide, by decide⟩)).mp c_1
    refine lv_aload_n hx hb dX11_pass_7 rfl (lv_at hl 0 rfl) ?_
    obtain ⟨_, hc_2⟩ := hO.cell h_a (by decide) (ci := 11) rfl
    refine th_callv (va_runV (As := []) (rest := []) ⟨hx, hb, hml, hown, hts⟩ (n_stepOn l G y b0 σ E hO a h_a Bf hsr (by omega) (hSt.1)) (cwV 0 hts gX11_pass_X11_stepOn rfl rfl rfl (by decide +kernel) ⟨Nat.le_of_ble_eq_true rfl, Nat.le_of_ble_eq_true rfl⟩) (th_PV hK hH rfl hc_2) rfl rfl hl.1 rfl (lv_room (Nat.le_of_ble_eq_true rfl)) dX11_pass_8 ⟨Nat.le_of_ble_eq_true rfl, Nat.le_of_ble_eq_true rfl⟩) hS (fun σ_s_4 H locs hw_3 hH hS => ?_)
    obtain ⟨hO9, hF9, hM9, hw_3⟩ := hw_3
    replace hM := hM.tu hM9 (by decide)
    replace hF := hF.tu hF9 (by decide)
    have e_5 : gI σ_s_4 a 11 = a110 := (hM9.i (by decide)).trans ea110
    have e_6 : gI σ_s_4 a 19 = a190 := (hM9.i (by decide)).trans ea190
    replace hsr := hsr.mv hM9 (by decide) (by decide) (by decide) (by decide) (by decide)
    replace hO := hO9
    replace hw_3 : (gI σ a 13 ≤ gI σ_s_4 a 13 ∧ gI σ_s_4 a 13 ≤ gI σ a 11 ∧ 0 ≤ gI σ_s_4 a 17 ∧ gI σ_s_4 a 17 ≤ gI σ_s_4 a 13 ∧ (gI σ_s_4 a 14 = 0 ∨ gI σ a 13 < gI σ_s_4 a 13)) ∧ rtok Bf σ_s_4 a (gI σ a 13) := hw_3
    exact th_vret hx hb hr hlocks hH hS ⟨hO, hF, hM, ⟨⟨by omega, pgo.of (by omega), by omega⟩, 0, jt + 1, RSt.next hSt (by rw [show (0 : Int) = fc by omega]; exact hR0) (hy1 (by omega)) hw_3.2 (by omega), by omega, by omega, by omega⟩⟩ dX11_pass_11

set_option maxHeartbeats 4000000 in
set_option maxRecDepth 100000 in
theorem n_need (l : Launch) (G : va_G) (y : Nat → ClassId) (b0 : Nat) (σ : th_M) (E : th_E) (hO : ok y E σ) (a : Nat) (h_a : kd E a = 13) (i : Int) (ri : rng i) (l_i : 0 ≤ i) (u_i : i ≤ 255) (Bf : Int → Int) (hsr : sr E σ a Bf) (T : tkT) (hSt : tkSt Bf T) (fc jt : Int) (hR0 : RSt σ a T fc jt) (hy0 : 0 ≤ gI σ a 17 ∧ gI σ a 17 ≤ gI σ a 13 ∧ gI σ a 13 ≤ gI σ a 11 ∧ gI σ a 11 ≤ 400) : Met l yX11_need wsX11_need ({ frames := 3, cells := 0, slots := 0, locals := 90 }) (th_P G y b0 σ [.ref a, .int (I i)]) (th_Qv G b0 (fun σ1 => ok y E σ1 ∧ fr [13] E σ σ1 ∧ fm [13, 14, 15, 16, 17, 18, 19, 20] E σ σ1 a ∧ (((gI σ a 13 ≤ gI σ1 a 13 ∧ gI σ1 a 13 ≤ gI σ a 11 ∧ 0 ≤ gI σ1 a 17 ∧ gI σ1 a 17 ≤ gI σ1 a 13) ∧ pgo (gI σ1 a 19) (gI σ1 a 14) (gI σ a 13) (gI σ1 a 13) ∧ bdo (gI σ a 19) (gI σ1 a 19)) ∧ ∃ c1 j1, RSt σ1 a T c1 j1 ∧ ((fc ≠ 0 → c1 = fc ∧ j1 = jt) ∧ (fc = 0 → (tK T jt = i ∧ c1 = 0 ∧ j1 = jt + 1) ∨ (tK T jt ≠ i ∧ c1 = 1 ∧ j1 = jt)))))) 0 0 (th_A b0) := by
  refine Met.ofW (cc := cX11_need) (maxL := 2) (ret := none) (by decide) rfl ?_
  intro p e s m args below meth c s₁ B hml hv
  obtain ⟨rfl, hH, hK⟩ := hv
  have hx := B.exec
  have hb := B.bytes
  have hr := B.returns
  have hts := atoms_spec (ws := wsX11_need) B.pre
  have hown : s.vm.findClass RX11 = some m.cls := findClass_of_methodNamed B.named
  have hlocks := B.notSynchronized
  have h00 : b0 ≤ s.heap.size := hH.1
  have hS : va_S (th_A b0) s.heap s.heap [] := va_S.rf
  have hF : fr [13] E σ σ := fr.rf
  have hM : fm [13, 14, 15, 16, 17, 18, 19, 20] E σ σ a := fm.rf
  have hl := lv_entry ([.ref a, .int (I i)]) (n := 2) (Nat.le_of_ble_eq_true rfl)
  rw [lg_entry_eq]
  generalize (lg_sl ([.ref a, .int (I i)]) ++ List.replicate (2 - (lg_sl ([.ref a, .int (I i)])).length) Slot.unset).toArray = ls at hl ⊢
  have hl : lv_has ls 2 [(0, .ref a), (1, .int (I i))] := hl
  obtain ⟨a110, ea110, ra110, la110, ua110⟩ := hO.gi h_a (by decide) k13_11
  obtain ⟨a130, ea130, ra130, la130, ua130⟩ := hO.gi h_a (by decide) k13_13
  obtain ⟨a140, ea140, ra140, la140, ua140⟩ := hO.gi h_a (by decide) k13_14
  obtain ⟨a170, ea170, ra170, la170, ua170⟩ := hO.gi h_a (by decide) k13_17
  obtain ⟨a190, ea190, ra190, la190, ua190⟩ := hO.gi h_a (by decide) k13_19
  have hV0 := hR0.1
  refine lv_aload_n hx hb dX11_need_0 rfl (lv_at hl 0 rfl) ?_
  refine lv_iload_n hx hb dX11_need_1 rfl (lv_at hl 1 rfl) ?_
  obtain ⟨_, hc_1⟩ := hO.cell h_a (by decide) (ci := 11) rfl
  refine th_calli (va_runV (As := [.int (I i)]) (rest := []) ⟨hx, hb, hml, hown, hts⟩ (n_isMarked l G y b0 σ E hO a h_a i (show rng i from ri) (by omega) (by omega) Bf hsr T hSt fc jt hR0 (by omega)) (cwV 1 hts gX11_need_X11_isMarked rfl rfl rfl (by decide +kernel) ⟨Nat.le_of_ble_eq_true rfl, Nat.le_of_ble_eq_true rfl⟩) (th_PV hK hH rfl hc_1) rfl rfl hl.1 rfl (lv_room (Nat.le_of_ble_eq_true rfl)) dX11_need_2 ⟨Nat.le_of_ble_eq_true rfl, Nat.le_of_ble_eq_true rfl⟩) hS (fun z_4 σ_s_3 H locs rz_4 hw_2 hH hS => ?_)
  obtain ⟨e9, bhw_2, hw_2⟩ := hw_2
  replace e9 := e9.symm
  subst e9
  replace hw_2 : (z_4 = 1 ∧ fc = 0 ∧ tK T jt = i) ∨ (z_4 = 0 ∧ (fc ≠ 0 ∨ tK T jt ≠ i)) := hw_2
  refine lv_if_ne (tgt := 13) hx hb dX11_need_5 (by decide) (fun c_5 => ?_) (fun c_5 => ?_)
  · replace c_5 := mt (I_eq (a := z_4) (b := 0) rz_4 (show rng 0 from ⟨by decide, by decide⟩)).mpr c_5
    refine lv_aload_n hx hb dX11_need_13 rfl (lv_at hl 0 rfl) ?_
    obtain ⟨_, hc_6⟩ := hO.cell h_a (by decide) (ci := 11) rfl
    refine th_callv (va_runV (As := []) (rest := []) ⟨hx, hb, hml, hown, hts⟩ (n_pass l G y b0 σ E hO a h_a Bf hsr T hSt fc jt hR0 (by omega) (by omega)) (cwV 0 hts gX11_need_X11_pass rfl rfl rfl (by decide +kernel) ⟨Nat.le_of_ble_eq_true rfl, Nat.le_of_ble_eq_true rfl⟩) (th_PV hK hH rfl hc_6) rfl rfl hl.1 rfl (lv_room (Nat.le_of_ble_eq_true rfl)) dX11_need_14 ⟨Nat.le_of_ble_eq_true rfl, Nat.le_of_ble_eq_true rfl⟩) hS (fun σ_s_8 H locs hw_7 hH hS => ?_)
    obtain ⟨hO9, hF9, hM9, hw_7⟩ := hw_7
    replace hM := hM.tu hM9 (by decide)
    replace hF := hF.tu hF9 (by decide)
    have e_9 : gI σ_s_8 a 11 = a110 := (hM9.i (by decide)).trans ea110
    have e_10 : gI σ_s_8 a 19 = a190 := (hM9.i (by decide)).trans ea190
    replace hsr := hsr.mv hM9 (by decide) (by decide) (by decide) (by decide) (by decide)
    replace hO := hO9
    replace hw_7 : ((gI σ a 13 ≤ gI σ_s_8 a 13 ∧ gI σ_s_8 a 13 ≤ gI σ a 11 ∧ 0 ≤ gI σ_s_8 a 17 ∧ gI σ_s_8 a 17 ≤ gI σ_s_8 a 13) ∧ pgo (gI σ_s_8 a 19) (gI σ_s_8 a 14) (gI σ a 13) (gI σ_s_8 a 13) ∧ gI σ_s_8 a 19 = gI σ a 19) ∧ ∃ c1 j1, RSt σ_s_8 a T c1 j1 ∧ (c1 = fc ∧ (fc ≠ 0 → j1 = jt) ∧ (fc = 0 → j1 = jt + 1)) := hw_7
    simp only [pgo, bdo] at hw_7
    have hn_11 := hw_7.2
    replace hw_7 := hw_7.1
    obtain ⟨cc_12, jj_13, hR_14, hn_11⟩ := hn_11
    have hVhR_14 := hR_14.1
    exact th_vret hx hb hr hlocks hH hS ⟨hO, hF, hM, ⟨⟨by omega, pgo.of (by omega), bdo.of (by omega)⟩, cc_12, jj_13, hR_14, by omega, by omega⟩⟩ dX11_need_17
  · replace c_5 := (I_eq (a := z_4) (b := 0) rz_4 (show rng 0 from ⟨by decide, by decide⟩)).mp c_5
    refine lv_aload_n hx hb dX11_need_8 rfl (lv_at hl 0 rfl) ?_
    refine lv_iconst (v := I 1) hx hb dX11_need_9 (by decide) ?_
    obtain ⟨_, hc_15⟩ := hO.cell h_a (by decide) (ci := 11) rfl
    refine th_callv (va_runV (As := [.int (I 1)]) (rest := []) ⟨hx, hb, hml, hown, hts⟩ (n_wrong l G y b0 σ E hO a h_a 1 (show rng 1 from (show rng 1 from ⟨by decide, by decide⟩)) (by omega) (by omega) Bf hsr T hSt fc jt hR0) (cwV 1 hts gX11_need_X11_wrong rfl rfl rfl (by decide +kernel) ⟨Nat.le_of_ble_eq_true rfl, Nat.le_of_ble_eq_true rfl⟩) (th_PV hK hH rfl hc_15) rfl rfl hl.1 rfl (lv_room (Nat.le_of_ble_eq_true rfl)) dX11_need_10 ⟨Nat.le_of_ble_eq_true rfl, Nat.le_of_ble_eq_true rfl⟩) hS (fun σ_s_17 H locs hw_16 hH hS => ?_)
    obtain ⟨hO9, hF9, hM9, hw_16⟩ := hw_16
    replace hM := hM.tu hM9 (by decide)
    replace hF := hF.tu hF9 (by decide)
    have e_18 : gI σ_s_17 a 11 = a110 := (hM9.i (by decide)).trans ea110
    have e_19 : gI σ_s_17 a 13 = a130 := (hM9.i (by decide)).trans ea130
    have e_20 : gI σ_s_17 a 14 = a140 := (hM9.i (by decide)).trans ea140
    have e_21 : gI σ_s_17 a 17 = a170 := (hM9.i (by decide)).trans ea170
    replace hsr := hsr.mv hM9 (by decide) (by decide) (by decide) (by decide) (by decide)
    replace hO := hO9
    replace hw_16 : (¬ gI σ_s_17 a 19 = 0 ∧ (gI σ a 19 = 0 ∨ gI σ_s_17 a 19 = gI σ a 19)) ∧ ∃ c1 j1, RSt σ_s_17 a T c1 j1 ∧ (j1 = jt ∧ (fc = 0 → c1 = 1) ∧ (fc ≠ 0 → c1 = fc)) := hw_16
    have hn_22 := hw_16.2
    replace hw_16 := hw_16.1
    obtain ⟨cc_23, jj_24, hR_25, hn_22⟩ := hn_22
    have hVhR_25 := hR_25.1
    have hj9 := hn_22.1.symm
    subst hj9
    refine lv_aload_n hx hb dX11_need_13 rfl (lv_at hl 0 rfl) ?_
    obtain ⟨_, hc_26⟩ := hO.cell h_a (by decide) (ci := 11) rfl
    refine th_callv (va_runV (As := []) (rest := []) ⟨hx, hb, hml, hown, hts⟩ (n_pass l G y b0 σ_s_17 E hO a h_a Bf hsr T hSt cc_23 jt hR_25 (by omega) (by omega)) (cwV 0 hts gX11_need_X11_pass rfl rfl rfl (by decide +kernel) ⟨Nat.le_of_ble_eq_true rfl, Nat.le_of_ble_eq_true rfl⟩) (th_PV hK hH rfl hc_26) rfl rfl hl.1 rfl (lv_room (Nat.le_of_ble_eq_true rfl)) dX11_need_14 ⟨Nat.le_of_ble_eq_true rfl, Nat.le_of_ble_eq_true rfl⟩) hS (fun σ_s_28 H locs hw_27 hH hS => ?_)
    obtain ⟨hO9, hF9, hM9, hw_27⟩ := hw_27
    replace hM := hM.tu hM9 (by decide)
    replace hF := hF.tu hF9 (by decide)
    have e_29 : gI σ_s_28 a 11 = a110 := (hM9.i (by decide)).trans e_18
    replace hsr := hsr.mv hM9 (by decide) (by decide) (by decide) (by decide) (by decide)
    replace hO := hO9
    replace hw_27 : ((gI σ_s_17 a 13 ≤ gI σ_s_28 a 13 ∧ gI σ_s_28 a 13 ≤ gI σ_s_17 a 11 ∧ 0 ≤ gI σ_s_28 a 17 ∧ gI σ_s_28 a 17 ≤ gI σ_s_28 a 13) ∧ pgo (gI σ_s_28 a 19) (gI σ_s_28 a 14) (gI σ_s_17 a 13) (gI σ_s_28 a 13) ∧ gI σ_s_28 a 19 = gI σ_s_17 a 19) ∧ ∃ c1 j1, RSt σ_s_28 a T c1 j1 ∧ (c1 = cc_23 ∧ (cc_23 ≠ 0 → j1 = jt) ∧ (cc_23 = 0 → j1 = jt + 1)) := hw_27
    simp only [pgo, bdo] at hw_27
    have hn_30 := hw_27.2
    replace hw_27 := hw_27.1
    obtain ⟨cc_31, jj_32, hR_33, hn_30⟩ := hn_30
    have hVhR_33 := hR_33.1
    exact th_vret hx hb hr hlocks hH hS ⟨hO, hF, hM, ⟨⟨by omega, pgo.of (by omega), bdo.of (by omega)⟩, cc_31, jj_32, hR_33, by omega, by omega⟩⟩ dX11_need_17

set_option maxHeartbeats 4000000 in
set_option maxRecDepth 100000 in
theorem n_readDigits (l : Launch) (G : va_G) (y : Nat → ClassId) (b0 : Nat) (σ : th_M) (E : th_E) (hO : ok y E σ) (a : Nat) (h_a : kd E a = 13) (Bf : Int → Int) (hsr : sr E σ a Bf) (T : tkT) (hSt : tkSt Bf T) (fc jt : Int) (hR0 : RSt σ a T fc jt) (hy0 : 0 ≤ gI σ a 17 ∧ gI σ a 17 ≤ gI σ a 13 ∧ gI σ a 13 ≤ gI σ a 11 ∧ gI σ a 11 ≤ 400) : Met l yX11_readDigits wsX11_readDigits ({ frames := 3, cells := 0, slots := 0, locals := 90 }) (th_P G y b0 σ [.ref a]) (th_Qi G b0 (fun r σ1 => ok y E σ1 ∧ fr [13] E σ σ1 ∧ fm [13, 14, 15, 16, 17, 18, 19, 20] E σ σ1 a ∧ (((gI σ a 13 ≤ gI σ1 a 13 ∧ gI σ1 a 13 ≤ gI σ a 11 ∧ 0 ≤ gI σ1 a 17 ∧ gI σ1 a 17 ≤ gI σ1 a 13) ∧ pgo (gI σ1 a 19) (gI σ1 a 14) (gI σ a 13) (gI σ1 a 13) ∧ bdo (gI σ a 19) (gI σ1 a 19)) ∧ ∃ c1 j1, RSt σ1 a T c1 j1 ∧ ((fc ≠ 0 → c1 = fc ∧ j1 = jt) ∧ (fc = 0 → (tK T jt ≠ 257 ∧ c1 = 1 ∧ j1 = jt) ∨ (tK T jt = 257 ∧ 3 < tL T jt ∧ c1 = 2 ∧ j1 = jt) ∨ (tK T jt = 257 ∧ tL T jt ≤ 3 ∧ c1 = 0 ∧ j1 = jt + 1)))))) 0 0 (th_A b0) := by
  refine Met.ofW (cc := cX11_readDigits) (maxL := 2) (ret := (some .int)) (by decide) rfl ?_
  intro p e s m args below meth c s₁ B hml hv
  obtain ⟨rfl, hH, hK⟩ := hv
  have hx := B.exec
  have hb := B.bytes
  have hr := B.returns
  have hts := atoms_spec (ws := wsX11_readDigits) B.pre
  have hown : s.vm.findClass RX11 = some m.cls := findClass_of_methodNamed B.named
  have hlocks := B.notSynchronized
  have h00 : b0 ≤ s.heap.size := hH.1
  have hS : va_S (th_A b0) s.heap s.heap [] := va_S.rf
  have hF : fr [13] E σ σ := fr.rf
  have hM : fm [13, 14, 15, 16, 17, 18, 19, 20] E σ σ a := fm.rf
  have h29 := hR0.t2
  have inX11 : ∀ w ∈ wsX110, w ∈ wsX11_readDigits := by decide +kernel
  have fl0 := hts (.fieldLink RX11 162 "NestQueryModel" "bad" "I") (by decide +kernel)
  have fl1 := hts (.fieldLink RX11 149 "NestQueryModel" "number" "I") (by decide +kernel)
  have fl2 := hts (.fieldLink RX11 159 "NestQueryModel" "stops" "I") (by decide +kernel)
  have fl3 := hts (.fieldLink RX11 133 "NestQueryModel" "begins" "I") (by decide +kernel)
  have fl4 := hts (.fieldLink RX11 136 "NestQueryModel" "token" "I") (by decide +kernel)
  have hl := lv_entry ([.ref a]) (n := 2) (Nat.le_of_ble_eq_true rfl)
  rw [lg_entry_eq]
  generalize (lg_sl ([.ref a]) ++ List.replicate (2 - (lg_sl ([.ref a])).length) Slot.unset).toArray = ls at hl ⊢
  have hl : lv_has ls 2 [(0, .ref a)] := hl
  obtain ⟨a110, ea110, ra110, la110, ua110⟩ := hO.gi h_a (by decide) k13_11
  obtain ⟨a130, ea130, ra130, la130, ua130⟩ := hO.gi h_a (by decide) k13_13
  obtain ⟨a140, ea140, ra140, la140, ua140⟩ := hO.gi h_a (by decide) k13_14
  obtain ⟨a170, ea170, ra170, la170, ua170⟩ := hO.gi h_a (by decide) k13_17
  obtain ⟨a190, ea190, ra190, la190, ua190⟩ := hO.gi h_a (by decide) k13_19
  have hV0 := hR0.1
  refine lv_aload_n hx hb dX11_readDigits_0 rfl (lv_at hl 0 rfl) ?_
  refine ok.getIc hO h_a (by decide) k13_19 ea190 (fun _ _ he hv kk => th_get (ci := 11) (C := RX11) (T := TX11) (N := 66) hx hb hts inX11 hown hK hH he rfl 19 (by decide) fl0 hv dX11_readDigits_1 kk) ?_
  refine lv_if_ne (tgt := 20) hx hb dX11_readDigits_4 (by decide) (fun c_1 => ?_) (fun c_1 => ?_)
  · replace c_1 := mt (I_eq (a := a190) (b := 0) ra190 (show rng 0 from ⟨by decide, by decide⟩)).mpr c_1
    refine lv_aload_n hx hb dX11_readDigits_20 rfl (lv_at hl 0 rfl) ?_
    refine ok.getIc hO h_a (by decide) k13_19 ea190 (fun _ _ he hv kk => th_get (ci := 11) (C := RX11) (T := TX11) (N := 66) hx hb hts inX11 hown hK hH he rfl 19 (by decide) fl0 hv dX11_readDigits_21 kk) ?_
    refine lv_if_ne (tgt := 45) hx hb dX11_readDigits_24 (by decide) (fun c_2 => ?_) (fun c_2 => ?_)
    · replace c_2 := mt (I_eq (a := a190) (b := 0) ra190 (show rng 0 from ⟨by decide, by decide⟩)).mpr c_2
      refine lv_aload_n hx hb dX11_readDigits_45 rfl (lv_at hl 0 rfl) ?_
      refine ok.getI hO h_a (by decide) k13_15 (fun _ _ he hv kk => th_get (ci := 11) (C := RX11) (T := TX11) (N := 66) hx hb hts inX11 hown hK hH he rfl 15 (by decide) fl1 hv dX11_readDigits_46 kk) (fun z_3 e_4 rz_3 lz_3 uz_3 => ?_)
      refine lv_istore_n (lv' := [(1, .int (I z_3)), (0, .ref a)]) hx hb dX11_readDigits_49 rfl hl (by decide) rfl (fun ls hl => ?_)
      refine lv_aload_n hx hb dX11_readDigits_50 rfl (lv_at hl 1 rfl) ?_
      obtain ⟨_, hc_5⟩ := hO.cell h_a (by decide) (ci := 11) rfl
      refine th_callv (va_runV (As := []) (rest := []) ⟨hx, hb, hml, hown, hts⟩ (n_pass l G y b0 σ E hO a h_a Bf hsr T hSt fc jt hR0 (by omega) (by omega)) (cwV 0 hts gX11_readDigits_X11_pass rfl rfl rfl (by decide +kernel) ⟨Nat.le_of_ble_eq_true rfl, Nat.le_of_ble_eq_true rfl⟩) (th_PV hK hH rfl hc_5) rfl rfl hl.1 rfl (lv_room (Nat.le_of_ble_eq_true rfl)) dX11_readDigits_51 ⟨Nat.le_of_ble_eq_true rfl, Nat.le_of_ble_eq_true rfl⟩) hS (fun σ_s_7 H locs hw_6 hH hS => ?_)
      obtain ⟨hO9, hF9, hM9, hw_6⟩ := hw_6
      replace hM := hM.tu hM9 (by decide)
      replace hF := hF.tu hF9 (by decide)
      have e_8 : gI σ_s_7 a 11 = a110 := (hM9.i (by decide)).trans ea110
      have e_9 : gI σ_s_7 a 19 = a190 := (hM9.i (by decide)).trans ea190
      replace hsr := hsr.mv hM9 (by decide) (by decide) (by decide) (by decide) (by decide)
      replace hO := hO9
      replace hw_6 : ((gI σ a 13 ≤ gI σ_s_7 a 13 ∧ gI σ_s_7 a 13 ≤ gI σ a 11 ∧ 0 ≤ gI σ_s_7 a 17 ∧ gI σ_s_7 a 17 ≤ gI σ_s_7 a 13) ∧ pgo (gI σ_s_7 a 19) (gI σ_s_7 a 14) (gI σ a 13) (gI σ_s_7 a 13) ∧ gI σ_s_7 a 19 = gI σ a 19) ∧ ∃ c1 j1, RSt σ_s_7 a T c1 j1 ∧ (c1 = fc ∧ (fc ≠ 0 → j1 = jt) ∧ (fc = 0 → j1 = jt + 1)) := hw_6
      simp only [pgo, bdo] at hw_6
      have hn_10 := hw_6.2
      replace hw_6 := hw_6.1
      obtain ⟨cc_11, jj_12, hR_13, hn_10⟩ := hn_10
      have hVhR_13 := hR_13.1
      refine lv_iload_n hx hb dX11_readDigits_54 rfl (lv_at hl 0 rfl) ?_
      exact th_iret hx hb hr hlocks hH hS (z := z_3) rz_3 ⟨hO, hF, hM, ⟨⟨by omega, pgo.of (by omega), bdo.of (by omega)⟩, cc_11, jj_12, hR_13, by omega, by omega⟩⟩ dX11_readDigits_55
    · replace c_2 := (I_eq (a := a190) (b := 0) ra190 (show rng 0 from ⟨by decide, by decide⟩)).mp c_2
      refine lv_aload_n hx hb dX11_readDigits_27 rfl (lv_at hl 0 rfl) ?_
      refine ok.getI hO h_a (by decide) k13_18 (fun _ _ he hv kk => th_get (ci := 11) (C := RX11) (T := TX11) (N := 66) hx hb hts inX11 hown hK hH he rfl 18 (by decide) fl2 hv dX11_readDigits_28 kk) (fun z_14 e_15 rz_14 lz_14 uz_14 => ?_)
      refine lv_aload_n hx hb dX11_readDigits_31 rfl (lv_at hl 0 rfl) ?_
      refine ok.getIc hO h_a (by decide) k13_17 ea170 (fun _ _ he hv kk => th_get (ci := 11) (C := RX11) (T := TX11) (N := 66) hx hb hts inX11 hown hK hH he rfl 17 (by decide) fl3 hv dX11_readDigits_32 kk) ?_
      refine lv_isub hx hb dX11_readDigits_35 ?_
      refine th_subo (fun z_16 rz_16 hz_16 => ?_)
      refine lv_iconst (v := I 3) hx hb dX11_readDigits_36 (by decide) ?_
      refine lv_icmp_le (tgt := 45) hx hb dX11_readDigits_37 (by decide) (fun c_17 => ?_) (fun c_17 => ?_)
      · replace c_17 := (I_le (a := z_16) (b := 3) rz_16 (show rng 3 from ⟨by decide, by decide⟩)).mp c_17
        refine lv_aload_n hx hb dX11_readDigits_45 rfl (lv_at hl 0 rfl) ?_
        refine ok.getI hO h_a (by decide) k13_15 (fun _ _ he hv kk => th_get (ci := 11) (C := RX11) (T := TX11) (N := 66) hx hb hts inX11 hown hK hH he rfl 15 (by decide) fl1 hv dX11_readDigits_46 kk) (fun z_18 e_19 rz_18 lz_18 uz_18 => ?_)
        refine lv_istore_n (lv' := [(1, .int (I z_18)), (0, .ref a)]) hx hb dX11_readDigits_49 rfl hl (by decide) rfl (fun ls hl => ?_)
        refine lv_aload_n hx hb dX11_readDigits_50 rfl (lv_at hl 1 rfl) ?_
        obtain ⟨_, hc_20⟩ := hO.cell h_a (by decide) (ci := 11) rfl
        refine th_callv (va_runV (As := []) (rest := []) ⟨hx, hb, hml, hown, hts⟩ (n_pass l G y b0 σ E hO a h_a Bf hsr T hSt fc jt hR0 (by omega) (by omega)) (cwV 0 hts gX11_readDigits_X11_pass rfl rfl rfl (by decide +kernel) ⟨Nat.le_of_ble_eq_true rfl, Nat.le_of_ble_eq_true rfl⟩) (th_PV hK hH rfl hc_20) rfl rfl hl.1 rfl (lv_room (Nat.le_of_ble_eq_true rfl)) dX11_readDigits_51 ⟨Nat.le_of_ble_eq_true rfl, Nat.le_of_ble_eq_true rfl⟩) hS (fun σ_s_22 H locs hw_21 hH hS => ?_)
        obtain ⟨hO9, hF9, hM9, hw_21⟩ := hw_21
        replace hM := hM.tu hM9 (by decide)
        replace hF := hF.tu hF9 (by decide)
        have e_23 : gI σ_s_22 a 11 = a110 := (hM9.i (by decide)).trans ea110
        have e_24 : gI σ_s_22 a 19 = a190 := (hM9.i (by decide)).trans ea190
        replace hsr := hsr.mv hM9 (by decide) (by decide) (by decide) (by decide) (by decide)
        replace hO := hO9
        replace hw_21 : ((gI σ a 13 ≤ gI σ_s_22 a 13 ∧ gI σ_s_22 a 13 ≤ gI σ a 11 ∧ 0 ≤ gI σ_s_22 a 17 ∧ gI σ_s_22 a 17 ≤ gI σ_s_22 a 13) ∧ pgo (gI σ_s_22 a 19) (gI σ_s_22 a 14) (gI σ a 13) (gI σ_s_22 a 13) ∧ gI σ_s_22 a 19 = gI σ a 19) ∧ ∃ c1 j1, RSt σ_s_22 a T c1 j1 ∧ (c1 = fc ∧ (fc ≠ 0 → j1 = jt) ∧ (fc = 0 → j1 = jt + 1)) := hw_21
        simp only [pgo, bdo] at hw_21
        have hn_25 := hw_21.2
        replace hw_21 := hw_21.1
        obtain ⟨cc_26, jj_27, hR_28, hn_25⟩ := hn_25
        have hVhR_28 := hR_28.1
        refine lv_iload_n hx hb dX11_readDigits_54 rfl (lv_at hl 0 rfl) ?_
        exact th_iret hx hb hr hlocks hH hS (z := z_18) rz_18 ⟨hO, hF, hM, ⟨⟨by omega, pgo.of (by omega), bdo.of (by omega)⟩, cc_26, jj_27, hR_28, by omega, by omega⟩⟩ dX11_readDigits_55
      · replace c_17 := mt (I_le (a := z_16) (b := 3) rz_16 (show rng 3 from ⟨by decide, by decide⟩)).mpr c_17
        refine lv_aload_n hx hb dX11_readDigits_40 rfl (lv_at hl 0 rfl) ?_
        refine lv_iconst (v := I 2) hx hb dX11_readDigits_41 (by decide) ?_
        obtain ⟨_, hc_29⟩ := hO.cell h_a (by decide) (ci := 11) rfl
        refine th_callv (va_runV (As := [.int (I 2)]) (rest := []) ⟨hx, hb, hml, hown, hts⟩ (n_wrong l G y b0 σ E hO a h_a 2 (show rng 2 from (show rng 2 from ⟨by decide, by decide⟩)) (by omega) (by omega) Bf hsr T hSt fc jt hR0) (cwV 1 hts gX11_readDigits_X11_wrong rfl rfl rfl (by decide +kernel) ⟨Nat.le_of_ble_eq_true rfl, Nat.le_of_ble_eq_true rfl⟩) (th_PV hK hH rfl hc_29) rfl rfl hl.1 rfl (lv_room (Nat.le_of_ble_eq_true rfl)) dX11_readDigits_42 ⟨Nat.le_of_ble_eq_true rfl, Nat.le_of_ble_eq_true rfl⟩) hS (fun σ_s_31 H locs hw_30 hH hS => ?_)
        obtain ⟨hO9, hF9, hM9, hw_30⟩ := hw_30
        replace hM := hM.tu hM9 (by decide)
        replace hF := hF.tu hF9 (by decide)
        have e_32 : gI σ_s_31 a 11 = a110 := (hM9.i (by decide)).trans ea110
        have e_33 : gI σ_s_31 a 13 = a130 := (hM9.i (by decide)).trans ea130
        have e_34 : gI σ_s_31 a 14 = a140 := (hM9.i (by decide)).trans ea140
        have e_35 : gI σ_s_31 a 17 = a170 := (hM9.i (by decide)).trans ea170
        have e_36 : gI σ_s_31 a 18 = z_14 := (hM9.i (by decide)).trans e_15
        replace hsr := hsr.mv hM9 (by decide) (by decide) (by decide) (by decide) (by decide)
        replace hO := hO9
        replace hw_30 : (¬ gI σ_s_31 a 19 = 0 ∧ (gI σ a 19 = 0 ∨ gI σ_s_31 a 19 = gI σ a 19)) ∧ ∃ c1 j1, RSt σ_s_31 a T c1 j1 ∧ (j1 = jt ∧ (fc = 0 → c1 = 2) ∧ (fc ≠ 0 → c1 = fc)) := hw_30
        have hn_37 := hw_30.2
        replace hw_30 := hw_30.1
        obtain ⟨cc_38, jj_39, hR_40, hn_37⟩ := hn_37
        have hVhR_40 := hR_40.1
        have hj9 := hn_37.1.symm
        subst hj9
        refine lv_aload_n hx hb dX11_readDigits_45 rfl (lv_at hl 0 rfl) ?_
        refine ok.getI hO h_a (by decide) k13_15 (fun _ _ he hv kk => th_get (ci := 11) (C := RX11) (T := TX11) (N := 66) hx hb hts inX11 hown hK hH he rfl 15 (by decide) fl1 hv dX11_readDigits_46 kk) (fun z_41 e_42 rz_41 lz_41 uz_41 => ?_)
        refine lv_istore_n (lv' := [(1, .int (I z_41)), (0, .ref a)]) hx hb dX11_readDigits_49 rfl hl (by decide) rfl (fun ls hl => ?_)
        refine lv_aload_n hx hb dX11_readDigits_50 rfl (lv_at hl 1 rfl) ?_
        obtain ⟨_, hc_43⟩ := hO.cell h_a (by decide) (ci := 11) rfl
        refine th_callv (va_runV (As := []) (rest := []) ⟨hx, hb, hml, hown, hts⟩ (n_pass l G y b0 σ_s_31 E hO a h_a Bf hsr T hSt cc_38 jt hR_40 (by omega) (by omega)) (cwV 0 hts gX11_readDigits_X11_pass rfl rfl rfl (by decide +kernel) ⟨Nat.le_of_ble_eq_true rfl, Nat.le_of_ble_eq_true rfl⟩) (th_PV hK hH rfl hc_43) rfl rfl hl.1 rfl (lv_room (Nat.le_of_ble_eq_true rfl)) dX11_readDigits_51 ⟨Nat.le_of_ble_eq_true rfl, Nat.le_of_ble_eq_true rfl⟩) hS (fun σ_s_45 H locs hw_44 hH hS => ?_)
        obtain ⟨hO9, hF9, hM9, hw_44⟩ := hw_44
        replace hM := hM.tu hM9 (by decide)
        replace hF := hF.tu hF9 (by decide)
        have e_46 : gI σ_s_45 a 11 = a110 := (hM9.i (by decide)).trans e_32
        replace hsr := hsr.mv hM9 (by decide) (by decide) (by decide) (by decide) (by decide)
        replace hO := hO9
        replace hw_44 : ((gI σ_s_31 a 13 ≤ gI σ_s_45 a 13 ∧ gI σ_s_45 a 13 ≤ gI σ_s_31 a 11 ∧ 0 ≤ gI σ_s_45 a 17 ∧ gI σ_s_45 a 17 ≤ gI σ_s_45 a 13) ∧ pgo (gI σ_s_45 a 19) (gI σ_s_45 a 14) (gI σ_s_31 a 13) (gI σ_s_45 a 13) ∧ gI σ_s_45 a 19 = gI σ_s_31 a 19) ∧ ∃ c1 j1, RSt σ_s_45 a T c1 j1 ∧ (c1 = cc_38 ∧ (cc_38 ≠ 0 → j1 = jt) ∧ (cc_38 = 0 → j1 = jt + 1)) := hw_44
        simp only [pgo, bdo] at hw_44
        have hn_47 := hw_44.2
        replace hw_44 := hw_44.1
        obtain ⟨cc_48, jj_49, hR_50, hn_47⟩ := hn_47
        have hVhR_50 := hR_50.1
        refine lv_iload_n hx hb dX11_readDigits_54 rfl (lv_at hl 0 rfl) ?_
        exact th_iret hx hb hr hlocks hH hS (z := z_41) rz_41 ⟨hO, hF, hM, ⟨⟨by omega, pgo.of (by omega), bdo.of (by omega)⟩, cc_48, jj_49, hR_50, by omega, by omega⟩⟩ dX11_readDigits_55
  · replace c_1 := (I_eq (a := a190) (b := 0) ra190 (show rng 0 from ⟨by decide, by decide⟩)).mp c_1
    refine lv_aload_n hx hb dX11_readDigits_7 rfl (lv_at hl 0 rfl) ?_
    refine ok.getIc hO h_a (by decide) k13_14 ea140 (fun _ _ he hv kk => th_get (ci := 11) (C := RX11) (T := TX11) (N := 66) hx hb hts inX11 hown hK hH he rfl 14 (by decide) fl4 hv dX11_readDigits_8 kk) ?_
    refine lv_iconst (v := I 2) hx hb dX11_readDigits_11 (by decide) ?_
    refine lv_icmp_eq (tgt := 20) hx hb dX11_readDigits_12 (by decide) (fun c_51 => ?_) (fun c_51 => ?_)
    · replace c_51 := (I_eq (a := a140) (b := 2) ra140 (show rng 2 from ⟨by decide, by decide⟩)).mp c_51
      refine lv_aload_n hx hb dX11_readDigits_20 rfl (lv_at hl 0 rfl) ?_
      refine ok.getIc hO h_a (by decide) k13_19 ea190 (fun _ _ he hv kk => th_get (ci := 11) (C := RX11) (T := TX11) (N := 66) hx hb hts inX11 hown hK hH he rfl 19 (by decide) fl0 hv dX11_readDigits_21 kk) ?_
      refine lv_if_ne (tgt := 45) hx hb dX11_readDigits_24 (by decide) (fun c_52 => ?_) (fun c_52 => ?_)
      · replace c_52 := mt (I_eq (a := a190) (b := 0) ra190 (show rng 0 from ⟨by decide, by decide⟩)).mpr c_52
        refine lv_aload_n hx hb dX11_readDigits_45 rfl (lv_at hl 0 rfl) ?_
        refine ok.getI hO h_a (by decide) k13_15 (fun _ _ he hv kk => th_get (ci := 11) (C := RX11) (T := TX11) (N := 66) hx hb hts inX11 hown hK hH he rfl 15 (by decide) fl1 hv dX11_readDigits_46 kk) (fun z_53 e_54 rz_53 lz_53 uz_53 => ?_)
        refine lv_istore_n (lv' := [(1, .int (I z_53)), (0, .ref a)]) hx hb dX11_readDigits_49 rfl hl (by decide) rfl (fun ls hl => ?_)
        refine lv_aload_n hx hb dX11_readDigits_50 rfl (lv_at hl 1 rfl) ?_
        obtain ⟨_, hc_55⟩ := hO.cell h_a (by decide) (ci := 11) rfl
        refine th_callv (va_runV (As := []) (rest := []) ⟨hx, hb, hml, hown, hts⟩ (n_pass l G y b0 σ E hO a h_a Bf hsr T hSt fc jt hR0 (by omega) (by omega)) (cwV 0 hts gX11_readDigits_X11_pass rfl rfl rfl (by decide +kernel) ⟨Nat.le_of_ble_eq_true rfl, Nat.le_of_ble_eq_true rfl⟩) (th_PV hK hH rfl hc_55) rfl rfl hl.1 rfl (lv_room (Nat.le_of_ble_eq_true rfl)) dX11_readDigits_51 ⟨Nat.le_of_ble_eq_true rfl, Nat.le_of_ble_eq_true rfl⟩) hS (fun σ_s_57 H locs hw_56 hH hS => ?_)
        obtain ⟨hO9, hF9, hM9, hw_56⟩ := hw_56
        replace hM := hM.tu hM9 (by decide)
        replace hF := hF.tu hF9 (by decide)
        have e_58 : gI σ_s_57 a 11 = a110 := (hM9.i (by decide)).trans ea110
        have e_59 : gI σ_s_57 a 19 = a190 := (hM9.i (by decide)).trans ea190
        replace hsr := hsr.mv hM9 (by decide) (by decide) (by decide) (by decide) (by decide)
        replace hO := hO9
        replace hw_56 : ((gI σ a 13 ≤ gI σ_s_57 a 13 ∧ gI σ_s_57 a 13 ≤ gI σ a 11 ∧ 0 ≤ gI σ_s_57 a 17 ∧ gI σ_s_57 a 17 ≤ gI σ_s_57 a 13) ∧ pgo (gI σ_s_57 a 19) (gI σ_s_57 a 14) (gI σ a 13) (gI σ_s_57 a 13) ∧ gI σ_s_57 a 19 = gI σ a 19) ∧ ∃ c1 j1, RSt σ_s_57 a T c1 j1 ∧ (c1 = fc ∧ (fc ≠ 0 → j1 = jt) ∧ (fc = 0 → j1 = jt + 1)) := hw_56
        simp only [pgo, bdo] at hw_56
        have hn_60 := hw_56.2
        replace hw_56 := hw_56.1
        obtain ⟨cc_61, jj_62, hR_63, hn_60⟩ := hn_60
        have hVhR_63 := hR_63.1
        refine lv_iload_n hx hb dX11_readDigits_54 rfl (lv_at hl 0 rfl) ?_
        exact th_iret hx hb hr hlocks hH hS (z := z_53) rz_53 ⟨hO, hF, hM, ⟨⟨by omega, pgo.of (by omega), bdo.of (by omega)⟩, cc_61, jj_62, hR_63, by omega, by omega⟩⟩ dX11_readDigits_55
      · replace c_52 := (I_eq (a := a190) (b := 0) ra190 (show rng 0 from ⟨by decide, by decide⟩)).mp c_52
        refine lv_aload_n hx hb dX11_readDigits_27 rfl (lv_at hl 0 rfl) ?_
        refine ok.getI hO h_a (by decide) k13_18 (fun _ _ he hv kk => th_get (ci := 11) (C := RX11) (T := TX11) (N := 66) hx hb hts inX11 hown hK hH he rfl 18 (by decide) fl2 hv dX11_readDigits_28 kk) (fun z_64 e_65 rz_64 lz_64 uz_64 => ?_)
        refine lv_aload_n hx hb dX11_readDigits_31 rfl (lv_at hl 0 rfl) ?_
        refine ok.getIc hO h_a (by decide) k13_17 ea170 (fun _ _ he hv kk => th_get (ci := 11) (C := RX11) (T := TX11) (N := 66) hx hb hts inX11 hown hK hH he rfl 17 (by decide) fl3 hv dX11_readDigits_32 kk) ?_
        refine lv_isub hx hb dX11_readDigits_35 ?_
        refine th_subo (fun z_66 rz_66 hz_66 => ?_)
        refine lv_iconst (v := I 3) hx hb dX11_readDigits_36 (by decide) ?_
        refine lv_icmp_le (tgt := 45) hx hb dX11_readDigits_37 (by decide) (fun c_67 => ?_) (fun c_67 => ?_)
        · replace c_67 := (I_le (a := z_66) (b := 3) rz_66 (show rng 3 from ⟨by decide, by decide⟩)).mp c_67
          refine lv_aload_n hx hb dX11_readDigits_45 rfl (lv_at hl 0 rfl) ?_
          refine ok.getI hO h_a (by decide) k13_15 (fun _ _ he hv kk => th_get (ci := 11) (C := RX11) (T := TX11) (N := 66) hx hb hts inX11 hown hK hH he rfl 15 (by decide) fl1 hv dX11_readDigits_46 kk) (fun z_68 e_69 rz_68 lz_68 uz_68 => ?_)
          refine lv_istore_n (lv' := [(1, .int (I z_68)), (0, .ref a)]) hx hb dX11_readDigits_49 rfl hl (by decide) rfl (fun ls hl => ?_)
          refine lv_aload_n hx hb dX11_readDigits_50 rfl (lv_at hl 1 rfl) ?_
          obtain ⟨_, hc_70⟩ := hO.cell h_a (by decide) (ci := 11) rfl
          refine th_callv (va_runV (As := []) (rest := []) ⟨hx, hb, hml, hown, hts⟩ (n_pass l G y b0 σ E hO a h_a Bf hsr T hSt fc jt hR0 (by omega) (by omega)) (cwV 0 hts gX11_readDigits_X11_pass rfl rfl rfl (by decide +kernel) ⟨Nat.le_of_ble_eq_true rfl, Nat.le_of_ble_eq_true rfl⟩) (th_PV hK hH rfl hc_70) rfl rfl hl.1 rfl (lv_room (Nat.le_of_ble_eq_true rfl)) dX11_readDigits_51 ⟨Nat.le_of_ble_eq_true rfl, Nat.le_of_ble_eq_true rfl⟩) hS (fun σ_s_72 H locs hw_71 hH hS => ?_)
          obtain ⟨hO9, hF9, hM9, hw_71⟩ := hw_71
          replace hM := hM.tu hM9 (by decide)
          replace hF := hF.tu hF9 (by decide)
          have e_73 : gI σ_s_72 a 11 = a110 := (hM9.i (by decide)).trans ea110
          have e_74 : gI σ_s_72 a 19 = a190 := (hM9.i (by decide)).trans ea190
          replace hsr := hsr.mv hM9 (by decide) (by decide) (by decide) (by decide) (by decide)
          replace hO := hO9
          replace hw_71 : ((gI σ a 13 ≤ gI σ_s_72 a 13 ∧ gI σ_s_72 a 13 ≤ gI σ a 11 ∧ 0 ≤ gI σ_s_72 a 17 ∧ gI σ_s_72 a 17 ≤ gI σ_s_72 a 13) ∧ pgo (gI σ_s_72 a 19) (gI σ_s_72 a 14) (gI σ a 13) (gI σ_s_72 a 13) ∧ gI σ_s_72 a 19 = gI σ a 19) ∧ ∃ c1 j1, RSt σ_s_72 a T c1 j1 ∧ (c1 = fc ∧ (fc ≠ 0 → j1 = jt) ∧ (fc = 0 → j1 = jt + 1)) := hw_71
          simp only [pgo, bdo] at hw_71
          have hn_75 := hw_71.2
          replace hw_71 := hw_71.1
          obtain ⟨cc_76, jj_77, hR_78, hn_75⟩ := hn_75
          have hVhR_78 := hR_78.1
          refine lv_iload_n hx hb dX11_readDigits_54 rfl (lv_at hl 0 rfl) ?_
          exact th_iret hx hb hr hlocks hH hS (z := z_68) rz_68 ⟨hO, hF, hM, ⟨⟨by omega, pgo.of (by omega), bdo.of (by omega)⟩, cc_76, jj_77, hR_78, by omega, by omega⟩⟩ dX11_readDigits_55
        · replace c_67 := mt (I_le (a := z_66) (b := 3) rz_66 (show rng 3 from ⟨by decide, by decide⟩)).mpr c_67
          refine lv_aload_n hx hb dX11_readDigits_40 rfl (lv_at hl 0 rfl) ?_
          refine lv_iconst (v := I 2) hx hb dX11_readDigits_41 (by decide) ?_
          obtain ⟨_, hc_79⟩ := hO.cell h_a (by decide) (ci := 11) rfl
          refine th_callv (va_runV (As := [.int (I 2)]) (rest := []) ⟨hx, hb, hml, hown, hts⟩ (n_wrong l G y b0 σ E hO a h_a 2 (show rng 2 from (show rng 2 from ⟨by decide, by decide⟩)) (by omega) (by omega) Bf hsr T hSt fc jt hR0) (cwV 1 hts gX11_readDigits_X11_wrong rfl rfl rfl (by decide +kernel) ⟨Nat.le_of_ble_eq_true rfl, Nat.le_of_ble_eq_true rfl⟩) (th_PV hK hH rfl hc_79) rfl rfl hl.1 rfl (lv_room (Nat.le_of_ble_eq_true rfl)) dX11_readDigits_42 ⟨Nat.le_of_ble_eq_true rfl, Nat.le_of_ble_eq_true rfl⟩) hS (fun σ_s_81 H locs hw_80 hH hS => ?_)
          obtain ⟨hO9, hF9, hM9, hw_80⟩ := hw_80
          replace hM := hM.tu hM9 (by decide)
          replace hF := hF.tu hF9 (by decide)
          have e_82 : gI σ_s_81 a 11 = a110 := (hM9.i (by decide)).trans ea110
          have e_83 : gI σ_s_81 a 13 = a130 := (hM9.i (by decide)).trans ea130
          have e_84 : gI σ_s_81 a 14 = a140 := (hM9.i (by decide)).trans ea140
          have e_85 : gI σ_s_81 a 17 = a170 := (hM9.i (by decide)).trans ea170
          have e_86 : gI σ_s_81 a 18 = z_64 := (hM9.i (by decide)).trans e_65
          replace hsr := hsr.mv hM9 (by decide) (by decide) (by decide) (by decide) (by decide)
          replace hO := hO9
          replace hw_80 : (¬ gI σ_s_81 a 19 = 0 ∧ (gI σ a 19 = 0 ∨ gI σ_s_81 a 19 = gI σ a 19)) ∧ ∃ c1 j1, RSt σ_s_81 a T c1 j1 ∧ (j1 = jt ∧ (fc = 0 → c1 = 2) ∧ (fc ≠ 0 → c1 = fc)) := hw_80
          have hn_87 := hw_80.2
          replace hw_80 := hw_80.1
          obtain ⟨cc_88, jj_89, hR_90, hn_87⟩ := hn_87
          have hVhR_90 := hR_90.1
          have hj9 := hn_87.1.symm
          subst hj9
          refine lv_aload_n hx hb dX11_readDigits_45 rfl (lv_at hl 0 rfl) ?_
          refine ok.getI hO h_a (by decide) k13_15 (fun _ _ he hv kk => th_get (ci := 11) (C := RX11) (T := TX11) (N := 66) hx hb hts inX11 hown hK hH he rfl 15 (by decide) fl1 hv dX11_readDigits_46 kk) (fun z_91 e_92 rz_91 lz_91 uz_91 => ?_)
          refine lv_istore_n (lv' := [(1, .int (I z_91)), (0, .ref a)]) hx hb dX11_readDigits_49 rfl hl (by decide) rfl (fun ls hl => ?_)
          refine lv_aload_n hx hb dX11_readDigits_50 rfl (lv_at hl 1 rfl) ?_
          obtain ⟨_, hc_93⟩ := hO.cell h_a (by decide) (ci := 11) rfl
          refine th_callv (va_runV (As := []) (rest := []) ⟨hx, hb, hml, hown, hts⟩ (n_pass l G y b0 σ_s_81 E hO a h_a Bf hsr T hSt cc_88 jt hR_90 (by omega) (by omega)) (cwV 0 hts gX11_readDigits_X11_pass rfl rfl rfl (by decide +kernel) ⟨Nat.le_of_ble_eq_true rfl, Nat.le_of_ble_eq_true rfl⟩) (th_PV hK hH rfl hc_93) rfl rfl hl.1 rfl (lv_room (Nat.le_of_ble_eq_true rfl)) dX11_readDigits_51 ⟨Nat.le_of_ble_eq_true rfl, Nat.le_of_ble_eq_true rfl⟩) hS (fun σ_s_95 H locs hw_94 hH hS => ?_)
          obtain ⟨hO9, hF9, hM9, hw_94⟩ := hw_94
          replace hM := hM.tu hM9 (by decide)
          replace hF := hF.tu hF9 (by decide)
          have e_96 : gI σ_s_95 a 11 = a110 := (hM9.i (by decide)).trans e_82
          replace hsr := hsr.mv hM9 (by decide) (by decide) (by decide) (by decide) (by decide)
          replace hO := hO9
          replace hw_94 : ((gI σ_s_81 a 13 ≤ gI σ_s_95 a 13 ∧ gI σ_s_95 a 13 ≤ gI σ_s_81 a 11 ∧ 0 ≤ gI σ_s_95 a 17 ∧ gI σ_s_95 a 17 ≤ gI σ_s_95 a 13) ∧ pgo (gI σ_s_95 a 19) (gI σ_s_95 a 14) (gI σ_s_81 a 13) (gI σ_s_95 a 13) ∧ gI σ_s_95 a 19 = gI σ_s_81 a 19) ∧ ∃ c1 j1, RSt σ_s_95 a T c1 j1 ∧ (c1 = cc_88 ∧ (cc_88 ≠ 0 → j1 = jt) ∧ (cc_88 = 0 → j1 = jt + 1)) := hw_94
          simp only [pgo, bdo] at hw_94
          have hn_97 := hw_94.2
          replace hw_94 := hw_94.1
          obtain ⟨cc_98, jj_99, hR_100, hn_97⟩ := hn_97
          have hVhR_100 := hR_100.1
          refine lv_iload_n hx hb dX11_readDigits_54 rfl (lv_at hl 0 rfl) ?_
          exact th_iret hx hb hr hlocks hH hS (z := z_91) rz_91 ⟨hO, hF, hM, ⟨⟨by omega, pgo.of (by omega), bdo.of (by omega)⟩, cc_98, jj_99, hR_100, by omega, by omega⟩⟩ dX11_readDigits_55
    · replace c_51 := mt (I_eq (a := a140) (b := 2) ra140 (show rng 2 from ⟨by decide, by decide⟩)).mpr c_51
      refine lv_aload_n hx hb dX11_readDigits_15 rfl (lv_at hl 0 rfl) ?_
      refine lv_iconst (v := I 1) hx hb dX11_readDigits_16 (by decide) ?_
      obtain ⟨_, hc_101⟩ := hO.cell h_a (by decide) (ci := 11) rfl
      refine th_callv (va_runV (As := [.int (I 1)]) (rest := []) ⟨hx, hb, hml, hown, hts⟩ (n_wrong l G y b0 σ E hO a h_a 1 (show rng 1 from (show rng 1 from ⟨by decide, by decide⟩)) (by omega) (by omega) Bf hsr T hSt fc jt hR0) (cwV 1 hts gX11_readDigits_X11_wrong rfl rfl rfl (by decide +kernel) ⟨Nat.le_of_ble_eq_true rfl, Nat.le_of_ble_eq_true rfl⟩) (th_PV hK hH rfl hc_101) rfl rfl hl.1 rfl (lv_room (Nat.le_of_ble_eq_true rfl)) dX11_readDigits_17 ⟨Nat.le_of_ble_eq_true rfl, Nat.le_of_ble_eq_true rfl⟩) hS (fun σ_s_103 H locs hw_102 hH hS => ?_)
      obtain ⟨hO9, hF9, hM9, hw_102⟩ := hw_102
      replace hM := hM.tu hM9 (by decide)
      replace hF := hF.tu hF9 (by decide)
      have e_104 : gI σ_s_103 a 11 = a110 := (hM9.i (by decide)).trans ea110
      have e_105 : gI σ_s_103 a 13 = a130 := (hM9.i (by decide)).trans ea130
      have e_106 : gI σ_s_103 a 14 = a140 := (hM9.i (by decide)).trans ea140
      have e_107 : gI σ_s_103 a 17 = a170 := (hM9.i (by decide)).trans ea170
      replace hsr := hsr.mv hM9 (by decide) (by decide) (by decide) (by decide) (by decide)
      replace hO := hO9
      replace hw_102 : (¬ gI σ_s_103 a 19 = 0 ∧ (gI σ a 19 = 0 ∨ gI σ_s_103 a 19 = gI σ a 19)) ∧ ∃ c1 j1, RSt σ_s_103 a T c1 j1 ∧ (j1 = jt ∧ (fc = 0 → c1 = 1) ∧ (fc ≠ 0 → c1 = fc)) := hw_102
      have hn_108 := hw_102.2
      replace hw_102 := hw_102.1
      obtain ⟨cc_109, jj_110, hR_111, hn_108⟩ := hn_108
      have hVhR_111 := hR_111.1
      have hj9 := hn_108.1.symm
      subst hj9
      refine lv_aload_n hx hb dX11_readDigits_20 rfl (lv_at hl 0 rfl) ?_
      refine ok.getI hO h_a (by decide) k13_19 (fun _ _ he hv kk => th_get (ci := 11) (C := RX11) (T := TX11) (N := 66) hx hb hts inX11 hown hK hH he rfl 19 (by decide) fl0 hv dX11_readDigits_21 kk) (fun z_112 e_113 rz_112 lz_112 uz_112 => ?_)
      refine lv_if_ne (tgt := 45) hx hb dX11_readDigits_24 (by decide) (fun c_114 => ?_) (fun c_114 => ?_)
      · replace c_114 := mt (I_eq (a := z_112) (b := 0) rz_112 (show rng 0 from ⟨by decide, by decide⟩)).mpr c_114
        refine lv_aload_n hx hb dX11_readDigits_45 rfl (lv_at hl 0 rfl) ?_
        refine ok.getI hO h_a (by decide) k13_15 (fun _ _ he hv kk => th_get (ci := 11) (C := RX11) (T := TX11) (N := 66) hx hb hts inX11 hown hK hH he rfl 15 (by decide) fl1 hv dX11_readDigits_46 kk) (fun z_115 e_116 rz_115 lz_115 uz_115 => ?_)
        refine lv_istore_n (lv' := [(1, .int (I z_115)), (0, .ref a)]) hx hb dX11_readDigits_49 rfl hl (by decide) rfl (fun ls hl => ?_)
        refine lv_aload_n hx hb dX11_readDigits_50 rfl (lv_at hl 1 rfl) ?_
        obtain ⟨_, hc_117⟩ := hO.cell h_a (by decide) (ci := 11) rfl
        refine th_callv (va_runV (As := []) (rest := []) ⟨hx, hb, hml, hown, hts⟩ (n_pass l G y b0 σ_s_103 E hO a h_a Bf hsr T hSt cc_109 jt hR_111 (by omega) (by omega)) (cwV 0 hts gX11_readDigits_X11_pass rfl rfl rfl (by decide +kernel) ⟨Nat.le_of_ble_eq_true rfl, Nat.le_of_ble_eq_true rfl⟩) (th_PV hK hH rfl hc_117) rfl rfl hl.1 rfl (lv_room (Nat.le_of_ble_eq_true rfl)) dX11_readDigits_51 ⟨Nat.le_of_ble_eq_true rfl, Nat.le_of_ble_eq_true rfl⟩) hS (fun σ_s_119 H locs hw_118 hH hS => ?_)
        obtain ⟨hO9, hF9, hM9, hw_118⟩ := hw_118
        replace hM := hM.tu hM9 (by decide)
        replace hF := hF.tu hF9 (by decide)
        have e_120 : gI σ_s_119 a 11 = a110 := (hM9.i (by decide)).trans e_104
        have e_121 : gI σ_s_119 a 19 = z_112 := (hM9.i (by decide)).trans e_113
        replace hsr := hsr.mv hM9 (by decide) (by decide) (by decide) (by decide) (by decide)
        replace hO := hO9
        replace hw_118 : ((gI σ_s_103 a 13 ≤ gI σ_s_119 a 13 ∧ gI σ_s_119 a 13 ≤ gI σ_s_103 a 11 ∧ 0 ≤ gI σ_s_119 a 17 ∧ gI σ_s_119 a 17 ≤ gI σ_s_119 a 13) ∧ pgo (gI σ_s_119 a 19) (gI σ_s_119 a 14) (gI σ_s_103 a 13) (gI σ_s_119 a 13) ∧ gI σ_s_119 a 19 = gI σ_s_103 a 19) ∧ ∃ c1 j1, RSt σ_s_119 a T c1 j1 ∧ (c1 = cc_109 ∧ (cc_109 ≠ 0 → j1 = jt) ∧ (cc_109 = 0 → j1 = jt + 1)) := hw_118
        simp only [pgo, bdo] at hw_118
        have hn_122 := hw_118.2
        replace hw_118 := hw_118.1
        obtain ⟨cc_123, jj_124, hR_125, hn_122⟩ := hn_122
        have hVhR_125 := hR_125.1
        refine lv_iload_n hx hb dX11_readDigits_54 rfl (lv_at hl 0 rfl) ?_
        exact th_iret hx hb hr hlocks hH hS (z := z_115) rz_115 ⟨hO, hF, hM, ⟨⟨by omega, pgo.of (by omega), bdo.of (by omega)⟩, cc_123, jj_124, hR_125, by omega, by omega⟩⟩ dX11_readDigits_55
      · replace c_114 := (I_eq (a := z_112) (b := 0) rz_112 (show rng 0 from ⟨by decide, by decide⟩)).mp c_114
        refine lv_aload_n hx hb dX11_readDigits_27 rfl (lv_at hl 0 rfl) ?_
        refine ok.getI hO h_a (by decide) k13_18 (fun _ _ he hv kk => th_get (ci := 11) (C := RX11) (T := TX11) (N := 66) hx hb hts inX11 hown hK hH he rfl 18 (by decide) fl2 hv dX11_readDigits_28 kk) (fun z_126 e_127 rz_126 lz_126 uz_126 => ?_)
        refine lv_aload_n hx hb dX11_readDigits_31 rfl (lv_at hl 0 rfl) ?_
        refine ok.getIc hO h_a (by decide) k13_17 e_107 (fun _ _ he hv kk => th_get (ci := 11) (C := RX11) (T := TX11) (N := 66) hx hb hts inX11 hown hK hH he rfl 17 (by decide) fl3 hv dX11_readDigits_32 kk) ?_
        refine lv_isub hx hb dX11_readDigits_35 ?_
        refine th_subo (fun z_128 rz_128 hz_128 => ?_)
        refine lv_iconst (v := I 3) hx hb dX11_readDigits_36 (by decide) ?_
        refine lv_icmp_le (tgt := 45) hx hb dX11_readDigits_37 (by decide) (fun c_129 => ?_) (fun c_129 => ?_)
        · replace c_129 := (I_le (a := z_128) (b := 3) rz_128 (show rng 3 from ⟨by decide, by decide⟩)).mp c_129
          refine lv_aload_n hx hb dX11_readDigits_45 rfl (lv_at hl 0 rfl) ?_
          refine ok.getI hO h_a (by decide) k13_15 (fun _ _ he hv kk => th_get (ci := 11) (C := RX11) (T := TX11) (N := 66) hx hb hts inX11 hown hK hH he rfl 15 (by decide) fl1 hv dX11_readDigits_46 kk) (fun z_130 e_131 rz_130 lz_130 uz_130 => ?_)
          refine lv_istore_n (lv' := [(1, .int (I z_130)), (0, .ref a)]) hx hb dX11_readDigits_49 rfl hl (by decide) rfl (fun ls hl => ?_)
          refine lv_aload_n hx hb dX11_readDigits_50 rfl (lv_at hl 1 rfl) ?_
          obtain ⟨_, hc_132⟩ := hO.cell h_a (by decide) (ci := 11) rfl
          refine th_callv (va_runV (As := []) (rest := []) ⟨hx, hb, hml, hown, hts⟩ (n_pass l G y b0 σ_s_103 E hO a h_a Bf hsr T hSt cc_109 jt hR_111 (by omega) (by omega)) (cwV 0 hts gX11_readDigits_X11_pass rfl rfl rfl (by decide +kernel) ⟨Nat.le_of_ble_eq_true rfl, Nat.le_of_ble_eq_true rfl⟩) (th_PV hK hH rfl hc_132) rfl rfl hl.1 rfl (lv_room (Nat.le_of_ble_eq_true rfl)) dX11_readDigits_51 ⟨Nat.le_of_ble_eq_true rfl, Nat.le_of_ble_eq_true rfl⟩) hS (fun σ_s_134 H locs hw_133 hH hS => ?_)
          obtain ⟨hO9, hF9, hM9, hw_133⟩ := hw_133
          replace hM := hM.tu hM9 (by decide)
          replace hF := hF.tu hF9 (by decide)
          have e_135 : gI σ_s_134 a 11 = a110 := (hM9.i (by decide)).trans e_104
          have e_136 : gI σ_s_134 a 19 = z_112 := (hM9.i (by decide)).trans e_113
          replace hsr := hsr.mv hM9 (by decide) (by decide) (by decide) (by decide) (by decide)
          replace hO := hO9
          replace hw_133 : ((gI σ_s_103 a 13 ≤ gI σ_s_134 a 13 ∧ gI σ_s_134 a 13 ≤ gI σ_s_103 a 11 ∧ 0 ≤ gI σ_s_134 a 17 ∧ gI σ_s_134 a 17 ≤ gI σ_s_134 a 13) ∧ pgo (gI σ_s_134 a 19) (gI σ_s_134 a 14) (gI σ_s_103 a 13) (gI σ_s_134 a 13) ∧ gI σ_s_134 a 19 = gI σ_s_103 a 19) ∧ ∃ c1 j1, RSt σ_s_134 a T c1 j1 ∧ (c1 = cc_109 ∧ (cc_109 ≠ 0 → j1 = jt) ∧ (cc_109 = 0 → j1 = jt + 1)) := hw_133
          simp only [pgo, bdo] at hw_133
          have hn_137 := hw_133.2
          replace hw_133 := hw_133.1
          obtain ⟨cc_138, jj_139, hR_140, hn_137⟩ := hn_137
          have hVhR_140 := hR_140.1
          refine lv_iload_n hx hb dX11_readDigits_54 rfl (lv_at hl 0 rfl) ?_
          exact th_iret hx hb hr hlocks hH hS (z := z_130) rz_130 ⟨hO, hF, hM, ⟨⟨by omega, pgo.of (by omega), bdo.of (by omega)⟩, cc_138, jj_139, hR_140, by omega, by omega⟩⟩ dX11_readDigits_55
        · replace c_129 := mt (I_le (a := z_128) (b := 3) rz_128 (show rng 3 from ⟨by decide, by decide⟩)).mpr c_129
          refine lv_aload_n hx hb dX11_readDigits_40 rfl (lv_at hl 0 rfl) ?_
          refine lv_iconst (v := I 2) hx hb dX11_readDigits_41 (by decide) ?_
          obtain ⟨_, hc_141⟩ := hO.cell h_a (by decide) (ci := 11) rfl
          refine th_callv (va_runV (As := [.int (I 2)]) (rest := []) ⟨hx, hb, hml, hown, hts⟩ (n_wrong l G y b0 σ_s_103 E hO a h_a 2 (show rng 2 from (show rng 2 from ⟨by decide, by decide⟩)) (by omega) (by omega) Bf hsr T hSt cc_109 jt hR_111) (cwV 1 hts gX11_readDigits_X11_wrong rfl rfl rfl (by decide +kernel) ⟨Nat.le_of_ble_eq_true rfl, Nat.le_of_ble_eq_true rfl⟩) (th_PV hK hH rfl hc_141) rfl rfl hl.1 rfl (lv_room (Nat.le_of_ble_eq_true rfl)) dX11_readDigits_42 ⟨Nat.le_of_ble_eq_true rfl, Nat.le_of_ble_eq_true rfl⟩) hS (fun σ_s_143 H locs hw_142 hH hS => ?_)
          obtain ⟨hO9, hF9, hM9, hw_142⟩ := hw_142
          replace hM := hM.tu hM9 (by decide)
          replace hF := hF.tu hF9 (by decide)
          have e_144 : gI σ_s_143 a 11 = a110 := (hM9.i (by decide)).trans e_104
          have e_145 : gI σ_s_143 a 13 = a130 := (hM9.i (by decide)).trans e_105
          have e_146 : gI σ_s_143 a 14 = a140 := (hM9.i (by decide)).trans e_106
          have e_147 : gI σ_s_143 a 17 = a170 := (hM9.i (by decide)).trans e_107
          have e_148 : gI σ_s_143 a 18 = z_126 := (hM9.i (by decide)).trans e_127
          replace hsr := hsr.mv hM9 (by decide) (by decide) (by decide) (by decide) (by decide)
          replace hO := hO9
          replace hw_142 : (¬ gI σ_s_143 a 19 = 0 ∧ (gI σ_s_103 a 19 = 0 ∨ gI σ_s_143 a 19 = gI σ_s_103 a 19)) ∧ ∃ c1 j1, RSt σ_s_143 a T c1 j1 ∧ (j1 = jt ∧ (cc_109 = 0 → c1 = 2) ∧ (cc_109 ≠ 0 → c1 = cc_109)) := hw_142
          have hn_149 := hw_142.2
          replace hw_142 := hw_142.1
          obtain ⟨cc_150, jj_151, hR_152, hn_149⟩ := hn_149
          have hVhR_152 := hR_152.1
          have hj9 := hn_149.1.symm
          subst hj9
          refine lv_aload_n hx hb dX11_readDigits_45 rfl (lv_at hl 0 rfl) ?_
          refine ok.getI hO h_a (by decide) k13_15 (fun _ _ he hv kk => th_get (ci := 11) (C := RX11) (T := TX11) (N := 66) hx hb hts inX11 hown hK hH he rfl 15 (by decide) fl1 hv dX11_readDigits_46 kk) (fun z_153 e_154 rz_153 lz_153 uz_153 => ?_)
          refine lv_istore_n (lv' := [(1, .int (I z_153)), (0, .ref a)]) hx hb dX11_readDigits_49 rfl hl (by decide) rfl (fun ls hl => ?_)
          refine lv_aload_n hx hb dX11_readDigits_50 rfl (lv_at hl 1 rfl) ?_
          obtain ⟨_, hc_155⟩ := hO.cell h_a (by decide) (ci := 11) rfl
          refine th_callv (va_runV (As := []) (rest := []) ⟨hx, hb, hml, hown, hts⟩ (n_pass l G y b0 σ_s_143 E hO a h_a Bf hsr T hSt cc_150 jt hR_152 (by omega) (by omega)) (cwV 0 hts gX11_readDigits_X11_pass rfl rfl rfl (by decide +kernel) ⟨Nat.le_of_ble_eq_true rfl, Nat.le_of_ble_eq_true rfl⟩) (th_PV hK hH rfl hc_155) rfl rfl hl.1 rfl (lv_room (Nat.le_of_ble_eq_true rfl)) dX11_readDigits_51 ⟨Nat.le_of_ble_eq_true rfl, Nat.le_of_ble_eq_true rfl⟩) hS (fun σ_s_157 H locs hw_156 hH hS => ?_)
          obtain ⟨hO9, hF9, hM9, hw_156⟩ := hw_156
          replace hM := hM.tu hM9 (by decide)
          replace hF := hF.tu hF9 (by decide)
          have e_158 : gI σ_s_157 a 11 = a110 := (hM9.i (by decide)).trans e_144
          replace hsr := hsr.mv hM9 (by decide) (by decide) (by decide) (by decide) (by decide)
          replace hO := hO9
          replace hw_156 : ((gI σ_s_143 a 13 ≤ gI σ_s_157 a 13 ∧ gI σ_s_157 a 13 ≤ gI σ_s_143 a 11 ∧ 0 ≤ gI σ_s_157 a 17 ∧ gI σ_s_157 a 17 ≤ gI σ_s_157 a 13) ∧ pgo (gI σ_s_157 a 19) (gI σ_s_157 a 14) (gI σ_s_143 a 13) (gI σ_s_157 a 13) ∧ gI σ_s_157 a 19 = gI σ_s_143 a 19) ∧ ∃ c1 j1, RSt σ_s_157 a T c1 j1 ∧ (c1 = cc_150 ∧ (cc_150 ≠ 0 → j1 = jt) ∧ (cc_150 = 0 → j1 = jt + 1)) := hw_156
          simp only [pgo, bdo] at hw_156
          have hn_159 := hw_156.2
          replace hw_156 := hw_156.1
          obtain ⟨cc_160, jj_161, hR_162, hn_159⟩ := hn_159
          have hVhR_162 := hR_162.1
          refine lv_iload_n hx hb dX11_readDigits_54 rfl (lv_at hl 0 rfl) ?_
          exact th_iret hx hb hr hlocks hH hS (z := z_153) rz_153 ⟨hO, hF, hM, ⟨⟨by omega, pgo.of (by omega), bdo.of (by omega)⟩, cc_160, jj_161, hR_162, by omega, by omega⟩⟩ dX11_readDigits_55

set_option maxHeartbeats 4000000 in
set_option maxRecDepth 100000 in
theorem n_readNumber (l : Launch) (G : va_G) (y : Nat → ClassId) (b0 : Nat) (σ : th_M) (E : th_E) (hO : ok y E σ) (a : Nat) (h_a : kd E a = 13) (Bf : Int → Int) (hsr : sr E σ a Bf) (T : tkT) (hSt : tkSt Bf T) (fc jt : Int) (hR0 : RSt σ a T fc jt) (hy0 : 0 ≤ gI σ a 17 ∧ gI σ a 17 ≤ gI σ a 13 ∧ gI σ a 13 ≤ gI σ a 11 ∧ gI σ a 11 ≤ 400) : Met l yX11_readNumber wsX11_readNumber ({ frames := 4, cells := 0, slots := 0, locals := 115 }) (th_P G y b0 σ [.ref a]) (th_Qi G b0 (fun r σ1 => ok y E σ1 ∧ fr [13] E σ σ1 ∧ fm [13, 14, 15, 16, 17, 18, 19, 20] E σ σ1 a ∧ (((gI σ a 13 ≤ gI σ1 a 13 ∧ gI σ1 a 13 ≤ gI σ a 11 ∧ 0 ≤ gI σ1 a 17 ∧ gI σ1 a 17 ≤ gI σ1 a 13) ∧ pgo (gI σ1 a 19) (gI σ1 a 14) (gI σ a 13) (gI σ1 a 13) ∧ bdo (gI σ a 19) (gI σ1 a 19)) ∧ ∃ c1 j1, RSt σ1 a T c1 j1 ∧ ((fc ≠ 0 → c1 = fc ∧ j1 = jt) ∧ (fc = 0 → nuR T jt c1 j1))))) 0 0 (th_A b0) := by
  refine Met.ofW (cc := cX11_readNumber) (maxL := 3) (ret := (some .int)) (by decide) rfl ?_
  intro p e s m args below meth c s₁ B hml hv
  obtain ⟨rfl, hH, hK⟩ := hv
  have hx := B.exec
  have hb := B.bytes
  have hr := B.returns
  have hts := atoms_spec (ws := wsX11_readNumber) B.pre
  have hown : s.vm.findClass RX11 = some m.cls := findClass_of_methodNamed B.named
  have hlocks := B.notSynchronized
  have h00 : b0 ≤ s.heap.size := hH.1
  have hS : va_S (th_A b0) s.heap s.heap [] := va_S.rf
  have hF : fr [13] E σ σ := fr.rf
  have hM : fm [13, 14, 15, 16, 17, 18, 19, 20] E σ σ a := fm.rf
  have hl := lv_entry ([.ref a]) (n := 3) (Nat.le_of_ble_eq_true rfl)
  rw [lg_entry_eq]
  generalize (lg_sl ([.ref a]) ++ List.replicate (3 - (lg_sl ([.ref a])).length) Slot.unset).toArray = ls at hl ⊢
  have hl : lv_has ls 3 [(0, .ref a)] := hl
  obtain ⟨a110, ea110, ra110, la110, ua110⟩ := hO.gi h_a (by decide) k13_11
  obtain ⟨a130, ea130, ra130, la130, ua130⟩ := hO.gi h_a (by decide) k13_13
  obtain ⟨a140, ea140, ra140, la140, ua140⟩ := hO.gi h_a (by decide) k13_14
  obtain ⟨a170, ea170, ra170, la170, ua170⟩ := hO.gi h_a (by decide) k13_17
  obtain ⟨a190, ea190, ra190, la190, ua190⟩ := hO.gi h_a (by decide) k13_19
  have hV0 := hR0.1
  refine lv_aload_n hx hb dX11_readNumber_0 rfl (lv_at hl 0 rfl) ?_
  refine lv_bipush (v := I 45) hx hb dX11_readNumber_1 (by decide) ?_
  obtain ⟨_, hc_1⟩ := hO.cell h_a (by decide) (ci := 11) rfl
  refine th_calli (va_runV (As := [.int (I 45)]) (rest := []) ⟨hx, hb, hml, hown, hts⟩ (n_isMarked l G y b0 σ E hO a h_a 45 (show rng 45 from (show rng 45 from ⟨by decide, by decide⟩)) (by omega) (by omega) Bf hsr T hSt fc jt hR0 (by omega)) (cwV 1 hts gX11_readNumber_X11_isMarked rfl rfl rfl (by decide +kernel) ⟨Nat.le_of_ble_eq_true rfl, Nat.le_of_ble_eq_true rfl⟩) (th_PV hK hH rfl hc_1) rfl rfl hl.1 rfl (lv_room (Nat.le_of_ble_eq_true rfl)) dX11_readNumber_3 ⟨Nat.le_of_ble_eq_true rfl, Nat.le_of_ble_eq_true rfl⟩) hS (fun z_4 σ_s_3 H locs rz_4 hw_2 hH hS => ?_)
  obtain ⟨e9, bhw_2, hw_2⟩ := hw_2
  replace e9 := e9.symm
  subst e9
  replace hw_2 : (z_4 = 1 ∧ fc = 0 ∧ tK T jt = 45) ∨ (z_4 = 0 ∧ (fc ≠ 0 ∨ tK T jt ≠ 45)) := hw_2
  refine lv_istore_n (lv' := [(1, .int (I z_4)), (0, .ref a)]) hx hb dX11_readNumber_6 rfl hl (by decide) rfl (fun ls hl => ?_)
  refine lv_iload_n hx hb dX11_readNumber_7 rfl (lv_at hl 0 rfl) ?_
  refine lv_if_eq (tgt := 15) hx hb dX11_readNumber_8 (by decide) (fun c_5 => ?_) (fun c_5 => ?_)
  · replace c_5 := (I_eq (a := z_4) (b := 0) rz_4 (show rng 0 from ⟨by decide, by decide⟩)).mp c_5
    refine lv_aload_n hx hb dX11_readNumber_15 rfl (lv_at hl 1 rfl) ?_
    obtain ⟨_, hc_6⟩ := hO.cell h_a (by decide) (ci := 11) rfl
    refine th_calli (va_runV (As := []) (rest := []) ⟨hx, hb, hml, hown, hts⟩ (n_readDigits l G y b0 σ E hO a h_a Bf hsr T hSt fc jt hR0 (by omega)) (cwV 0 hts gX11_readNumber_X11_readDigits rfl rfl rfl (by decide +kernel) ⟨Nat.le_of_ble_eq_true rfl, Nat.le_of_ble_eq_true rfl⟩) (th_PV hK hH rfl hc_6) rfl rfl hl.1 rfl (lv_room (Nat.le_of_ble_eq_true rfl)) dX11_readNumber_16 ⟨Nat.le_of_ble_eq_true rfl, Nat.le_of_ble_eq_true rfl⟩) hS (fun z_9 σ_s_8 H locs rz_9 hw_7 hH hS => ?_)
    obtain ⟨hO9, hF9, hM9, hw_7⟩ := hw_7
    replace hM := hM.tu hM9 (by decide)
    replace hF := hF.tu hF9 (by decide)
    have e_10 : gI σ_s_8 a 11 = a110 := (hM9.i (by decide)).trans ea110
    replace hsr := hsr.mv hM9 (by decide) (by decide) (by decide) (by decide) (by decide)
    replace hO := hO9
    replace hw_7 : ((gI σ a 13 ≤ gI σ_s_8 a 13 ∧ gI σ_s_8 a 13 ≤ gI σ a 11 ∧ 0 ≤ gI σ_s_8 a 17 ∧ gI σ_s_8 a 17 ≤ gI σ_s_8 a 13) ∧ pgo (gI σ_s_8 a 19) (gI σ_s_8 a 14) (gI σ a 13) (gI σ_s_8 a 13) ∧ bdo (gI σ a 19) (gI σ_s_8 a 19)) ∧ ∃ c1 j1, RSt σ_s_8 a T c1 j1 ∧ ((fc ≠ 0 → c1 = fc ∧ j1 = jt) ∧ (fc = 0 → (tK T jt ≠ 257 ∧ c1 = 1 ∧ j1 = jt) ∨ (tK T jt = 257 ∧ 3 < tL T jt ∧ c1 = 2 ∧ j1 = jt) ∨ (tK T jt = 257 ∧ tL T jt ≤ 3 ∧ c1 = 0 ∧ j1 = jt + 1))) := hw_7
    simp only [pgo, bdo] at hw_7
    have hn_11 := hw_7.2
    replace hw_7 := hw_7.1
    obtain ⟨cc_12, jj_13, hR_14, hn_11⟩ := hn_11
    have hVhR_14 := hR_14.1
    refine lv_istore_n (lv' := [(2, .int (I z_9)), (1, .int (I z_4)), (0, .ref a)]) hx hb dX11_readNumber_19 rfl hl (by decide) rfl (fun ls hl => ?_)
    refine lv_iload_n hx hb dX11_readNumber_20 rfl (lv_at hl 1 rfl) ?_
    refine lv_if_eq (tgt := 29) hx hb dX11_readNumber_21 (by decide) (fun c_15 => ?_) (fun c_15 => ?_)
    · replace c_15 := (I_eq (a := z_4) (b := 0) rz_4 (show rng 0 from ⟨by decide, by decide⟩)).mp c_15
      refine lv_iload_n hx hb dX11_readNumber_29 rfl (lv_at hl 0 rfl) ?_
      exact th_iret hx hb hr hlocks hH hS (z := z_9) rz_9 ⟨hO, hF, hM, ⟨⟨by omega, pgo.of (by omega), bdo.of (by omega)⟩, cc_12, jj_13, hR_14, by omega, fun hc9 => nuR_mk (q := jt) (by omega) (by omega)⟩⟩ dX11_readNumber_30
    · replace c_15 := mt (I_eq (a := z_4) (b := 0) rz_4 (show rng 0 from ⟨by decide, by decide⟩)).mpr c_15
      refine lv_iload_n hx hb dX11_readNumber_24 rfl (lv_at hl 0 rfl) ?_
      refine lv_ineg hx hb dX11_readNumber_25 ?_
      refine th_nego (fun z_16 rz_16 hz_16 => ?_)
      refine lv_goto (tgt := 30) hx hb dX11_readNumber_26 (by decide) ?_
      exact th_iret hx hb hr hlocks hH hS (z := z_16) rz_16 ⟨hO, hF, hM, ⟨⟨by omega, pgo.of (by omega), bdo.of (by omega)⟩, cc_12, jj_13, hR_14, by omega, fun hc9 => nuR_mk (q := jt) (by omega) (by omega)⟩⟩ dX11_readNumber_30
  · replace c_5 := mt (I_eq (a := z_4) (b := 0) rz_4 (show rng 0 from ⟨by decide, by decide⟩)).mpr c_5
    refine lv_aload_n hx hb dX11_readNumber_11 rfl (lv_at hl 1 rfl) ?_
    obtain ⟨_, hc_17⟩ := hO.cell h_a (by decide) (ci := 11) rfl
    refine th_callv (va_runV (As := []) (rest := []) ⟨hx, hb, hml, hown, hts⟩ (n_pass l G y b0 σ E hO a h_a Bf hsr T hSt fc jt hR0 (by omega) (by omega)) (cwV 0 hts gX11_readNumber_X11_pass rfl rfl rfl (by decide +kernel) ⟨Nat.le_of_ble_eq_true rfl, Nat.le_of_ble_eq_true rfl⟩) (th_PV hK hH rfl hc_17) rfl rfl hl.1 rfl (lv_room (Nat.le_of_ble_eq_true rfl)) dX11_readNumber_12 ⟨Nat.le_of_ble_eq_true rfl, Nat.le_of_ble_eq_true rfl⟩) hS (fun σ_s_19 H locs hw_18 hH hS => ?_)
    obtain ⟨hO9, hF9, hM9, hw_18⟩ := hw_18
    replace hM := hM.tu hM9 (by decide)
    replace hF := hF.tu hF9 (by decide)
    have e_20 : gI σ_s_19 a 11 = a110 := (hM9.i (by decide)).trans ea110
    have e_21 : gI σ_s_19 a 19 = a190 := (hM9.i (by decide)).trans ea190
    replace hsr := hsr.mv hM9 (by decide) (by decide) (by decide) (by decide) (by decide)
    replace hO := hO9
    replace hw_18 : ((gI σ a 13 ≤ gI σ_s_19 a 13 ∧ gI σ_s_19 a 13 ≤ gI σ a 11 ∧ 0 ≤ gI σ_s_19 a 17 ∧ gI σ_s_19 a 17 ≤ gI σ_s_19 a 13) ∧ pgo (gI σ_s_19 a 19) (gI σ_s_19 a 14) (gI σ a 13) (gI σ_s_19 a 13) ∧ gI σ_s_19 a 19 = gI σ a 19) ∧ ∃ c1 j1, RSt σ_s_19 a T c1 j1 ∧ (c1 = fc ∧ (fc ≠ 0 → j1 = jt) ∧ (fc = 0 → j1 = jt + 1)) := hw_18
    simp only [pgo, bdo] at hw_18
    have hn_22 := hw_18.2
    replace hw_18 := hw_18.1
    obtain ⟨cc_23, jj_24, hR_25, hn_22⟩ := hn_22
    have hVhR_25 := hR_25.1
    refine lv_aload_n hx hb dX11_readNumber_15 rfl (lv_at hl 1 rfl) ?_
    obtain ⟨_, hc_26⟩ := hO.cell h_a (by decide) (ci := 11) rfl
    refine th_calli (va_runV (As := []) (rest := []) ⟨hx, hb, hml, hown, hts⟩ (n_readDigits l G y b0 σ_s_19 E hO a h_a Bf hsr T hSt cc_23 jj_24 hR_25 (by omega)) (cwV 0 hts gX11_readNumber_X11_readDigits rfl rfl rfl (by decide +kernel) ⟨Nat.le_of_ble_eq_true rfl, Nat.le_of_ble_eq_true rfl⟩) (th_PV hK hH rfl hc_26) rfl rfl hl.1 rfl (lv_room (Nat.le_of_ble_eq_true rfl)) dX11_readNumber_16 ⟨Nat.le_of_ble_eq_true rfl, Nat.le_of_ble_eq_true rfl⟩) hS (fun z_29 σ_s_28 H locs rz_29 hw_27 hH hS => ?_)
    obtain ⟨hO9, hF9, hM9, hw_27⟩ := hw_27
    replace hM := hM.tu hM9 (by decide)
    replace hF := hF.tu hF9 (by decide)
    have e_30 : gI σ_s_28 a 11 = a110 := (hM9.i (by decide)).trans e_20
    replace hsr := hsr.mv hM9 (by decide) (by decide) (by decide) (by decide) (by decide)
    replace hO := hO9
    replace hw_27 : ((gI σ_s_19 a 13 ≤ gI σ_s_28 a 13 ∧ gI σ_s_28 a 13 ≤ gI σ_s_19 a 11 ∧ 0 ≤ gI σ_s_28 a 17 ∧ gI σ_s_28 a 17 ≤ gI σ_s_28 a 13) ∧ pgo (gI σ_s_28 a 19) (gI σ_s_28 a 14) (gI σ_s_19 a 13) (gI σ_s_28 a 13) ∧ bdo (gI σ_s_19 a 19) (gI σ_s_28 a 19)) ∧ ∃ c1 j1, RSt σ_s_28 a T c1 j1 ∧ ((cc_23 ≠ 0 → c1 = cc_23 ∧ j1 = jj_24) ∧ (cc_23 = 0 → (tK T jj_24 ≠ 257 ∧ c1 = 1 ∧ j1 = jj_24) ∨ (tK T jj_24 = 257 ∧ 3 < tL T jj_24 ∧ c1 = 2 ∧ j1 = jj_24) ∨ (tK T jj_24 = 257 ∧ tL T jj_24 ≤ 3 ∧ c1 = 0 ∧ j1 = jj_24 + 1))) := hw_27
    simp only [pgo, bdo] at hw_27
    have hn_31 := hw_27.2
    replace hw_27 := hw_27.1
    obtain ⟨cc_32, jj_33, hR_34, hn_31⟩ := hn_31
    have hVhR_34 := hR_34.1
    refine lv_istore_n (lv' := [(2, .int (I z_29)), (1, .int (I z_4)), (0, .ref a)]) hx hb dX11_readNumber_19 rfl hl (by decide) rfl (fun ls hl => ?_)
    refine lv_iload_n hx hb dX11_readNumber_20 rfl (lv_at hl 1 rfl) ?_
    refine lv_if_eq (tgt := 29) hx hb dX11_readNumber_21 (by decide) (fun c_35 => ?_) (fun c_35 => ?_)
    · replace c_35 := (I_eq (a := z_4) (b := 0) rz_4 (show rng 0 from ⟨by decide, by decide⟩)).mp c_35
      refine lv_iload_n hx hb dX11_readNumber_29 rfl (lv_at hl 0 rfl) ?_
      exact th_iret hx hb hr hlocks hH hS (z := z_29) rz_29 ⟨hO, hF, hM, ⟨⟨by omega, pgo.of (by omega), bdo.of (by omega)⟩, cc_32, jj_33, hR_34, by omega, fun hc9 => nuR_mk (q := jj_24) (by omega) (by omega)⟩⟩ dX11_readNumber_30
    · replace c_35 := mt (I_eq (a := z_4) (b := 0) rz_4 (show rng 0 from ⟨by decide, by decide⟩)).mpr c_35
      refine lv_iload_n hx hb dX11_readNumber_24 rfl (lv_at hl 0 rfl) ?_
      refine lv_ineg hx hb dX11_readNumber_25 ?_
      refine th_nego (fun z_36 rz_36 hz_36 => ?_)
      refine lv_goto (tgt := 30) hx hb dX11_readNumber_26 (by decide) ?_
      exact th_iret hx hb hr hlocks hH hS (z := z_36) rz_36 ⟨hO, hF, hM, ⟨⟨by omega, pgo.of (by omega), bdo.of (by omega)⟩, cc_32, jj_33, hR_34, by omega, fun hc9 => nuR_mk (q := jj_24) (by omega) (by omega)⟩⟩ dX11_readNumber_30

set_option maxHeartbeats 4000000 in
set_option maxRecDepth 100000 in
theorem n_wordNow (l : Launch) (G : va_G) (y : Nat → ClassId) (b0 : Nat) (σ : th_M) (E : th_E) (hO : ok y E σ) (a : Nat) (h_a : kd E a = 13) (Bf : Int → Int) (hsr : sr E σ a Bf) (T : tkT) (hSt : tkSt Bf T) (fc jt : Int) (hR0 : RSt σ a T fc jt) (hy0 : 0 ≤ gI σ a 17 ∧ gI σ a 17 ≤ gI σ a 13 ∧ gI σ a 13 ≤ 400) : Met l yX11_wordNow wsX11_wordNow ({ frames := 1, cells := 0, slots := 0, locals := 25 }) (th_P G y b0 σ [.ref a]) (th_Qi G b0 (fun r σ1 => ok y E σ1 ∧ fr [13] E σ σ1 ∧ fm [19, 20] E σ σ1 a ∧ ((bdo (gI σ a 19) (gI σ1 a 19)) ∧ ∃ c1 j1, RSt σ1 a T c1 j1 ∧ (j1 = jt ∧ (fc ≠ 0 → c1 = fc) ∧ (fc = 0 → (tK T jt ≠ 256 ∧ c1 = 1) ∨ (tK T jt = 256 ∧ 6 < tL T jt ∧ c1 = 2) ∨ (tK T jt = 256 ∧ tL T jt ≤ 6 ∧ c1 = 0 ∧ r = tV T jt)))))) 0 0 (th_A b0) := by
  refine Met.ofW (cc := cX11_wordNow) (maxL := 1) (ret := (some .int)) (by decide) rfl ?_
  intro p e s m args below meth c s₁ B hml hv
  obtain ⟨rfl, hH, hK⟩ := hv
  have hx := B.exec
  have hb := B.bytes
  have hr := B.returns
  have hts := atoms_spec (ws := wsX11_wordNow) B.pre
  have hown : s.vm.findClass RX11 = some m.cls := findClass_of_methodNamed B.named
  have hlocks := B.notSynchronized
  have h00 : b0 ≤ s.heap.size := hH.1
  have hS : va_S (th_A b0) s.heap s.heap [] := va_S.rf
  have hF : fr [13] E σ σ := fr.rf
  have hM : fm [19, 20] E σ σ a := fm.rf
  have h29 := hR0.t1
  have hw9 := fun (h9 : fc = 0) => (hR0.2 h9).2
  have inX11 : ∀ w ∈ wsX110, w ∈ wsX11_wordNow := by decide +kernel
  have fl0 := hts (.fieldLink RX11 162 "NestQueryModel" "bad" "I") (by decide +kernel)
  have fl1 := hts (.fieldLink RX11 143 "NestQueryModel" "word" "I") (by decide +kernel)
  have fl2 := hts (.fieldLink RX11 159 "NestQueryModel" "stops" "I") (by decide +kernel)
  have fl3 := hts (.fieldLink RX11 133 "NestQueryModel" "begins" "I") (by decide +kernel)
  have fl4 := hts (.fieldLink RX11 136 "NestQueryModel" "token" "I") (by decide +kernel)
  have hl := lv_entry ([.ref a]) (n := 1) (Nat.le_of_ble_eq_true rfl)
  rw [lg_entry_eq]
  generalize (lg_sl ([.ref a]) ++ List.replicate (1 - (lg_sl ([.ref a])).length) Slot.unset).toArray = ls at hl ⊢
  have hl : lv_has ls 1 [(0, .ref a)] := hl
  obtain ⟨a110, ea110, ra110, la110, ua110⟩ := hO.gi h_a (by decide) k13_11
  obtain ⟨a130, ea130, ra130, la130, ua130⟩ := hO.gi h_a (by decide) k13_13
  obtain ⟨a140, ea140, ra140, la140, ua140⟩ := hO.gi h_a (by decide) k13_14
  obtain ⟨a170, ea170, ra170, la170, ua170⟩ := hO.gi h_a (by decide) k13_17
  obtain ⟨a190, ea190, ra190, la190, ua190⟩ := hO.gi h_a (by decide) k13_19
  obtain ⟨a160, ea160, ra160, la160, ua160⟩ := hO.gi h_a (by decide) k13_16
  obtain ⟨a180, ea180, ra180, la180, ua180⟩ := hO.gi h_a (by decide) k13_18
  have hV0 := hR0.1
  refine lv_aload_n hx hb dX11_wordNow_0 rfl (lv_at hl 0 rfl) ?_
  refine ok.getIc hO h_a (by decide) k13_19 ea190 (fun _ _ he hv kk => th_get (ci := 11) (C := RX11) (T := TX11) (N := 66) hx hb hts inX11 hown hK hH he rfl 19 (by decide) fl0 hv dX11_wordNow_1 kk) ?_
  refine lv_if_ne (tgt := 20) hx hb dX11_wordNow_4 (by decide) (fun c_1 => ?_) (fun c_1 => ?_)
  · replace c_1 := mt (I_eq (a := a190) (b := 0) ra190 (show rng 0 from ⟨by decide, by decide⟩)).mpr c_1
    refine lv_aload_n hx hb dX11_wordNow_20 rfl (lv_at hl 0 rfl) ?_
    refine ok.getIc hO h_a (by decide) k13_19 ea190 (fun _ _ he hv kk => th_get (ci := 11) (C := RX11) (T := TX11) (N := 66) hx hb hts inX11 hown hK hH he rfl 19 (by decide) fl0 hv dX11_wordNow_21 kk) ?_
    refine lv_if_ne (tgt := 46) hx hb dX11_wordNow_24 (by decide) (fun c_2 => ?_) (fun c_2 => ?_)
    · replace c_2 := mt (I_eq (a := a190) (b := 0) ra190 (show rng 0 from ⟨by decide, by decide⟩)).mpr c_2
      refine lv_aload_n hx hb dX11_wordNow_46 rfl (lv_at hl 0 rfl) ?_
      refine ok.getIc hO h_a (by decide) k13_16 ea160 (fun _ _ he hv kk => th_get (ci := 11) (C := RX11) (T := TX11) (N := 66) hx hb hts inX11 hown hK hH he rfl 16 (by decide) fl1 hv dX11_wordNow_47 kk) ?_
      exact th_iret hx hb hr hlocks hH hS (z := a160) ra160 ⟨hO, hF, hM, ⟨bdo.of (by omega), fc, jt, hR0, by omega, by omega, by omega⟩⟩ dX11_wordNow_50
    · replace c_2 := (I_eq (a := a190) (b := 0) ra190 (show rng 0 from ⟨by decide, by decide⟩)).mp c_2
      refine lv_aload_n hx hb dX11_wordNow_27 rfl (lv_at hl 0 rfl) ?_
      refine ok.getIc hO h_a (by decide) k13_18 ea180 (fun _ _ he hv kk => th_get (ci := 11) (C := RX11) (T := TX11) (N := 66) hx hb hts inX11 hown hK hH he rfl 18 (by decide) fl2 hv dX11_wordNow_28 kk) ?_
      refine lv_aload_n hx hb dX11_wordNow_31 rfl (lv_at hl 0 rfl) ?_
      refine ok.getIc hO h_a (by decide) k13_17 ea170 (fun _ _ he hv kk => th_get (ci := 11) (C := RX11) (T := TX11) (N := 66) hx hb hts inX11 hown hK hH he rfl 17 (by decide) fl3 hv dX11_wordNow_32 kk) ?_
      refine lv_isub hx hb dX11_wordNow_35 ?_
      refine th_subo (fun z_3 rz_3 hz_3 => ?_)
      refine lv_bipush (v := I 6) hx hb dX11_wordNow_36 (by decide) ?_
      refine lv_icmp_le (tgt := 46) hx hb dX11_wordNow_38 (by decide) (fun c_4 => ?_) (fun c_4 => ?_)
      · replace c_4 := (I_le (a := z_3) (b := 6) rz_3 (show rng 6 from ⟨by decide, by decide⟩)).mp c_4
        refine lv_aload_n hx hb dX11_wordNow_46 rfl (lv_at hl 0 rfl) ?_
        refine ok.getIc hO h_a (by decide) k13_16 ea160 (fun _ _ he hv kk => th_get (ci := 11) (C := RX11) (T := TX11) (N := 66) hx hb hts inX11 hown hK hH he rfl 16 (by decide) fl1 hv dX11_wordNow_47 kk) ?_
        exact th_iret hx hb hr hlocks hH hS (z := a160) ra160 ⟨hO, hF, hM, ⟨bdo.of (by omega), fc, jt, hR0, by omega, by omega, by omega⟩⟩ dX11_wordNow_50
      · replace c_4 := mt (I_le (a := z_3) (b := 6) rz_3 (show rng 6 from ⟨by decide, by decide⟩)).mpr c_4
        refine lv_aload_n hx hb dX11_wordNow_41 rfl (lv_at hl 0 rfl) ?_
        refine lv_iconst (v := I 2) hx hb dX11_wordNow_42 (by decide) ?_
        obtain ⟨_, hc_5⟩ := hO.cell h_a (by decide) (ci := 11) rfl
        refine th_callv (va_runV (As := [.int (I 2)]) (rest := []) ⟨hx, hb, hml, hown, hts⟩ (n_wrong l G y b0 σ E hO a h_a 2 (show rng 2 from (show rng 2 from ⟨by decide, by decide⟩)) (by omega) (by omega) Bf hsr T hSt fc jt hR0) (cwV 1 hts gX11_wordNow_X11_wrong rfl rfl rfl (by decide +kernel) ⟨Nat.le_of_ble_eq_true rfl, Nat.le_of_ble_eq_true rfl⟩) (th_PV hK hH rfl hc_5) rfl rfl hl.1 rfl (lv_room (Nat.le_of_ble_eq_true rfl)) dX11_wordNow_43 ⟨Nat.le_of_ble_eq_true rfl, Nat.le_of_ble_eq_true rfl⟩) hS (fun σ_s_7 H locs hw_6 hH hS => ?_)
        obtain ⟨hO9, hF9, hM9, hw_6⟩ := hw_6
        replace hM := hM.tu hM9 (by decide)
        replace hF := hF.tu hF9 (by decide)
        have e_8 : gI σ_s_7 a 11 = a110 := (hM9.i (by decide)).trans ea110
        have e_9 : gI σ_s_7 a 13 = a130 := (hM9.i (by decide)).trans ea130
        have e_10 : gI σ_s_7 a 14 = a140 := (hM9.i (by decide)).trans ea140
        have e_11 : gI σ_s_7 a 17 = a170 := (hM9.i (by decide)).trans ea170
        have e_12 : gI σ_s_7 a 16 = a160 := (hM9.i (by decide)).trans ea160
        have e_13 : gI σ_s_7 a 18 = a180 := (hM9.i (by decide)).trans ea180
        replace hsr := hsr.mv hM9 (by decide) (by decide) (by decide) (by decide) (by decide)
        replace hO := hO9
        replace hw_6 : (¬ gI σ_s_7 a 19 = 0 ∧ (gI σ a 19 = 0 ∨ gI σ_s_7 a 19 = gI σ a 19)) ∧ ∃ c1 j1, RSt σ_s_7 a T c1 j1 ∧ (j1 = jt ∧ (fc = 0 → c1 = 2) ∧ (fc ≠ 0 → c1 = fc)) := hw_6
        have hn_14 := hw_6.2
        replace hw_6 := hw_6.1
        obtain ⟨cc_15, jj_16, hR_17, hn_14⟩ := hn_14
        have hVhR_17 := hR_17.1
        have hj9 := hn_14.1.symm
        subst hj9
        refine lv_aload_n hx hb dX11_wordNow_46 rfl (lv_at hl 0 rfl) ?_
        refine ok.getIc hO h_a (by decide) k13_16 e_12 (fun _ _ he hv kk => th_get (ci := 11) (C := RX11) (T := TX11) (N := 66) hx hb hts inX11 hown hK hH he rfl 16 (by decide) fl1 hv dX11_wordNow_47 kk) ?_
        exact th_iret hx hb hr hlocks hH hS (z := a160) ra160 ⟨hO, hF, hM, ⟨bdo.of (by omega), cc_15, jt, hR_17, by omega, by omega, by omega⟩⟩ dX11_wordNow_50
  · replace c_1 := (I_eq (a := a190) (b := 0) ra190 (show rng 0 from ⟨by decide, by decide⟩)).mp c_1
    refine lv_aload_n hx hb dX11_wordNow_7 rfl (lv_at hl 0 rfl) ?_
    refine ok.getIc hO h_a (by decide) k13_14 ea140 (fun _ _ he hv kk => th_get (ci := 11) (C := RX11) (T := TX11) (N := 66) hx hb hts inX11 hown hK hH he rfl 14 (by decide) fl4 hv dX11_wordNow_8 kk) ?_
    refine lv_iconst (v := I 1) hx hb dX11_wordNow_11 (by decide) ?_
    refine lv_icmp_eq (tgt := 20) hx hb dX11_wordNow_12 (by decide) (fun c_18 => ?_) (fun c_18 => ?_)
    · replace c_18 := (I_eq (a := a140) (b := 1) ra140 (show rng 1 from ⟨by decide, by decide⟩)).mp c_18
      refine lv_aload_n hx hb dX11_wordNow_20 rfl (lv_at hl 0 rfl) ?_
      refine ok.getIc hO h_a (by decide) k13_19 ea190 (fun _ _ he hv kk => th_get (ci := 11) (C := RX11) (T := TX11) (N := 66) hx hb hts inX11 hown hK hH he rfl 19 (by decide) fl0 hv dX11_wordNow_21 kk) ?_
      refine lv_if_ne (tgt := 46) hx hb dX11_wordNow_24 (by decide) (fun c_19 => ?_) (fun c_19 => ?_)
      · replace c_19 := mt (I_eq (a := a190) (b := 0) ra190 (show rng 0 from ⟨by decide, by decide⟩)).mpr c_19
        refine lv_aload_n hx hb dX11_wordNow_46 rfl (lv_at hl 0 rfl) ?_
        refine ok.getIc hO h_a (by decide) k13_16 ea160 (fun _ _ he hv kk => th_get (ci := 11) (C := RX11) (T := TX11) (N := 66) hx hb hts inX11 hown hK hH he rfl 16 (by decide) fl1 hv dX11_wordNow_47 kk) ?_
        exact th_iret hx hb hr hlocks hH hS (z := a160) ra160 ⟨hO, hF, hM, ⟨bdo.of (by omega), fc, jt, hR0, by omega, by omega, by omega⟩⟩ dX11_wordNow_50
      · replace c_19 := (I_eq (a := a190) (b := 0) ra190 (show rng 0 from ⟨by decide, by decide⟩)).mp c_19
        refine lv_aload_n hx hb dX11_wordNow_27 rfl (lv_at hl 0 rfl) ?_
        refine ok.getIc hO h_a (by decide) k13_18 ea180 (fun _ _ he hv kk => th_get (ci := 11) (C := RX11) (T := TX11) (N := 66) hx hb hts inX11 hown hK hH he rfl 18 (by decide) fl2 hv dX11_wordNow_28 kk) ?_
        refine lv_aload_n hx hb dX11_wordNow_31 rfl (lv_at hl 0 rfl) ?_
        refine ok.getIc hO h_a (by decide) k13_17 ea170 (fun _ _ he hv kk => th_get (ci := 11) (C := RX11) (T := TX11) (N := 66) hx hb hts inX11 hown hK hH he rfl 17 (by decide) fl3 hv dX11_wordNow_32 kk) ?_
        refine lv_isub hx hb dX11_wordNow_35 ?_
        refine th_subo (fun z_20 rz_20 hz_20 => ?_)
        refine lv_bipush (v := I 6) hx hb dX11_wordNow_36 (by decide) ?_
        refine lv_icmp_le (tgt := 46) hx hb dX11_wordNow_38 (by decide) (fun c_21 => ?_) (fun c_21 => ?_)
        · replace c_21 := (I_le (a := z_20) (b := 6) rz_20 (show rng 6 from ⟨by decide, by decide⟩)).mp c_21
          refine lv_aload_n hx hb dX11_wordNow_46 rfl (lv_at hl 0 rfl) ?_
          refine ok.getIc hO h_a (by decide) k13_16 ea160 (fun _ _ he hv kk => th_get (ci := 11) (C := RX11) (T := TX11) (N := 66) hx hb hts inX11 hown hK hH he rfl 16 (by decide) fl1 hv dX11_wordNow_47 kk) ?_
          exact th_iret hx hb hr hlocks hH hS (z := a160) ra160 ⟨hO, hF, hM, ⟨bdo.of (by omega), fc, jt, hR0, by omega, by omega, by omega⟩⟩ dX11_wordNow_50
        · replace c_21 := mt (I_le (a := z_20) (b := 6) rz_20 (show rng 6 from ⟨by decide, by decide⟩)).mpr c_21
          refine lv_aload_n hx hb dX11_wordNow_41 rfl (lv_at hl 0 rfl) ?_
          refine lv_iconst (v := I 2) hx hb dX11_wordNow_42 (by decide) ?_
          obtain ⟨_, hc_22⟩ := hO.cell h_a (by decide) (ci := 11) rfl
          refine th_callv (va_runV (As := [.int (I 2)]) (rest := []) ⟨hx, hb, hml, hown, hts⟩ (n_wrong l G y b0 σ E hO a h_a 2 (show rng 2 from (show rng 2 from ⟨by decide, by decide⟩)) (by omega) (by omega) Bf hsr T hSt fc jt hR0) (cwV 1 hts gX11_wordNow_X11_wrong rfl rfl rfl (by decide +kernel) ⟨Nat.le_of_ble_eq_true rfl, Nat.le_of_ble_eq_true rfl⟩) (th_PV hK hH rfl hc_22) rfl rfl hl.1 rfl (lv_room (Nat.le_of_ble_eq_true rfl)) dX11_wordNow_43 ⟨Nat.le_of_ble_eq_true rfl, Nat.le_of_ble_eq_true rfl⟩) hS (fun σ_s_24 H locs hw_23 hH hS => ?_)
          obtain ⟨hO9, hF9, hM9, hw_23⟩ := hw_23
          replace hM := hM.tu hM9 (by decide)
          replace hF := hF.tu hF9 (by decide)
          have e_25 : gI σ_s_24 a 11 = a110 := (hM9.i (by decide)).trans ea110
          have e_26 : gI σ_s_24 a 13 = a130 := (hM9.i (by decide)).trans ea130
          have e_27 : gI σ_s_24 a 14 = a140 := (hM9.i (by decide)).trans ea140
          have e_28 : gI σ_s_24 a 17 = a170 := (hM9.i (by decide)).trans ea170
          have e_29 : gI σ_s_24 a 16 = a160 := (hM9.i (by decide)).trans ea160
          have e_30 : gI σ_s_24 a 18 = a180 := (hM9.i (by decide)).trans ea180
          replace hsr := hsr.mv hM9 (by decide) (by decide) (by decide) (by decide) (by decide)
          replace hO := hO9
          replace hw_23 : (¬ gI σ_s_24 a 19 = 0 ∧ (gI σ a 19 = 0 ∨ gI σ_s_24 a 19 = gI σ a 19)) ∧ ∃ c1 j1, RSt σ_s_24 a T c1 j1 ∧ (j1 = jt ∧ (fc = 0 → c1 = 2) ∧ (fc ≠ 0 → c1 = fc)) := hw_23
          have hn_31 := hw_23.2
          replace hw_23 := hw_23.1
          obtain ⟨cc_32, jj_33, hR_34, hn_31⟩ := hn_31
          have hVhR_34 := hR_34.1
          have hj9 := hn_31.1.symm
          subst hj9
          refine lv_aload_n hx hb dX11_wordNow_46 rfl (lv_at hl 0 rfl) ?_
          refine ok.getIc hO h_a (by decide) k13_16 e_29 (fun _ _ he hv kk => th_get (ci := 11) (C := RX11) (T := TX11) (N := 66) hx hb hts inX11 hown hK hH he rfl 16 (by decide) fl1 hv dX11_wordNow_47 kk) ?_
          exact th_iret hx hb hr hlocks hH hS (z := a160) ra160 ⟨hO, hF, hM, ⟨bdo.of (by omega), cc_32, jt, hR_34, by omega, by omega, by omega⟩⟩ dX11_wordNow_50
    · replace c_18 := mt (I_eq (a := a140) (b := 1) ra140 (show rng 1 from ⟨by decide, by decide⟩)).mpr c_18
      refine lv_aload_n hx hb dX11_wordNow_15 rfl (lv_at hl 0 rfl) ?_
      refine lv_iconst (v := I 1) hx hb dX11_wordNow_16 (by decide) ?_
      obtain ⟨_, hc_35⟩ := hO.cell h_a (by decide) (ci := 11) rfl
      refine th_callv (va_runV (As := [.int (I 1)]) (rest := []) ⟨hx, hb, hml, hown, hts⟩ (n_wrong l G y b0 σ E hO a h_a 1 (show rng 1 from (show rng 1 from ⟨by decide, by decide⟩)) (by omega) (by omega) Bf hsr T hSt fc jt hR0) (cwV 1 hts gX11_wordNow_X11_wrong rfl rfl rfl (by decide +kernel) ⟨Nat.le_of_ble_eq_true rfl, Nat.le_of_ble_eq_true rfl⟩) (th_PV hK hH rfl hc_35) rfl rfl hl.1 rfl (lv_room (Nat.le_of_ble_eq_true rfl)) dX11_wordNow_17 ⟨Nat.le_of_ble_eq_true rfl, Nat.le_of_ble_eq_true rfl⟩) hS (fun σ_s_37 H locs hw_36 hH hS => ?_)
      obtain ⟨hO9, hF9, hM9, hw_36⟩ := hw_36
      replace hM := hM.tu hM9 (by decide)
      replace hF := hF.tu hF9 (by decide)
      have e_38 : gI σ_s_37 a 11 = a110 := (hM9.i (by decide)).trans ea110
      have e_39 : gI σ_s_37 a 13 = a130 := (hM9.i (by decide)).trans ea130
      have e_40 : gI σ_s_37 a 14 = a140 := (hM9.i (by decide)).trans ea140
      have e_41 : gI σ_s_37 a 17 = a170 := (hM9.i (by decide)).trans ea170
      have e_42 : gI σ_s_37 a 16 = a160 := (hM9.i (by decide)).trans ea160
      have e_43 : gI σ_s_37 a 18 = a180 := (hM9.i (by decide)).trans ea180
      replace hsr := hsr.mv hM9 (by decide) (by decide) (by decide) (by decide) (by decide)
      replace hO := hO9
      replace hw_36 : (¬ gI σ_s_37 a 19 = 0 ∧ (gI σ a 19 = 0 ∨ gI σ_s_37 a 19 = gI σ a 19)) ∧ ∃ c1 j1, RSt σ_s_37 a T c1 j1 ∧ (j1 = jt ∧ (fc = 0 → c1 = 1) ∧ (fc ≠ 0 → c1 = fc)) := hw_36
      have hn_44 := hw_36.2
      replace hw_36 := hw_36.1
      obtain ⟨cc_45, jj_46, hR_47, hn_44⟩ := hn_44
      have hVhR_47 := hR_47.1
      have hj9 := hn_44.1.symm
      subst hj9
      refine lv_aload_n hx hb dX11_wordNow_20 rfl (lv_at hl 0 rfl) ?_
      refine ok.getI hO h_a (by decide) k13_19 (fun _ _ he hv kk => th_get (ci := 11) (C := RX11) (T := TX11) (N := 66) hx hb hts inX11 hown hK hH he rfl 19 (by decide) fl0 hv dX11_wordNow_21 kk) (fun z_48 e_49 rz_48 lz_48 uz_48 => ?_)
      refine lv_if_ne (tgt := 46) hx hb dX11_wordNow_24 (by decide) (fun c_50 => ?_) (fun c_50 => ?_)
      · replace c_50 := mt (I_eq (a := z_48) (b := 0) rz_48 (show rng 0 from ⟨by decide, by decide⟩)).mpr c_50
        refine lv_aload_n hx hb dX11_wordNow_46 rfl (lv_at hl 0 rfl) ?_
        refine ok.getIc hO h_a (by decide) k13_16 e_42 (fun _ _ he hv kk => th_get (ci := 11) (C := RX11) (T := TX11) (N := 66) hx hb hts inX11 hown hK hH he rfl 16 (by decide) fl1 hv dX11_wordNow_47 kk) ?_
        exact th_iret hx hb hr hlocks hH hS (z := a160) ra160 ⟨hO, hF, hM, ⟨bdo.of (by omega), cc_45, jt, hR_47, by omega, by omega, by omega⟩⟩ dX11_wordNow_50
      · replace c_50 := (I_eq (a := z_48) (b := 0) rz_48 (show rng 0 from ⟨by decide, by decide⟩)).mp c_50
        refine lv_aload_n hx hb dX11_wordNow_27 rfl (lv_at hl 0 rfl) ?_
        refine ok.getIc hO h_a (by decide) k13_18 e_43 (fun _ _ he hv kk => th_get (ci := 11) (C := RX11) (T := TX11) (N := 66) hx hb hts inX11 hown hK hH he rfl 18 (by decide) fl2 hv dX11_wordNow_28 kk) ?_
        refine lv_aload_n hx hb dX11_wordNow_31 rfl (lv_at hl 0 rfl) ?_
        refine ok.getIc hO h_a (by decide) k13_17 e_41 (fun _ _ he hv kk => th_get (ci := 11) (C := RX11) (T := TX11) (N := 66) hx hb hts inX11 hown hK hH he rfl 17 (by decide) fl3 hv dX11_wordNow_32 kk) ?_
        refine lv_isub hx hb dX11_wordNow_35 ?_
        refine th_subo (fun z_51 rz_51 hz_51 => ?_)
        refine lv_bipush (v := I 6) hx hb dX11_wordNow_36 (by decide) ?_
        refine lv_icmp_le (tgt := 46) hx hb dX11_wordNow_38 (by decide) (fun c_52 => ?_) (fun c_52 => ?_)
        · replace c_52 := (I_le (a := z_51) (b := 6) rz_51 (show rng 6 from ⟨by decide, by decide⟩)).mp c_52
          refine lv_aload_n hx hb dX11_wordNow_46 rfl (lv_at hl 0 rfl) ?_
          refine ok.getIc hO h_a (by decide) k13_16 e_42 (fun _ _ he hv kk => th_get (ci := 11) (C := RX11) (T := TX11) (N := 66) hx hb hts inX11 hown hK hH he rfl 16 (by decide) fl1 hv dX11_wordNow_47 kk) ?_
          exact th_iret hx hb hr hlocks hH hS (z := a160) ra160 ⟨hO, hF, hM, ⟨bdo.of (by omega), cc_45, jt, hR_47, by omega, by omega, by omega⟩⟩ dX11_wordNow_50
        · replace c_52 := mt (I_le (a := z_51) (b := 6) rz_51 (show rng 6 from ⟨by decide, by decide⟩)).mpr c_52
          refine lv_aload_n hx hb dX11_wordNow_41 rfl (lv_at hl 0 rfl) ?_
          refine lv_iconst (v := I 2) hx hb dX11_wordNow_42 (by decide) ?_
          obtain ⟨_, hc_53⟩ := hO.cell h_a (by decide) (ci := 11) rfl
          refine th_callv (va_runV (As := [.int (I 2)]) (rest := []) ⟨hx, hb, hml, hown, hts⟩ (n_wrong l G y b0 σ_s_37 E hO a h_a 2 (show rng 2 from (show rng 2 from ⟨by decide, by decide⟩)) (by omega) (by omega) Bf hsr T hSt cc_45 jt hR_47) (cwV 1 hts gX11_wordNow_X11_wrong rfl rfl rfl (by decide +kernel) ⟨Nat.le_of_ble_eq_true rfl, Nat.le_of_ble_eq_true rfl⟩) (th_PV hK hH rfl hc_53) rfl rfl hl.1 rfl (lv_room (Nat.le_of_ble_eq_true rfl)) dX11_wordNow_43 ⟨Nat.le_of_ble_eq_true rfl, Nat.le_of_ble_eq_true rfl⟩) hS (fun σ_s_55 H locs hw_54 hH hS => ?_)
          obtain ⟨hO9, hF9, hM9, hw_54⟩ := hw_54
          replace hM := hM.tu hM9 (by decide)
          replace hF := hF.tu hF9 (by decide)
          have e_56 : gI σ_s_55 a 11 = a110 := (hM9.i (by decide)).trans e_38
          have e_57 : gI σ_s_55 a 13 = a130 := (hM9.i (by decide)).trans e_39
          have e_58 : gI σ_s_55 a 14 = a140 := (hM9.i (by decide)).trans e_40
          have e_59 : gI σ_s_55 a 17 = a170 := (hM9.i (by decide)).trans e_41
          have e_60 : gI σ_s_55 a 16 = a160 := (hM9.i (by decide)).trans e_42
          have e_61 : gI σ_s_55 a 18 = a180 := (hM9.i (by decide)).trans e_43
          replace hsr := hsr.mv hM9 (by decide) (by decide) (by decide) (by decide) (by decide)
          replace hO := hO9
          replace hw_54 : (¬ gI σ_s_55 a 19 = 0 ∧ (gI σ_s_37 a 19 = 0 ∨ gI σ_s_55 a 19 = gI σ_s_37 a 19)) ∧ ∃ c1 j1, RSt σ_s_55 a T c1 j1 ∧ (j1 = jt ∧ (cc_45 = 0 → c1 = 2) ∧ (cc_45 ≠ 0 → c1 = cc_45)) := hw_54
          have hn_62 := hw_54.2
          replace hw_54 := hw_54.1
          obtain ⟨cc_63, jj_64, hR_65, hn_62⟩ := hn_62
          have hVhR_65 := hR_65.1
          have hj9 := hn_62.1.symm
          subst hj9
          refine lv_aload_n hx hb dX11_wordNow_46 rfl (lv_at hl 0 rfl) ?_
          refine ok.getIc hO h_a (by decide) k13_16 e_60 (fun _ _ he hv kk => th_get (ci := 11) (C := RX11) (T := TX11) (N := 66) hx hb hts inX11 hown hK hH he rfl 16 (by decide) fl1 hv dX11_wordNow_47 kk) ?_
          exact th_iret hx hb hr hlocks hH hS (z := a160) ra160 ⟨hO, hF, hM, ⟨bdo.of (by omega), cc_63, jt, hR_65, by omega, by omega, by omega⟩⟩ dX11_wordNow_50

set_option maxHeartbeats 4000000 in
set_option maxRecDepth 100000 in
theorem n_readWord (l : Launch) (G : va_G) (y : Nat → ClassId) (b0 : Nat) (σ : th_M) (E : th_E) (hO : ok y E σ) (a : Nat) (h_a : kd E a = 13) (Bf : Int → Int) (hsr : sr E σ a Bf) (T : tkT) (hSt : tkSt Bf T) (fc jt : Int) (hR0 : RSt σ a T fc jt) (hy0 : 0 ≤ gI σ a 17 ∧ gI σ a 17 ≤ gI σ a 13 ∧ gI σ a 13 ≤ gI σ a 11 ∧ gI σ a 11 ≤ 400) : Met l yX11_readWord wsX11_readWord ({ frames := 3, cells := 0, slots := 0, locals := 90 }) (th_P G y b0 σ [.ref a]) (th_Qi G b0 (fun r σ1 => ok y E σ1 ∧ fr [13] E σ σ1 ∧ fm [13, 14, 15, 16, 17, 18, 19, 20] E σ σ1 a ∧ (((gI σ a 13 ≤ gI σ1 a 13 ∧ gI σ1 a 13 ≤ gI σ a 11 ∧ 0 ≤ gI σ1 a 17 ∧ gI σ1 a 17 ≤ gI σ1 a 13) ∧ pgo (gI σ1 a 19) (gI σ1 a 14) (gI σ a 13) (gI σ1 a 13) ∧ bdo (gI σ a 19) (gI σ1 a 19)) ∧ ∃ c1 j1, RSt σ1 a T c1 j1 ∧ ((fc ≠ 0 → c1 = fc ∧ j1 = jt) ∧ (fc = 0 → (tK T jt ≠ 256 ∧ c1 = 1 ∧ j1 = jt) ∨ (tK T jt = 256 ∧ 6 < tL T jt ∧ c1 = 2 ∧ j1 = jt) ∨ (tK T jt = 256 ∧ tL T jt ≤ 6 ∧ c1 = 0 ∧ j1 = jt + 1 ∧ r = tV T jt)))))) 0 0 (th_A b0) := by
  refine Met.ofW (cc := cX11_readWord) (maxL := 2) (ret := (some .int)) (by decide) rfl ?_
  intro p e s m args below meth c s₁ B hml hv
  obtain ⟨rfl, hH, hK⟩ := hv
  have hx := B.exec
  have hb := B.bytes
  have hr := B.returns
  have hts := atoms_spec (ws := wsX11_readWord) B.pre
  have hown : s.vm.findClass RX11 = some m.cls := findClass_of_methodNamed B.named
  have hlocks := B.notSynchronized
  have h00 : b0 ≤ s.heap.size := hH.1
  have hS : va_S (th_A b0) s.heap s.heap [] := va_S.rf
  have hF : fr [13] E σ σ := fr.rf
  have hM : fm [13, 14, 15, 16, 17, 18, 19, 20] E σ σ a := fm.rf
  have hl := lv_entry ([.ref a]) (n := 2) (Nat.le_of_ble_eq_true rfl)
  rw [lg_entry_eq]
  generalize (lg_sl ([.ref a]) ++ List.replicate (2 - (lg_sl ([.ref a])).length) Slot.unset).toArray = ls at hl ⊢
  have hl : lv_has ls 2 [(0, .ref a)] := hl
  obtain ⟨a110, ea110, ra110, la110, ua110⟩ := hO.gi h_a (by decide) k13_11
  obtain ⟨a130, ea130, ra130, la130, ua130⟩ := hO.gi h_a (by decide) k13_13
  obtain ⟨a140, ea140, ra140, la140, ua140⟩ := hO.gi h_a (by decide) k13_14
  obtain ⟨a170, ea170, ra170, la170, ua170⟩ := hO.gi h_a (by decide) k13_17
  obtain ⟨a190, ea190, ra190, la190, ua190⟩ := hO.gi h_a (by decide) k13_19
  have hV0 := hR0.1
  refine lv_aload_n hx hb dX11_readWord_0 rfl (lv_at hl 0 rfl) ?_
  obtain ⟨_, hc_1⟩ := hO.cell h_a (by decide) (ci := 11) rfl
  refine th_calli (va_runV (As := []) (rest := []) ⟨hx, hb, hml, hown, hts⟩ (n_wordNow l G y b0 σ E hO a h_a Bf hsr T hSt fc jt hR0 (by omega)) (cwV 0 hts gX11_readWord_X11_wordNow rfl rfl rfl (by decide +kernel) ⟨Nat.le_of_ble_eq_true rfl, Nat.le_of_ble_eq_true rfl⟩) (th_PV hK hH rfl hc_1) rfl rfl hl.1 rfl (lv_room (Nat.le_of_ble_eq_true rfl)) dX11_readWord_1 ⟨Nat.le_of_ble_eq_true rfl, Nat.le_of_ble_eq_true rfl⟩) hS (fun z_4 σ_s_3 H locs rz_4 hw_2 hH hS => ?_)
  obtain ⟨hO9, hF9, hM9, hw_2⟩ := hw_2
  replace hM := hM.tu hM9 (by decide)
  replace hF := hF.tu hF9 (by decide)
  have e_5 : gI σ_s_3 a 11 = a110 := (hM9.i (by decide)).trans ea110
  have e_6 : gI σ_s_3 a 13 = a130 := (hM9.i (by decide)).trans ea130
  have e_7 : gI σ_s_3 a 14 = a140 := (hM9.i (by decide)).trans ea140
  have e_8 : gI σ_s_3 a 17 = a170 := (hM9.i (by decide)).trans ea170
  replace hsr := hsr.mv hM9 (by decide) (by decide) (by decide) (by decide) (by decide)
  replace hO := hO9
  replace hw_2 : (bdo (gI σ a 19) (gI σ_s_3 a 19)) ∧ ∃ c1 j1, RSt σ_s_3 a T c1 j1 ∧ (j1 = jt ∧ (fc ≠ 0 → c1 = fc) ∧ (fc = 0 → (tK T jt ≠ 256 ∧ c1 = 1) ∨ (tK T jt = 256 ∧ 6 < tL T jt ∧ c1 = 2) ∨ (tK T jt = 256 ∧ tL T jt ≤ 6 ∧ c1 = 0 ∧ z_4 = tV T jt))) := hw_2
  simp only [pgo, bdo] at hw_2
  have hn_9 := hw_2.2
  replace hw_2 := hw_2.1
  obtain ⟨cc_10, jj_11, hR_12, hn_9⟩ := hn_9
  have hVhR_12 := hR_12.1
  have hj9 := hn_9.1.symm
  subst hj9
  refine lv_istore_n (lv' := [(1, .int (I z_4)), (0, .ref a)]) hx hb dX11_readWord_4 rfl hl (by decide) rfl (fun ls hl => ?_)
  refine lv_aload_n hx hb dX11_readWord_5 rfl (lv_at hl 1 rfl) ?_
  obtain ⟨_, hc_13⟩ := hO.cell h_a (by decide) (ci := 11) rfl
  refine th_callv (va_runV (As := []) (rest := []) ⟨hx, hb, hml, hown, hts⟩ (n_pass l G y b0 σ_s_3 E hO a h_a Bf hsr T hSt cc_10 jt hR_12 (by omega) (by omega)) (cwV 0 hts gX11_readWord_X11_pass rfl rfl rfl (by decide +kernel) ⟨Nat.le_of_ble_eq_true rfl, Nat.le_of_ble_eq_true rfl⟩) (th_PV hK hH rfl hc_13) rfl rfl hl.1 rfl (lv_room (Nat.le_of_ble_eq_true rfl)) dX11_readWord_6 ⟨Nat.le_of_ble_eq_true rfl, Nat.le_of_ble_eq_true rfl⟩) hS (fun σ_s_15 H locs hw_14 hH hS => ?_)
  obtain ⟨hO9, hF9, hM9, hw_14⟩ := hw_14
  replace hM := hM.tu hM9 (by decide)
  replace hF := hF.tu hF9 (by decide)
  have e_16 : gI σ_s_15 a 11 = a110 := (hM9.i (by decide)).trans e_5
  replace hsr := hsr.mv hM9 (by decide) (by decide) (by decide) (by decide) (by decide)
  replace hO := hO9
  replace hw_14 : ((gI σ_s_3 a 13 ≤ gI σ_s_15 a 13 ∧ gI σ_s_15 a 13 ≤ gI σ_s_3 a 11 ∧ 0 ≤ gI σ_s_15 a 17 ∧ gI σ_s_15 a 17 ≤ gI σ_s_15 a 13) ∧ pgo (gI σ_s_15 a 19) (gI σ_s_15 a 14) (gI σ_s_3 a 13) (gI σ_s_15 a 13) ∧ gI σ_s_15 a 19 = gI σ_s_3 a 19) ∧ ∃ c1 j1, RSt σ_s_15 a T c1 j1 ∧ (c1 = cc_10 ∧ (cc_10 ≠ 0 → j1 = jt) ∧ (cc_10 = 0 → j1 = jt + 1)) := hw_14
  simp only [pgo, bdo] at hw_14
  have hn_17 := hw_14.2
  replace hw_14 := hw_14.1
  obtain ⟨cc_18, jj_19, hR_20, hn_17⟩ := hn_17
  have hVhR_20 := hR_20.1
  refine lv_iload_n hx hb dX11_readWord_9 rfl (lv_at hl 0 rfl) ?_
  exact th_iret hx hb hr hlocks hH hS (z := z_4) rz_4 ⟨hO, hF, hM, ⟨⟨by omega, pgo.of (by omega), bdo.of (by omega)⟩, cc_18, jj_19, hR_20, by omega, by omega⟩⟩ dX11_readWord_10

set_option maxHeartbeats 4000000 in
set_option maxRecDepth 100000 in
theorem n_begin6 (l : Launch) (G : va_G) (y : Nat → ClassId) (b0 : Nat) (σ : th_M) (E : th_E) (hO : ok y E σ) (a : Nat) (h_a : kd E a = 13) (pl : Int) (rpl : rng pl) (l_pl : 0 ≤ pl) (u_pl : pl ≤ 0) (nn : Int) (rnn : rng nn) (l_nn : 0 ≤ nn) (u_nn : nn ≤ 400) (f6 : Nat → Int32) (ef6 : aF σ (ad E a 6) = f6) (T : tkT) (hSt : tkSt (byf f6 nn) T) : Met l yX11_beginText wsX11_beginText ({ frames := 2, cells := 0, slots := 0, locals := 66 }) (th_P G y b0 σ [.ref a, .ref (ad E a 6), .int (I pl), .int (I nn)]) (th_Qv G b0 (fun σ1 => ok y E σ1 ∧ fr [13] E σ σ1 ∧ fm [9, 10, 11, 13, 14, 15, 16, 17, 18, 19, 20] E σ σ1 a ∧ ∃ Bf, sr E σ1 a Bf ∧ ((gI σ1 a 11 = nn ∧ 0 ≤ gI σ1 a 17 ∧ gI σ1 a 17 ≤ gI σ1 a 13 ∧ gI σ1 a 13 ≤ gI σ1 a 11 ∧ gI σ1 a 19 = 0) ∧ Bf = byf f6 nn ∧ RSt σ1 a T 0 0))) 0 0 (th_A b0) := by
  refine Met.ofW (cc := cX11_beginText) (maxL := 4) (ret := none) (by decide) rfl ?_
  intro p e s m args below meth c s₁ B hml hv
  obtain ⟨rfl, hH, hK⟩ := hv
  have hx := B.exec
  have hb := B.bytes
  have hr := B.returns
  have hts := atoms_spec (ws := wsX11_beginText) B.pre
  have hown : s.vm.findClass RX11 = some m.cls := findClass_of_methodNamed B.named
  have hlocks := B.notSynchronized
  have h00 : b0 ≤ s.heap.size := hH.1
  have hS : va_S (th_A b0) s.heap s.heap [] := va_S.rf
  have hF : fr [13] E σ σ := fr.rf
  have hM : fm [9, 10, 11, 13, 14, 15, 16, 17, 18, 19, 20] E σ σ a := fm.rf
  have inX11 : ∀ w ∈ wsX110, w ∈ wsX11_beginText := by decide +kernel
  have fl0 := hts (.fieldLink RX11 120 "NestQueryModel" "source" "[I") (by decide +kernel)
  have fl1 := hts (.fieldLink RX11 123 "NestQueryModel" "from" "I") (by decide +kernel)
  have fl2 := hts (.fieldLink RX11 117 "NestQueryModel" "textSize" "I") (by decide +kernel)
  have fl3 := hts (.fieldLink RX11 126 "NestQueryModel" "at" "I") (by decide +kernel)
  have fl4 := hts (.fieldLink RX11 162 "NestQueryModel" "bad" "I") (by decide +kernel)
  have hl := lv_entry ([.ref a, .ref (ad E a 6), .int (I pl), .int (I nn)]) (n := 4) (Nat.le_of_ble_eq_true rfl)
  rw [lg_entry_eq]
  generalize (lg_sl ([.ref a, .ref (ad E a 6), .int (I pl), .int (I nn)]) ++ List.replicate (4 - (lg_sl ([.ref a, .ref (ad E a 6), .int (I pl), .int (I nn)])).length) Slot.unset).toArray = ls at hl ⊢
  have hl : lv_has ls 4 [(0, .ref a), (1, .ref (ad E a 6)), (2, .int (I pl)), (3, .int (I nn))] := hl
  refine lv_aload_n hx hb dX11_beginText_0 rfl (lv_at hl 0 rfl) ?_
  refine lv_aload_n hx hb dX11_beginText_1 rfl (lv_at hl 1 rfl) ?_
  refine ok.putS (j := 6) hO h_a (by decide) (fun _ he hl9 kk => th_put (ci := 11) (v := .ref (ad E a 6)) (ty := .array .int) (C := RX11) (T := TX11) (N := 66) hx hb hts inX11 tyX11 tyX11_ok nmX11 hown hK hH hS h00 he rfl 9 (by decide) fl0 rfl (by decide +kernel) rfl rfl hl9 dX11_beginText_2 kk) (fun σ_s_1 H locs hO hF9 hM9 hg9 ha9 hH hS => ?_)
  replace hM := hM.tu hM9 (by decide)
  replace hF := hF.tu hF9 (by decide)
  have e_2 : aF σ_s_1 (ad E a 6) = f6 := (hM9.a (by decide) (by decide)).trans ef6
  have es_3 := hg9
  refine lv_aload_n hx hb dX11_beginText_5 rfl (lv_at hl 0 rfl) ?_
  refine lv_iload_n hx hb dX11_beginText_6 rfl (lv_at hl 2 rfl) ?_
  refine ok.putJ hO h_a k13_10 rpl (by omega) (by omega) (fun _ he hl9 kk => th_put (ci := 11) (v := .int (I pl)) (ty := .int) (C := RX11) (T := TX11) (N := 66) hx hb hts inX11 tyX11 tyX11_ok nmX11 hown hK hH hS h00 he rfl 10 (by decide) fl1 rfl (by decide +kernel) rfl rfl hl9 dX11_beginText_7 kk) (fun σ_s_4 H locs hO hF9 hM9 hg9 ha9 hH hS => ?_)
  replace hM := hM.tu hM9 (by decide)
  replace hF := hF.tu hF9 (by decide)
  have e_5 : aF σ_s_4 (ad E a 6) = f6 := (hM9.a (by decide) (by decide)).trans e_2
  have e_6 : gV σ_s_4 a 9 = some (.ref (ad E a 6)) := (hM9.1 9 (by decide)).trans es_3
  have e_7 := hg9
  refine lv_aload_n hx hb dX11_beginText_10 rfl (lv_at hl 0 rfl) ?_
  refine lv_iload_n hx hb dX11_beginText_11 rfl (lv_at hl 3 rfl) ?_
  refine ok.putJ hO h_a k13_11 rnn (by omega) (by omega) (fun _ he hl9 kk => th_put (ci := 11) (v := .int (I nn)) (ty := .int) (C := RX11) (T := TX11) (N := 66) hx hb hts inX11 tyX11 tyX11_ok nmX11 hown hK hH hS h00 he rfl 11 (by decide) fl2 rfl (by decide +kernel) rfl rfl hl9 dX11_beginText_12 kk) (fun σ_s_8 H locs hO hF9 hM9 hg9 ha9 hH hS => ?_)
  replace hM := hM.tu hM9 (by decide)
  replace hF := hF.tu hF9 (by decide)
  have e_9 : aF σ_s_8 (ad E a 6) = f6 := (hM9.a (by decide) (by decide)).trans e_5
  have e_10 : gV σ_s_8 a 9 = some (.ref (ad E a 6)) := (hM9.1 9 (by decide)).trans e_6
  have e_11 : gI σ_s_8 a 10 = pl := (hM9.i (by decide)).trans e_7
  have e_12 := hg9
  refine lv_aload_n hx hb dX11_beginText_15 rfl (lv_at hl 0 rfl) ?_
  refine lv_iconst (v := I 0) hx hb dX11_beginText_16 (by decide) ?_
  refine ok.putJ hO h_a k13_13 (show rng 0 from ⟨by decide, by decide⟩) (by omega) (by omega) (fun _ he hl9 kk => th_put (ci := 11) (v := .int (I 0)) (ty := .int) (C := RX11) (T := TX11) (N := 66) hx hb hts inX11 tyX11 tyX11_ok nmX11 hown hK hH hS h00 he rfl 13 (by decide) fl3 rfl (by decide +kernel) rfl rfl hl9 dX11_beginText_17 kk) (fun σ_s_13 H locs hO hF9 hM9 hg9 ha9 hH hS => ?_)
  replace hM := hM.tu hM9 (by decide)
  replace hF := hF.tu hF9 (by decide)
  have e_14 : aF σ_s_13 (ad E a 6) = f6 := (hM9.a (by decide) (by decide)).trans e_9
  have e_15 : gV σ_s_13 a 9 = some (.ref (ad E a 6)) := (hM9.1 9 (by decide)).trans e_10
  have e_16 : gI σ_s_13 a 10 = pl := (hM9.i (by decide)).trans e_11
  have e_17 : gI σ_s_13 a 11 = nn := (hM9.i (by decide)).trans e_12
  have e_18 := hg9
  refine lv_aload_n hx hb dX11_beginText_20 rfl (lv_at hl 0 rfl) ?_
  refine lv_iconst (v := I 0) hx hb dX11_beginText_21 (by decide) ?_
  refine ok.putJ hO h_a k13_19 (show rng 0 from ⟨by decide, by decide⟩) (by omega) (by omega) (fun _ he hl9 kk => th_put (ci := 11) (v := .int (I 0)) (ty := .int) (C := RX11) (T := TX11) (N := 66) hx hb hts inX11 tyX11 tyX11_ok nmX11 hown hK hH hS h00 he rfl 19 (by decide) fl4 rfl (by decide +kernel) rfl rfl hl9 dX11_beginText_22 kk) (fun σ_s_19 H locs hO hF9 hM9 hg9 ha9 hH hS => ?_)
  replace hM := hM.tu hM9 (by decide)
  replace hF := hF.tu hF9 (by decide)
  have e_20 : aF σ_s_19 (ad E a 6) = f6 := (hM9.a (by decide) (by decide)).trans e_14
  have e_21 : gV σ_s_19 a 9 = some (.ref (ad E a 6)) := (hM9.1 9 (by decide)).trans e_15
  have e_22 : gI σ_s_19 a 10 = pl := (hM9.i (by decide)).trans e_16
  have e_23 : gI σ_s_19 a 11 = nn := (hM9.i (by decide)).trans e_17
  have e_24 : gI σ_s_19 a 13 = 0 := (hM9.i (by decide)).trans e_18
  have e_25 := hg9
  refine lv_aload_n hx hb dX11_beginText_25 rfl (lv_at hl 0 rfl) ?_
  obtain ⟨Bf, hsr, hBf⟩ := sr_mk6 e_21 (by omega) e_23 (by omega) (by omega)
  have hSt9 : tkSt Bf T := by rw [hBf, e_20]; exact hSt
  obtain ⟨_, hc_26⟩ := hO.cell h_a (by decide) (ci := 11) rfl
  refine th_callv (va_runV (As := []) (rest := []) ⟨hx, hb, hml, hown, hts⟩ (n_stepOn l G y b0 σ_s_19 E hO a h_a Bf hsr (by omega) (hSt9.1)) (cwV 0 hts gX11_beginText_X11_stepOn rfl rfl rfl (by decide +kernel) ⟨Nat.le_of_ble_eq_true rfl, Nat.le_of_ble_eq_true rfl⟩) (th_PV hK hH rfl hc_26) rfl rfl hl.1 rfl (lv_room (Nat.le_of_ble_eq_true rfl)) dX11_beginText_26 ⟨Nat.le_of_ble_eq_true rfl, Nat.le_of_ble_eq_true rfl⟩) hS (fun σ_s_28 H locs hw_27 hH hS => ?_)
  obtain ⟨hO9, hF9, hM9, hw_27⟩ := hw_27
  replace hM := hM.tu hM9 (by decide)
  replace hF := hF.tu hF9 (by decide)
  have e_29 : aF σ_s_28 (ad E a 6) = f6 := (hM9.a (by decide) (by decide)).trans e_20
  have e_30 : gV σ_s_28 a 9 = some (.ref (ad E a 6)) := (hM9.1 9 (by decide)).trans e_21
  have e_31 : gI σ_s_28 a 10 = pl := (hM9.i (by decide)).trans e_22
  have e_32 : gI σ_s_28 a 11 = nn := (hM9.i (by decide)).trans e_23
  have e_33 : gI σ_s_28 a 19 = 0 := (hM9.i (by decide)).trans e_25
  replace hsr := hsr.mv hM9 (by decide) (by decide) (by decide) (by decide) (by decide)
  replace hO := hO9
  replace hw_27 : (gI σ_s_19 a 13 ≤ gI σ_s_28 a 13 ∧ gI σ_s_28 a 13 ≤ gI σ_s_19 a 11 ∧ 0 ≤ gI σ_s_28 a 17 ∧ gI σ_s_28 a 17 ≤ gI σ_s_28 a 13 ∧ (gI σ_s_28 a 14 = 0 ∨ gI σ_s_19 a 13 < gI σ_s_28 a 13)) ∧ rtok Bf σ_s_28 a (gI σ_s_19 a 13) := hw_27
  exact th_vret hx hb hr hlocks hH hS ⟨hO, hF, hM, Bf, hsr, ⟨⟨by omega, by omega, by omega, by omega, by omega⟩, by rw [hBf, e_20], RSt.first hSt9 (by have h9 := hw_27.2; rwa [show gI σ_s_19 a 13 = 0 by omega] at h9) (by omega)⟩⟩ dX11_beginText_29
