set_option maxHeartbeats 4000000 in
set_option maxRecDepth 100000 in
theorem n_wrong (l : Launch) (G : va_G) (y : Nat → ClassId) (b0 : Nat) (σ : th_M) (E : th_E) (hO : ok y E σ) (a : Nat) (h_a : kd E a = 13) (i : Int) (ri : rng i) (l_i : 1 ≤ i) (u_i : i ≤ 3) (Bf : Int → Int) (hsr : sr E σ a Bf) (T : tkT) (hSt : tkSt Bf T) (fc jt : Int) (hR0 : RSt σ a T fc jt) : Met l yX11_wrong wsX11_wrong ({ frames := 0, cells := 0, slots := 0, locals := 0 }) (th_P G y b0 σ [.ref a, .int (I i)]) (th_Qv G b0 (fun σ1 => ok y E σ1 ∧ fr [13] E σ σ1 ∧ fm [19, 20] E σ σ1 a ∧ ((¬ gI σ1 a 19 = 0 ∧ (gI σ a 19 = 0 ∨ gI σ1 a 19 = gI σ a 19)) ∧ ∃ c1 j1, RSt σ1 a T c1 j1 ∧ (j1 = jt ∧ (fc = 0 → c1 = i) ∧ (fc ≠ 0 → c1 = fc))))) 0 0 (th_A b0) := by
  refine Met.ofW (cc := cX11_wrong) (maxL := 2) (ret := none) (by decide) rfl ?_
  intro p e s m args below meth c s₁ B hml hv
  obtain ⟨rfl, hH, hK⟩ := hv
  have hx := B.exec
  have hb := B.bytes
  have hr := B.returns
  have hts := atoms_spec (ws := wsX11_wrong) B.pre
  have hown : s.vm.findClass RX11 = some m.cls := findClass_of_methodNamed B.named
  have hlocks := B.notSynchronized
  have h00 : b0 ≤ s.heap.size := hH.1
  have hS : va_S (th_A b0) s.heap s.heap [] := va_S.rf
  have hF : fr [13] E σ σ := fr.rf
  have hM : fm [19, 20] E σ σ a := fm.rf
  have inX11 : ∀ w ∈ wsX110, w ∈ wsX11_wrong := by decide +kernel
  have fl0 := hts (.fieldLink RX11 162 "NestQueryModel" "bad" "I") (by decide +kernel)
  have fl1 := hts (.fieldLink RX11 133 "NestQueryModel" "begins" "I") (by decide +kernel)
  have fl2 := hts (.fieldLink RX11 165 "NestQueryModel" "badPlace" "I") (by decide +kernel)
  have hl := lv_entry ([.ref a, .int (I i)]) (n := 2) (Nat.le_of_ble_eq_true rfl)
  rw [lg_entry_eq]
  generalize (lg_sl ([.ref a, .int (I i)]) ++ List.replicate (2 - (lg_sl ([.ref a, .int (I i)])).length) Slot.unset).toArray = ls at hl ⊢
  have hl : lv_has ls 2 [(0, .ref a), (1, .int (I i))] := hl
  obtain ⟨a170, ea170, ra170, la170, ua170⟩ := hO.gi h_a (by decide) k13_17
  obtain ⟨a190, ea190, ra190, la190, ua190⟩ := hO.gi h_a (by decide) k13_19
  have hV0 := hR0.1
  refine lv_aload_n hx hb dX11_wrong_0 rfl (lv_at hl 0 rfl) ?_
  refine ok.getIc hO h_a (by decide) k13_19 ea190 (fun _ _ he hv kk => th_get (ci := 11) (C := RX11) (T := TX11) (N := 66) hx hb hts inX11 hown hK hH he rfl 19 (by decide) fl0 hv dX11_wrong_1 kk) ?_
  refine lv_if_eq (tgt := 8) hx hb dX11_wrong_4 (by decide) (fun c_1 => ?_) (fun c_1 => ?_)
  · replace c_1 := (I_eq (a := a190) (b := 0) ra190 (show rng 0 from ⟨by decide, by decide⟩)).mp c_1
    refine lv_aload_n hx hb dX11_wrong_8 rfl (lv_at hl 0 rfl) ?_
    refine lv_iload_n hx hb dX11_wrong_9 rfl (lv_at hl 1 rfl) ?_
    refine ok.putJ hO h_a k13_19 ri (by omega) (by omega) (fun _ he hl9 kk => th_put (ci := 11) (v := .int (I i)) (ty := .int) (C := RX11) (T := TX11) (N := 66) hx hb hts inX11 tyX11 tyX11_ok nmX11 hown hK hH hS h00 he rfl 19 (by decide) fl0 rfl (by decide +kernel) rfl rfl hl9 dX11_wrong_10 kk) (fun σ_s_2 H locs hO hF9 hM9 hg9 ha9 hH hS => ?_)
    replace hM := hM.tu hM9 (by decide)
    replace hF := hF.tu hF9 (by decide)
    have e_3 : gI σ_s_2 a 17 = a170 := (hM9.i (by decide)).trans ea170
    replace hsr := hsr.mv hM9 (by decide) (by decide) (by decide) (by decide) (by decide)
    have e_4 := hg9
    refine lv_aload_n hx hb dX11_wrong_13 rfl (lv_at hl 0 rfl) ?_
    refine lv_aload_n hx hb dX11_wrong_14 rfl (lv_at hl 0 rfl) ?_
    refine ok.getIc hO h_a (by decide) k13_17 e_3 (fun _ _ he hv kk => th_get (ci := 11) (C := RX11) (T := TX11) (N := 66) hx hb hts inX11 hown hK hH he rfl 17 (by decide) fl1 hv dX11_wrong_15 kk) ?_
    refine ok.putJ hO h_a k13_20 ra170 (by omega) (by omega) (fun _ he hl9 kk => th_put (ci := 11) (v := .int (I a170)) (ty := .int) (C := RX11) (T := TX11) (N := 66) hx hb hts inX11 tyX11 tyX11_ok nmX11 hown hK hH hS h00 he rfl 20 (by decide) fl2 rfl (by decide +kernel) rfl rfl hl9 dX11_wrong_18 kk) (fun σ_s_5 H locs hO hF9 hM9 hg9 ha9 hH hS => ?_)
    replace hM := hM.tu hM9 (by decide)
    replace hF := hF.tu hF9 (by decide)
    have e_6 : gI σ_s_5 a 17 = a170 := (hM9.i (by decide)).trans e_3
    have e_7 : gI σ_s_5 a 19 = i := (hM9.i (by decide)).trans e_4
    replace hsr := hsr.mv hM9 (by decide) (by decide) (by decide) (by decide) (by decide)
    have e_8 := hg9
    exact th_vret hx hb hr hlocks hH hS ⟨hO, hF, hM, ⟨⟨by omega, by omega⟩, i, jt, hR0.bad (by omega) (by omega) (by omega), rfl, by omega, by omega⟩⟩ dX11_wrong_21
  · replace c_1 := mt (I_eq (a := a190) (b := 0) ra190 (show rng 0 from ⟨by decide, by decide⟩)).mpr c_1
    exact th_vret hx hb hr hlocks hH hS ⟨hO, hF, hM, ⟨⟨by omega, by omega⟩, fc, jt, hR0, rfl, by omega, by omega⟩⟩ dX11_wrong_7

set_option maxHeartbeats 4000000 in
set_option maxRecDepth 100000 in
theorem n_isMarked (l : Launch) (G : va_G) (y : Nat → ClassId) (b0 : Nat) (σ : th_M) (E : th_E) (hO : ok y E σ) (a : Nat) (h_a : kd E a = 13) (i : Int) (ri : rng i) (l_i : 0 ≤ i) (u_i : i ≤ 255) (Bf : Int → Int) (hsr : sr E σ a Bf) (T : tkT) (hSt : tkSt Bf T) (fc jt : Int) (hR0 : RSt σ a T fc jt) (hy0 : 0 ≤ gI σ a 17 ∧ gI σ a 17 ≤ 400) : Met l yX11_isMarked wsX11_isMarked ({ frames := 1, cells := 0, slots := 0, locals := 25 }) (th_P G y b0 σ [.ref a, .int (I i)]) (th_Qi G b0 (fun r σ1 => σ1 = σ ∧ (0 ≤ r ∧ r ≤ 1) ∧ ((r = 1 ∧ fc = 0 ∧ tK T jt = i) ∨ (r = 0 ∧ (fc ≠ 0 ∨ tK T jt ≠ i))))) 0 0 (th_A b0) := by
  refine Met.ofW (cc := cX11_isMarked) (maxL := 2) (ret := (some .boolean)) (by decide) rfl ?_
  intro p e s m args below meth c s₁ B hml hv
  obtain ⟨rfl, hH, hK⟩ := hv
  have hx := B.exec
  have hb := B.bytes
  have hr := B.returns
  have hts := atoms_spec (ws := wsX11_isMarked) B.pre
  have hown : s.vm.findClass RX11 = some m.cls := findClass_of_methodNamed B.named
  have hlocks := B.notSynchronized
  have h00 : b0 ≤ s.heap.size := hH.1
  have hS : va_S (th_A b0) s.heap s.heap [] := va_S.rf
  have h39 := hR0.t3
  have hs9 := hR0.sign hSt
  have inX11 : ∀ w ∈ wsX110, w ∈ wsX11_isMarked := by decide +kernel
  have fl0 := hts (.fieldLink RX11 162 "NestQueryModel" "bad" "I") (by decide +kernel)
  have fl1 := hts (.fieldLink RX11 136 "NestQueryModel" "token" "I") (by decide +kernel)
  have fl2 := hts (.fieldLink RX11 133 "NestQueryModel" "begins" "I") (by decide +kernel)
  have hl := lv_entry ([.ref a, .int (I i)]) (n := 2) (Nat.le_of_ble_eq_true rfl)
  rw [lg_entry_eq]
  generalize (lg_sl ([.ref a, .int (I i)]) ++ List.replicate (2 - (lg_sl ([.ref a, .int (I i)])).length) Slot.unset).toArray = ls at hl ⊢
  have hl : lv_has ls 2 [(0, .ref a), (1, .int (I i))] := hl
  obtain ⟨a170, ea170, ra170, la170, ua170⟩ := hO.gi h_a (by decide) k13_17
  have hV0 := hR0.1
  refine lv_aload_n hx hb dX11_isMarked_0 rfl (lv_at hl 0 rfl) ?_
  refine ok.getI hO h_a (by decide) k13_19 (fun _ _ he hv kk => th_get (ci := 11) (C := RX11) (T := TX11) (N := 66) hx hb hts inX11 hown hK hH he rfl 19 (by decide) fl0 hv dX11_isMarked_1 kk) (fun z_1 e_2 rz_1 lz_1 uz_1 => ?_)
  refine lv_if_ne (tgt := 31) hx hb dX11_isMarked_4 (by decide) (fun c_3 => ?_) (fun c_3 => ?_)
  · replace c_3 := mt (I_eq (a := z_1) (b := 0) rz_1 (show rng 0 from ⟨by decide, by decide⟩)).mpr c_3
    refine lv_iconst (v := I 0) hx hb dX11_isMarked_31 (by decide) ?_
    exact th_zret hx hb hr hlocks hH hS (z := 0) (by omega) ⟨rfl, ⟨by omega, by omega⟩, by omega⟩ dX11_isMarked_32
  · replace c_3 := (I_eq (a := z_1) (b := 0) rz_1 (show rng 0 from ⟨by decide, by decide⟩)).mp c_3
    refine lv_aload_n hx hb dX11_isMarked_7 rfl (lv_at hl 0 rfl) ?_
    refine ok.getI hO h_a (by decide) k13_14 (fun _ _ he hv kk => th_get (ci := 11) (C := RX11) (T := TX11) (N := 66) hx hb hts inX11 hown hK hH he rfl 14 (by decide) fl1 hv dX11_isMarked_8 kk) (fun z_4 e_5 rz_4 lz_4 uz_4 => ?_)
    refine lv_iconst (v := I 3) hx hb dX11_isMarked_11 (by decide) ?_
    refine lv_icmp_ne (tgt := 31) hx hb dX11_isMarked_12 (by decide) (fun c_6 => ?_) (fun c_6 => ?_)
    · replace c_6 := mt (I_eq (a := z_4) (b := 3) rz_4 (show rng 3 from ⟨by decide, by decide⟩)).mpr c_6
      refine lv_iconst (v := I 0) hx hb dX11_isMarked_31 (by decide) ?_
      exact th_zret hx hb hr hlocks hH hS (z := 0) (by omega) ⟨rfl, ⟨by omega, by omega⟩, by omega⟩ dX11_isMarked_32
    · replace c_6 := (I_eq (a := z_4) (b := 3) rz_4 (show rng 3 from ⟨by decide, by decide⟩)).mp c_6
      refine lv_aload_n hx hb dX11_isMarked_15 rfl (lv_at hl 0 rfl) ?_
      refine lv_aload_n hx hb dX11_isMarked_16 rfl (lv_at hl 0 rfl) ?_
      refine ok.getIc hO h_a (by decide) k13_17 ea170 (fun _ _ he hv kk => th_get (ci := 11) (C := RX11) (T := TX11) (N := 66) hx hb hts inX11 hown hK hH he rfl 17 (by decide) fl2 hv dX11_isMarked_17 kk) ?_
      obtain ⟨_, hc_7⟩ := hO.cell h_a (by decide) (ci := 11) rfl
      refine th_calli (va_runV (As := [.int (I a170)]) (rest := []) ⟨hx, hb, hml, hown, hts⟩ (m_byteAt l G y b0 σ E hO a h_a a170 (show rng a170 from ra170) (by omega) (by omega) Bf hsr) (cwV 1 hts gX11_isMarked_X11_byteAt rfl rfl rfl (by decide +kernel) ⟨Nat.le_of_ble_eq_true rfl, Nat.le_of_ble_eq_true rfl⟩) (th_PV hK hH rfl hc_7) rfl rfl hl.1 rfl (lv_room (Nat.le_of_ble_eq_true rfl)) dX11_isMarked_20 ⟨Nat.le_of_ble_eq_true rfl, Nat.le_of_ble_eq_true rfl⟩) hS (fun z_10 σ_s_9 H locs rz_10 hw_8 hH hS => ?_)
      obtain ⟨e9, hw_8⟩ := hw_8
      replace e9 := e9.symm
      subst e9
      replace hw_8 : z_10 = Bf a170 ∧ (z_10 = -1 ∨ a170 < gI σ a 11) := hw_8
      refine lv_iload_n hx hb dX11_isMarked_23 rfl (lv_at hl 1 rfl) ?_
      refine lv_icmp_ne (tgt := 31) hx hb dX11_isMarked_24 (by decide) (fun c_11 => ?_) (fun c_11 => ?_)
      · replace c_11 := mt (I_eq (a := z_10) (b := i) rz_10 ri).mpr c_11
        refine lv_iconst (v := I 0) hx hb dX11_isMarked_31 (by decide) ?_
        exact th_zret hx hb hr hlocks hH hS (z := 0) (by omega) ⟨rfl, ⟨by omega, by omega⟩, (by have h9 := hw_8.1; have h8 : Bf a170 = Bf (gI σ a 17) := (by rw [show gI σ a 17 = a170 by omega]); omega)⟩ dX11_isMarked_32
      · replace c_11 := (I_eq (a := z_10) (b := i) rz_10 ri).mp c_11
        refine lv_iconst (v := I 1) hx hb dX11_isMarked_27 (by decide) ?_
        refine lv_goto (tgt := 32) hx hb dX11_isMarked_28 (by decide) ?_
        exact th_zret hx hb hr hlocks hH hS (z := 1) (by omega) ⟨rfl, ⟨by omega, by omega⟩, (by have h9 := hw_8.1; have h8 : Bf a170 = Bf (gI σ a 17) := (by rw [show gI σ a 17 = a170 by omega]); omega)⟩ dX11_isMarked_32

set_option maxHeartbeats 4000000 in
set_option maxRecDepth 100000 in
theorem n_pass (l : Launch) (G : va_G) (y : Nat → ClassId) (b0 : Nat) (σ : th_M) (E : th_E) (hO : ok y E σ) (a : Nat) (h_a : kd E a = 13) (Bf : Int → Int) (hsr : sr E σ a Bf) (T : tkT) (hSt : tkSt Bf T) (fc jt : Int) (hR0 : RSt σ a T fc jt) (hy0 : 0 ≤ gI σ a 17 ∧ gI σ a 17 ≤ gI σ a 13 ∧ gI σ a 13 ≤ gI σ a 11 ∧ gI σ a 11 ≤ 400) (hy1 : fc = 0 → tK T jt ≠ 259) : Met l yX11_pass wsX11_pass ({ frames := 2, cells := 0, slots := 0, locals := 66 }) (th_P G y b0 σ [.ref a]) (th_Qv G b0 (fun σ1 => ok y E σ1 ∧ fr [13] E σ σ1 ∧ fm [13, 14, 15, 16, 17, 18] E σ σ1 a ∧ (((gI σ a 13 ≤ gI σ1 a 13 ∧ gI σ1 a 13 ≤ gI σ a 11 ∧ 0 ≤ gI σ1 a 17 ∧ gI σ1 a 17 ≤ gI σ1 a 13) ∧ pgo (gI σ1 a 19) (gI σ1 a 14) (gI σ a 13) (gI σ1 a 13) ∧ gI σ1 a 19 = gI σ a 19) ∧ ∃ c1 j1, RSt σ1 a T c1 j1 ∧ (c1 = fc ∧ (fc ≠ 0 → j1 = jt) ∧ (fc = 0 → j1 = jt + 1))))) 0 0 (th_A b0) := by
  refine Met.ofW (cc := cX11_pass) (maxL := 1) (ret := none) (by decide) rfl ?_
  intro p e s m args below meth c s₁ B hml hv
  obtain ⟨rfl, hH, hK⟩ := hv
  have hx := B.exec
  have hb := B.bytes
  have hr := B.returns
  have hts := atoms_spec (ws := wsX11_pass) B.pre
  have hown : s.vm.findClass RX11 = some m.cls := findClass_of_methodNamed B.named
  have hlocks := B.notSynchronized
  have h00 : b0 ≤ s.heap.size := hH.1
  have hS : va_S (th_A b0) s.heap s.heap [] := va_S.rf
  have hF : fr [13] E σ σ := fr.rf
  have hM : fm [13, 14, 15, 16, 17, 18] E σ σ a := fm.rf
  have inX11 : ∀ w ∈ wsX110, w ∈ wsX11_pass := by decide +kernel
  have fl0 := hts (.fieldLink RX11 162 "NestQueryModel" "bad" "I") (by decide +kernel)
  have hl := lv_entry ([.ref a]) (n := 1) (Nat.le_of_ble_eq_true rfl)
  rw [lg_entry_eq]
  generalize (lg_sl ([.ref a]) ++ List.replicate (1 - (lg_sl ([.ref a])).length) Slot.unset).toArray = ls at hl ⊢
  have hl : lv_has ls 1 [(0, .ref a)] := hl
  obtain ⟨a110, ea110, ra110, la110, ua110⟩ := hO.gi h_a (by decide) k13_11
  obtain ⟨a130, ea130, ra130, la130, ua130⟩ := hO.gi h_a (by decide) k13_13
  obtain ⟨a140, ea140, ra140, la140, ua140⟩ := hO.gi h_a (by decide) k13_14
  obtain ⟨a170, ea170, ra170, la170, ua170⟩ := hO.gi h_a (by decide) k13_17
  obtain ⟨a190, ea190, ra190, la190, ua190⟩ := hO.gi h_a (by decide) k13_19
  have hV0 := hR0.1
  rcases Classical.em (fc = 0) with h0_1 | h0_1
  · try simp only [h0_1, ne_eq, not_true_eq_false, not_false_eq_true, false_implies, true_implies, true_and, and_true, eq_self, false_or, or_false, false_and, and_false] at hV0
    refine lv_aload_n hx hb dX11_pass_0 rfl (lv_at hl 0 rfl) ?_
    refine ok.getIc hO h_a (by decide) k13_19 ea190 (fun _ _ he hv kk => th_get (ci := 11) (C := RX11) (T := TX11) (N := 66) hx hb hts inX11 hown hK hH he rfl 19 (by decide) fl0 hv dX11_pass_1 kk) ?_
    refine lv_if_ne (tgt := 11) hx hb dX11_pass_4 (by decide) (fun c_2 => ?_) (fun c_2 => ?_)
    · replace c_2 := mt (I_eq (a := a190) (b := 0) ra190 (show rng 0 from ⟨by decide, by decide⟩)).mpr c_2
      exact th_vret hx hb hr hlocks hH hS ⟨hO, hF, hM, ⟨⟨by omega, pgo.of (by omega), by omega⟩, fc, jt, hR0, by omega, by omega, by omega⟩⟩ dX11_pass_11
    · replace c_2 := (I_eq (a := a190) (b := 0) ra190 (show rng 0 from ⟨by decide, by decide⟩)).mp c_2
      refine lv_aload_n hx hb dX11_pass_7 rfl (lv_at hl 0 rfl) ?_
      obtain ⟨_, hc_3⟩ := hO.cell h_a (by decide) (ci := 11) rfl
      refine th_callv (va_runV (As := []) (rest := []) ⟨hx, hb, hml, hown, hts⟩ (n_stepOn l G y b0 σ E hO a h_a Bf hsr (by omega) (hSt.1)) (cwV 0 hts gX11_pass_X11_stepOn rfl rfl rfl (by decide +kernel) ⟨Nat.le_of_ble_eq_true rfl, Nat.le_of_ble_eq_true rfl⟩) (th_PV hK hH rfl hc_3) rfl rfl hl.1 rfl (lv_room (Nat.le_of_ble_eq_true rfl)) dX11_pass_8 ⟨Nat.le_of_ble_eq_true rfl, Nat.le_of_ble_eq_true rfl⟩) hS (fun σ_s_5 H locs hw_4 hH hS => ?_)
      obtain ⟨hO9, hF9, hM9, hw_4⟩ := hw_4
      replace hM := hM.tu hM9 (by decide)
      replace hF := hF.tu hF9 (by decide)
      have e_6 : gI σ_s_5 a 11 = a110 := (hM9.i (by decide)).trans ea110
      have e_7 : gI σ_s_5 a 19 = a190 := (hM9.i (by decide)).trans ea190
      replace hsr := hsr.mv hM9 (by decide) (by decide) (by decide) (by decide) (by decide)
      replace hO := hO9
      replace hw_4 : (gI σ a 13 ≤ gI σ_s_5 a 13 ∧ gI σ_s_5 a 13 ≤ gI σ a 11 ∧ 0 ≤ gI σ_s_5 a 17 ∧ gI σ_s_5 a 17 ≤ gI σ_s_5 a 13 ∧ (gI σ_s_5 a 14 = 0 ∨ gI σ a 13 < gI σ_s_5 a 13)) ∧ rtok Bf σ_s_5 a (gI σ a 13) := hw_4
      exact th_vret hx hb hr hlocks hH hS ⟨hO, hF, hM, ⟨⟨by omega, pgo.of (by omega), by omega⟩, 0, jt + 1, RSt.next hSt (by rw [show (0 : Int) = fc by omega]; exact hR0) (hy1 (by omega)) hw_4.2 (by omega), by omega, by omega, by omega⟩⟩ dX11_pass_11
  · try simp only [h0_1, ne_eq, not_true_eq_false, not_false_eq_true, false_implies, true_implies, true_and, and_true, eq_self, false_or, or_false, false_and, and_false] at hV0
    refine lv_aload_n hx hb dX11_pass_0 rfl (lv_at hl 0 rfl) ?_
    refine ok.getIc hO h_a (by decide) k13_19 ea190 (fun _ _ he hv kk => th_get (ci := 11) (C := RX11) (T := TX11) (N := 66) hx hb hts inX11 hown hK hH he rfl 19 (by decide) fl0 hv dX11_pass_1 kk) ?_
    refine lv_if_ne (tgt := 11) hx hb dX11_pass_4 (by decide) (fun c_8 => ?_) (fun c_8 => ?_)
    · replace c_8 := mt (I_eq (a := a190) (b := 0) ra190 (show rng 0 from ⟨by decide, by decide⟩)).mpr c_8
      exact th_vret hx hb hr hlocks hH hS ⟨hO, hF, hM, ⟨⟨by omega, pgo.of (by omega), by omega⟩, fc, jt, hR0, by omega, by omega, by omega⟩⟩ dX11_pass_11
    · replace c_8 := (I_eq (a := a190) (b := 0) ra190 (show rng 0 from ⟨by decide, by decide⟩)).mp c_8
      refine lv_aload_n hx hb dX11_pass_7 rfl (lv_at hl 0 rfl) ?_
      obtain ⟨_, hc_9⟩ := hO.cell h_a (by decide) (ci := 11) rfl
      refine th_callv (va_runV (As := []) (rest := []) ⟨hx, hb, hml, hown, hts⟩ (n_stepOn l G y b0 σ E hO a h_a Bf hsr (by omega) (hSt.1)) (cwV 0 hts gX11_pass_X11_stepOn rfl rfl rfl (by decide +kernel) ⟨Nat.le_of_ble_eq_true rfl, Nat.le_of_ble_eq_true rfl⟩) (th_PV hK hH rfl hc_9) rfl rfl hl.1 rfl (lv_room (Nat.le_of_ble_eq_true rfl)) dX11_pass_8 ⟨Nat.le_of_ble_eq_true rfl, Nat.le_of_ble_eq_true rfl⟩) hS (fun σ_s_11 H locs hw_10 hH hS => ?_)
      obtain ⟨hO9, hF9, hM9, hw_10⟩ := hw_10
      replace hM := hM.tu hM9 (by decide)
      replace hF := hF.tu hF9 (by decide)
      have e_12 : gI σ_s_11 a 11 = a110 := (hM9.i (by decide)).trans ea110
      have e_13 : gI σ_s_11 a 19 = a190 := (hM9.i (by decide)).trans ea190
      replace hsr := hsr.mv hM9 (by decide) (by decide) (by decide) (by decide) (by decide)
      replace hO := hO9
      replace hw_10 : (gI σ a 13 ≤ gI σ_s_11 a 13 ∧ gI σ_s_11 a 13 ≤ gI σ a 11 ∧ 0 ≤ gI σ_s_11 a 17 ∧ gI σ_s_11 a 17 ≤ gI σ_s_11 a 13 ∧ (gI σ_s_11 a 14 = 0 ∨ gI σ a 13 < gI σ_s_11 a 13)) ∧ rtok Bf σ_s_11 a (gI σ a 13) := hw_10
      exact th_vret hx hb hr hlocks hH hS ⟨hO, hF, hM, ⟨⟨by omega, pgo.of (by omega), by omega⟩, 0, jt + 1, RSt.next hSt (by rw [show (0 : Int) = fc by omega]; exact hR0) (hy1 (by omega)) hw_10.2 (by omega), by omega, by omega, by omega⟩⟩ dX11_pass_11
