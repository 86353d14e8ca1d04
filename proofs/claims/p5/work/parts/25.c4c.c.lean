set_option maxHeartbeats 4000000 in
set_option maxRecDepth 100000 in
theorem m_allOf (n : Nat) (ih : ∀ (l : Launch) (G : va_G) (y : Nat → ClassId) (b0 : Nat) (σ : th_M) (E : th_E) (hO : ok y E σ) (a : Nat) (h_a : kd E a = 13) (f1 : Nat → Int32) (ef1 : aF σ (ad E a 1) = f1) (Bf : Int → Int) (hsr : sr E σ a Bf) (hy0 : wf f1 0 (mS f1 0)) (hy1 : 1 ≤ mS f1 0 ∧ mS f1 0 ≤ 60) (hy2 : 0 ≤ gI σ a 17 ∧ gI σ a 17 ≤ gI σ a 13 ∧ gI σ a 13 ≤ gI σ a 11 ∧ gI σ a 11 ≤ 400) (hy3 : -1 ≤ gI σ a 30 ∧ gI σ a 30 < mS f1 0) (hy4 : 0 ≤ gI σ a 28 ∧ gI σ a 28 ≤ 5) (hn : (5 - gI σ a 28).toNat < n), Met l yX11_atom wsX11_atom ({ frames := 5*n+12, cells := 0, slots := 0, locals := (180*n+400) }) (th_P G y b0 σ [.ref a]) (th_Qi G b0 (fun r σ1 => ok y E σ1 ∧ fr [13] E σ σ1 ∧ fm [13, 14, 15, 16, 17, 18, 19, 20, 27, 28] E σ σ1 a ∧ (0 ≤ r ∧ r ≤ 1) ∧ (((gI σ a 13 ≤ gI σ1 a 13 ∧ gI σ1 a 13 ≤ gI σ a 11 ∧ 0 ≤ gI σ1 a 17 ∧ gI σ1 a 17 ≤ gI σ1 a 13) ∧ pgo (gI σ1 a 19) (gI σ1 a 14) (gI σ a 13) (gI σ1 a 13)) ∧ gI σ1 a 28 = gI σ a 28))) 0 0 (th_A b0)) (l : Launch) (G : va_G) (y : Nat → ClassId) (b0 : Nat) (σ : th_M) (E : th_E) (hO : ok y E σ) (a : Nat) (h_a : kd E a = 13) (f1 : Nat → Int32) (ef1 : aF σ (ad E a 1) = f1) (Bf : Int → Int) (hsr : sr E σ a Bf) (hy0 : wf f1 0 (mS f1 0)) (hy1 : 1 ≤ mS f1 0 ∧ mS f1 0 ≤ 60) (hy2 : 0 ≤ gI σ a 17 ∧ gI σ a 17 ≤ gI σ a 13 ∧ gI σ a 13 ≤ gI σ a 11 ∧ gI σ a 11 ≤ 400) (hy3 : -1 ≤ gI σ a 30 ∧ gI σ a 30 < mS f1 0) (hy4 : 0 ≤ gI σ a 28 ∧ gI σ a 28 ≤ 5) (hy5 : (5 - gI σ a 28).toNat < n) : Met l yX11_allOf wsX11_allOf ({ frames := 5*n+14, cells := 0, slots := 0, locals := (180*n+450) }) (th_P G y b0 σ [.ref a]) (th_Qi G b0 (fun r σ1 => ok y E σ1 ∧ fr [13] E σ σ1 ∧ fm [13, 14, 15, 16, 17, 18, 19, 20, 27, 28] E σ σ1 a ∧ (0 ≤ r ∧ r ≤ 1) ∧ (((gI σ a 13 ≤ gI σ1 a 13 ∧ gI σ1 a 13 ≤ gI σ a 11 ∧ 0 ≤ gI σ1 a 17 ∧ gI σ1 a 17 ≤ gI σ1 a 13) ∧ pgo (gI σ1 a 19) (gI σ1 a 14) (gI σ a 13) (gI σ1 a 13)) ∧ gI σ1 a 28 = gI σ a 28))) 0 0 (th_A b0) := by
  refine Met.ofW (cc := cX11_allOf) (maxL := 3) (ret := (some .boolean)) (by decide) rfl ?_
  intro p e s m args below meth c s₁ B hml hv
  obtain ⟨rfl, hH, hK⟩ := hv
  have hx := B.exec
  have hb := B.bytes
  have hr := B.returns
  have hts := atoms_spec (ws := wsX11_allOf) B.pre
  have hown : s.vm.findClass RX11 = some m.cls := findClass_of_methodNamed B.named
  have hlocks := B.notSynchronized
  have h00 : b0 ≤ s.heap.size := hH.1
  have hS : va_S (th_A b0) s.heap s.heap [] := va_S.rf
  have hF : fr [13] E σ σ := fr.rf
  have hM : fm [13, 14, 15, 16, 17, 18, 19, 20, 27, 28] E σ σ a := fm.rf
  have hl := lv_entry ([.ref a]) (n := 3) (Nat.le_of_ble_eq_true rfl)
  rw [lg_entry_eq]
  generalize (lg_sl ([.ref a]) ++ List.replicate (3 - (lg_sl ([.ref a])).length) Slot.unset).toArray = ls at hl ⊢
  have hl : lv_has ls 3 [(0, .ref a)] := hl
  obtain ⟨a110, ea110, ra110, la110, ua110⟩ := hO.gi h_a (by decide) k13_11
  obtain ⟨a130, ea130, ra130, la130, ua130⟩ := hO.gi h_a (by decide) k13_13
  obtain ⟨a140, ea140, ra140, la140, ua140⟩ := hO.gi h_a (by decide) k13_14
  obtain ⟨a170, ea170, ra170, la170, ua170⟩ := hO.gi h_a (by decide) k13_17
  obtain ⟨a190, ea190, ra190, la190, ua190⟩ := hO.gi h_a (by decide) k13_19
  obtain ⟨a280, ea280, ra280, la280, ua280⟩ := hO.gi h_a (by decide) k13_28
  obtain ⟨a300, ea300, ra300, la300, ua300⟩ := hO.gi h_a (by decide) k13_30
  refine lv_aload_n hx hb dX11_allOf_0 rfl (lv_at hl 0 rfl) ?_
  obtain ⟨_, hc_1⟩ := hO.cell h_a (by decide) (ci := 11) rfl
  refine th_calli (va_runV (As := []) (rest := []) ⟨hx, hb, hml, hown, hts⟩ (ih l G y b0 σ E hO a h_a f1 ef1 Bf hsr (hy0) (by omega) (by omega) (by omega) (by omega) (by omega)) (cwV 0 hts gX11_allOf_X11_atom rfl rfl rfl (by decide +kernel) ⟨(by first | (simp only [headSpec]; omega) | omega | (dsimp only; omega)), (by first | (simp only [headSpec]; omega) | omega | (dsimp only; omega))⟩) (th_PV hK hH rfl hc_1) rfl rfl hl.1 rfl (lv_room (Nat.le_of_ble_eq_true rfl)) dX11_allOf_1 ⟨(by first | (simp only [headSpec]; omega) | omega | (dsimp only; omega)), (by first | (simp only [headSpec]; omega) | omega | (dsimp only; omega))⟩) hS (fun z_4 σ_s_3 H locs rz_4 hw_2 hH hS => ?_)
  obtain ⟨hO9, hF9, hM9, bhw_2, hw_2⟩ := hw_2
  replace hM := hM.tu hM9 (by decide)
  replace hF := hF.tu hF9 (by decide)
  have e_5 : aF σ_s_3 (ad E a 1) = f1 := (hM9.a (by decide) (by decide)).trans ef1
  have e_6 : gI σ_s_3 a 11 = a110 := (hM9.i (by decide)).trans ea110
  have e_7 : gI σ_s_3 a 30 = a300 := (hM9.i (by decide)).trans ea300
  replace hsr := hsr.mv hM9 (by decide) (by decide) (by decide) (by decide) (by decide)
  replace hO := hO9
  have hw_2 : ((gI σ a 13 ≤ gI σ_s_3 a 13 ∧ gI σ_s_3 a 13 ≤ gI σ a 11 ∧ 0 ≤ gI σ_s_3 a 17 ∧ gI σ_s_3 a 17 ≤ gI σ_s_3 a 13) ∧ pgo (gI σ_s_3 a 19) (gI σ_s_3 a 14) (gI σ a 13) (gI σ_s_3 a 13)) ∧ gI σ_s_3 a 28 = gI σ a 28 := hw_2
  refine lv_istore_n (lv' := [(1, .int (I z_4)), (0, .ref a)]) hx hb dX11_allOf_4 rfl hl (by decide) rfl (fun ls hl => ?_)
  obtain ⟨z_8, e_9, rz_8, lz_8, uz_8⟩ := hO.gi h_a (by decide) k13_13
  obtain ⟨z_10, e_11, rz_10, lz_10, uz_10⟩ := hO.gi h_a (by decide) k13_14
  obtain ⟨z_12, e_13, rz_12, lz_12, uz_12⟩ := hO.gi h_a (by decide) k13_19
  refine th_loop (α := Int × Int × Int × Int) (pc := 5) (fun x9 => (2 * (gI σ a 11 - x9.2.1) + fg x9.2.2.2 x9.2.2.1).toNat) (fun x9 σ9 H9 l9 ls9 => ok y E σ9 ∧ fr [13] E σ σ9 ∧ fm [13, 14, 15, 16, 17, 18, 19, 20, 27, 28] E σ σ9 a ∧ sr E σ9 a Bf ∧ th_H G b0 σ9 H9 ∧ va_S (th_A b0) s.heap H9 l9 ∧ lv_has ls9 3 [(0, .ref a), (1, .int (I x9.1))] ∧ rng x9.1 ∧ rng x9.2.1 ∧ rng x9.2.2.1 ∧ rng x9.2.2.2 ∧ (gI σ a 13 ≤ x9.2.1) ∧ (x9.2.1 ≤ gI σ a 11) ∧ (0 ≤ gI σ9 a 17) ∧ (gI σ9 a 17 ≤ x9.2.1) ∧ (0 ≤ x9.1) ∧ (x9.1 ≤ 1) ∧ (gI σ9 a 28 = gI σ a 28) ∧ (pgo x9.2.2.2 x9.2.2.1 (gI σ a 13) x9.2.1) ∧ (gI σ9 a 11 = a110) ∧ (gI σ9 a 30 = a300) ∧ (aF σ9 (ad E a 1) = f1) ∧ (gI σ9 a 13 = x9.2.1) ∧ (gI σ9 a 14 = x9.2.2.1) ∧ (gI σ9 a 19 = x9.2.2.2)) ?_ (z_4, z_8, z_10, z_12) σ_s_3 _ _ _ ⟨hO, hF, hM, hsr, hH, hS, lv_sub hl [1, 0] rfl, rz_4, rz_8, rz_10, rz_12, by first | (dsimp only; omega) | omega, by first | (dsimp only; omega) | omega, by first | (dsimp only; omega) | omega, by first | (dsimp only; omega) | omega, by first | (dsimp only; omega) | omega, by first | (dsimp only; omega) | omega, by first | (dsimp only; omega) | omega, (hw_2.1.2.is (by first | (dsimp only; omega) | omega) (by first | (dsimp only; omega) | omega) (by first | (dsimp only; omega) | omega) (by first | (dsimp only; omega) | omega)), e_6, e_7, e_5, e_9, e_11, e_13⟩
  intro x9 σ_J_73 H locs ls hI9 ihJ_73
  obtain ⟨v1q72, G13q69, G14q70, G19q71⟩ := x9
  obtain ⟨hO, hF, hM, hsr, hH, hS, hl, rv1q72, rG13q69, rG14q70, rG19q71, J_73_0, J_73_1, J_73_2, J_73_3, J_73_4, J_73_5, J_73_6, J_73_7, J_73_8, J_73_9, J_73_10, J_73_11, J_73_12, J_73_13⟩ := hI9
  have hl : lv_has ls 3 [(0, .ref a), (1, .int (I v1q72))] := hl
  have rv1q72 : rng v1q72 := rv1q72
  have rG13q69 : rng G13q69 := rG13q69
  have rG14q70 : rng G14q70 := rG14q70
  have rG19q71 : rng G19q71 := rG19q71
  have J_73_0 : gI σ a 13 ≤ G13q69 := J_73_0
  have J_73_1 : G13q69 ≤ gI σ a 11 := J_73_1
  have J_73_2 : 0 ≤ gI σ_J_73 a 17 := J_73_2
  have J_73_3 : gI σ_J_73 a 17 ≤ G13q69 := J_73_3
  have J_73_4 : 0 ≤ v1q72 := J_73_4
  have J_73_5 : v1q72 ≤ 1 := J_73_5
  have J_73_6 : gI σ_J_73 a 28 = gI σ a 28 := J_73_6
  have J_73_7 : pgo G19q71 G14q70 (gI σ a 13) G13q69 := J_73_7
  have J_73_8 : gI σ_J_73 a 11 = a110 := J_73_8
  have J_73_9 : gI σ_J_73 a 30 = a300 := J_73_9
  have J_73_10 : aF σ_J_73 (ad E a 1) = f1 := J_73_10
  have J_73_11 : gI σ_J_73 a 13 = G13q69 := J_73_11
  have J_73_12 : gI σ_J_73 a 14 = G14q70 := J_73_12
  have J_73_13 : gI σ_J_73 a 19 = G19q71 := J_73_13
  refine lv_aload_n hx hb dX11_allOf_5 rfl (lv_at hl 0 rfl) ?_
  refine lv_bipush (v := I 38) hx hb dX11_allOf_6 (by decide) ?_
  obtain ⟨_, hc_74⟩ := hO.cell h_a (by decide) (ci := 11) rfl
  refine th_calli (va_runV (As := [.int (I 38)]) (rest := []) ⟨hx, hb, hml, hown, hts⟩ (m_isMarked l G y b0 σ_J_73 E hO a h_a 38 (show rng 38 from (show rng 38 from ⟨by decide, by decide⟩)) Bf hsr (by omega)) (cwV 1 hts gX11_allOf_X11_isMarked rfl rfl rfl (by decide +kernel) ⟨(by first | (simp only [headSpec]; omega) | omega | (dsimp only; omega)), (by first | (simp only [headSpec]; omega) | omega | (dsimp only; omega))⟩) (th_PV hK hH rfl hc_74) rfl rfl hl.1 rfl (lv_room (Nat.le_of_ble_eq_true rfl)) dX11_allOf_8 ⟨(by first | (simp only [headSpec]; omega) | omega | (dsimp only; omega)), (by first | (simp only [headSpec]; omega) | omega | (dsimp only; omega))⟩) hS (fun z_77 σ_s_76 H locs rz_77 hw_75 hH hS => ?_)
  obtain ⟨e9, bhw_75, hw_75⟩ := hw_75
  replace e9 := e9.symm
  subst e9
  have hw_75 : z_77 = 0 ∨ (z_77 = 1 ∧ gI σ_J_73 a 19 = 0 ∧ gI σ_J_73 a 14 = 3 ∧ Bf (gI σ_J_73 a 17) = 38) := hw_75
  refine lv_if_eq (tgt := 40) hx hb dX11_allOf_11 (by decide) (fun c_78 => ?_) (fun c_78 => ?_)
  · replace c_78 := (I_eq (a := z_77) (b := 0) rz_77 (show rng 0 from ⟨by decide, by decide⟩)).mp c_78
    clear hw_75
    refine lv_iload_n hx hb dX11_allOf_40 rfl (lv_at hl 1 rfl) ?_
    exact th_zret hx hb hr hlocks hH hS (z := v1q72) (by omega) ⟨hO, hF, hM, ⟨by omega, by omega⟩, ⟨⟨by omega, J_73_7.is (by first | (dsimp only; omega) | omega) (by first | (dsimp only; omega) | omega) (by first | (dsimp only; omega) | omega) (by first | (dsimp only; omega) | omega)⟩, by omega⟩⟩ dX11_allOf_41
  · replace c_78 := mt (I_eq (a := z_77) (b := 0) rz_77 (show rng 0 from ⟨by decide, by decide⟩)).mpr c_78
    replace hw_75 := (hw_75.resolve_left c_78).2
    refine lv_aload_n hx hb dX11_allOf_14 rfl (lv_at hl 0 rfl) ?_
    obtain ⟨z_79, e_80, rz_79, lz_79, uz_79⟩ := hO.gi h_a (by decide) k13_28
    obtain ⟨_, hc_81⟩ := hO.cell h_a (by decide) (ci := 11) rfl
    refine th_callv (va_runV (As := []) (rest := []) ⟨hx, hb, hml, hown, hts⟩ (m_pass l G y b0 σ_J_73 E hO a h_a Bf hsr (by omega)) (cwV 0 hts gX11_allOf_X11_pass rfl rfl rfl (by decide +kernel) ⟨(by first | (simp only [headSpec]; omega) | omega | (dsimp only; omega)), (by first | (simp only [headSpec]; omega) | omega | (dsimp only; omega))⟩) (th_PV hK hH rfl hc_81) rfl rfl hl.1 rfl (lv_room (Nat.le_of_ble_eq_true rfl)) dX11_allOf_15 ⟨(by first | (simp only [headSpec]; omega) | omega | (dsimp only; omega)), (by first | (simp only [headSpec]; omega) | omega | (dsimp only; omega))⟩) hS (fun σ_s_83 H locs hw_82 hH hS => ?_)
    obtain ⟨hO9, hF9, hM9, hw_82⟩ := hw_82
    replace hM := hM.tu hM9 (by decide)
    replace hF := hF.tu hF9 (by decide)
    have e_84 : gI σ_s_83 a 11 = a110 := (hM9.i (by decide)).trans J_73_8
    have e_85 : gI σ_s_83 a 30 = a300 := (hM9.i (by decide)).trans J_73_9
    have e_86 : aF σ_s_83 (ad E a 1) = f1 := (hM9.a (by decide) (by decide)).trans J_73_10
    have e_87 : gI σ_s_83 a 19 = G19q71 := (hM9.i (by decide)).trans J_73_13
    have e_88 : gI σ_s_83 a 28 = z_79 := (hM9.i (by decide)).trans e_80
    replace hsr := hsr.mv hM9 (by decide) (by decide) (by decide) (by decide) (by decide)
    replace hO := hO9
    have hw_82 : (gI σ_J_73 a 13 ≤ gI σ_s_83 a 13 ∧ gI σ_s_83 a 13 ≤ gI σ_J_73 a 11 ∧ 0 ≤ gI σ_s_83 a 17 ∧ gI σ_s_83 a 17 ≤ gI σ_s_83 a 13) ∧ pgo (gI σ_s_83 a 19) (gI σ_s_83 a 14) (gI σ_J_73 a 13) (gI σ_s_83 a 13) ∧ gI σ_s_83 a 19 = gI σ_J_73 a 19 := hw_82
    refine lv_aload_n hx hb dX11_allOf_18 rfl (lv_at hl 0 rfl) ?_
    obtain ⟨_, hc_89⟩ := hO.cell h_a (by decide) (ci := 11) rfl
    refine th_calli (va_runV (As := []) (rest := []) ⟨hx, hb, hml, hown, hts⟩ (ih l G y b0 σ_s_83 E hO a h_a f1 e_86 Bf hsr (hy0) (by omega) (by omega) (by omega) (by omega) (by omega)) (cwV 0 hts gX11_allOf_X11_atom rfl rfl rfl (by decide +kernel) ⟨(by first | (simp only [headSpec]; omega) | omega | (dsimp only; omega)), (by first | (simp only [headSpec]; omega) | omega | (dsimp only; omega))⟩) (th_PV hK hH rfl hc_89) rfl rfl hl.1 rfl (lv_room (Nat.le_of_ble_eq_true rfl)) dX11_allOf_19 ⟨(by first | (simp only [headSpec]; omega) | omega | (dsimp only; omega)), (by first | (simp only [headSpec]; omega) | omega | (dsimp only; omega))⟩) hS (fun z_92 σ_s_91 H locs rz_92 hw_90 hH hS => ?_)
    obtain ⟨hO9, hF9, hM9, bhw_90, hw_90⟩ := hw_90
    replace hM := hM.tu hM9 (by decide)
    replace hF := hF.tu hF9 (by decide)
    have e_93 : gI σ_s_91 a 11 = a110 := (hM9.i (by decide)).trans e_84
    have e_94 : gI σ_s_91 a 30 = a300 := (hM9.i (by decide)).trans e_85
    have e_95 : aF σ_s_91 (ad E a 1) = f1 := (hM9.a (by decide) (by decide)).trans e_86
    replace hsr := hsr.mv hM9 (by decide) (by decide) (by decide) (by decide) (by decide)
    replace hO := hO9
    have hw_90 : ((gI σ_s_83 a 13 ≤ gI σ_s_91 a 13 ∧ gI σ_s_91 a 13 ≤ gI σ_s_83 a 11 ∧ 0 ≤ gI σ_s_91 a 17 ∧ gI σ_s_91 a 17 ≤ gI σ_s_91 a 13) ∧ pgo (gI σ_s_91 a 19) (gI σ_s_91 a 14) (gI σ_s_83 a 13) (gI σ_s_91 a 13)) ∧ gI σ_s_91 a 28 = gI σ_s_83 a 28 := hw_90
    refine lv_istore_n (lv' := [(2, .int (I z_92)), (0, .ref a), (1, .int (I v1q72))]) hx hb dX11_allOf_22 rfl hl (by decide) rfl (fun ls hl => ?_)
    refine lv_iload_n hx hb dX11_allOf_23 rfl (lv_at hl 2 rfl) ?_
    refine lv_if_eq (tgt := 35) hx hb dX11_allOf_24 (by decide) (fun c_96 => ?_) (fun c_96 => ?_)
    · replace c_96 := (I_eq (a := v1q72) (b := 0) rv1q72 (show rng 0 from ⟨by decide, by decide⟩)).mp c_96
      refine lv_iconst (v := I 0) hx hb dX11_allOf_35 (by decide) ?_
      refine lv_istore_n (lv' := [(1, .int (I 0)), (2, .int (I z_92)), (0, .ref a)]) hx hb dX11_allOf_36 rfl hl (by decide) rfl (fun ls hl => ?_)
      refine lv_goto (tgt := 5) hx hb dX11_allOf_37 (by decide) ?_
      replace hl : lv_has ls 3 [(1, .int (I 0)), (0, .ref a)] := lv_sub hl [0, 2] rfl
      obtain ⟨z_97, e_98, rz_97, lz_97, uz_97⟩ := hO.gi h_a (by decide) k13_13
      obtain ⟨z_99, e_100, rz_99, lz_99, uz_99⟩ := hO.gi h_a (by decide) k13_14
      obtain ⟨z_101, e_102, rz_101, lz_101, uz_101⟩ := hO.gi h_a (by decide) k13_19
      exact ihJ_73 (0, z_97, z_99, z_101) σ_s_91 _ _ _ (by have h8 := hw_90.1.2; unfold pgo at h8; simp only [fg]; omega) ⟨hO, hF, hM, hsr, hH, hS, lv_sub hl [1, 0] rfl, (show rng 0 from ⟨by decide, by decide⟩), rz_97, rz_99, rz_101, by first | (dsimp only; omega) | omega, by first | (dsimp only; omega) | omega, by first | (dsimp only; omega) | omega, by first | (dsimp only; omega) | omega, by first | (dsimp only; omega) | omega, by first | (dsimp only; omega) | omega, by first | (dsimp only; omega) | omega, (hw_90.1.2.is (by first | (dsimp only; omega) | omega) (by first | (dsimp only; omega) | omega) (by first | (dsimp only; omega) | omega) (by first | (dsimp only; omega) | omega)), e_93, e_94, e_95, e_98, e_100, e_102⟩
    · replace c_96 := mt (I_eq (a := v1q72) (b := 0) rv1q72 (show rng 0 from ⟨by decide, by decide⟩)).mpr c_96
      refine lv_iload_n hx hb dX11_allOf_27 rfl (lv_at hl 0 rfl) ?_
      refine lv_if_eq (tgt := 35) hx hb dX11_allOf_28 (by decide) (fun c_103 => ?_) (fun c_103 => ?_)
      · replace c_103 := (I_eq (a := z_92) (b := 0) rz_92 (show rng 0 from ⟨by decide, by decide⟩)).mp c_103
        refine lv_iconst (v := I 0) hx hb dX11_allOf_35 (by decide) ?_
        refine lv_istore_n (lv' := [(1, .int (I 0)), (2, .int (I z_92)), (0, .ref a)]) hx hb dX11_allOf_36 rfl hl (by decide) rfl (fun ls hl => ?_)
        refine lv_goto (tgt := 5) hx hb dX11_allOf_37 (by decide) ?_
        replace hl : lv_has ls 3 [(1, .int (I 0)), (0, .ref a)] := lv_sub hl [0, 2] rfl
        obtain ⟨z_104, e_105, rz_104, lz_104, uz_104⟩ := hO.gi h_a (by decide) k13_13
        obtain ⟨z_106, e_107, rz_106, lz_106, uz_106⟩ := hO.gi h_a (by decide) k13_14
        obtain ⟨z_108, e_109, rz_108, lz_108, uz_108⟩ := hO.gi h_a (by decide) k13_19
        exact ihJ_73 (0, z_104, z_106, z_108) σ_s_91 _ _ _ (by have h8 := hw_90.1.2; unfold pgo at h8; simp only [fg]; omega) ⟨hO, hF, hM, hsr, hH, hS, lv_sub hl [1, 0] rfl, (show rng 0 from ⟨by decide, by decide⟩), rz_104, rz_106, rz_108, by first | (dsimp only; omega) | omega, by first | (dsimp only; omega) | omega, by first | (dsimp only; omega) | omega, by first | (dsimp only; omega) | omega, by first | (dsimp only; omega) | omega, by first | (dsimp only; omega) | omega, by first | (dsimp only; omega) | omega, (hw_90.1.2.is (by first | (dsimp only; omega) | omega) (by first | (dsimp only; omega) | omega) (by first | (dsimp only; omega) | omega) (by first | (dsimp only; omega) | omega)), e_93, e_94, e_95, e_105, e_107, e_109⟩
      · replace c_103 := mt (I_eq (a := z_92) (b := 0) rz_92 (show rng 0 from ⟨by decide, by decide⟩)).mpr c_103
        refine lv_iconst (v := I 1) hx hb dX11_allOf_31 (by decide) ?_
        refine lv_goto (tgt := 36) hx hb dX11_allOf_32 (by decide) ?_
        refine lv_istore_n (lv' := [(1, .int (I 1)), (2, .int (I z_92)), (0, .ref a)]) hx hb dX11_allOf_36 rfl hl (by decide) rfl (fun ls hl => ?_)
        refine lv_goto (tgt := 5) hx hb dX11_allOf_37 (by decide) ?_
        replace hl : lv_has ls 3 [(1, .int (I 1)), (0, .ref a)] := lv_sub hl [0, 2] rfl
        obtain ⟨z_110, e_111, rz_110, lz_110, uz_110⟩ := hO.gi h_a (by decide) k13_13
        obtain ⟨z_112, e_113, rz_112, lz_112, uz_112⟩ := hO.gi h_a (by decide) k13_14
        obtain ⟨z_114, e_115, rz_114, lz_114, uz_114⟩ := hO.gi h_a (by decide) k13_19
        exact ihJ_73 (1, z_110, z_112, z_114) σ_s_91 _ _ _ (by have h8 := hw_90.1.2; unfold pgo at h8; simp only [fg]; omega) ⟨hO, hF, hM, hsr, hH, hS, lv_sub hl [1, 0] rfl, (show rng 1 from ⟨by decide, by decide⟩), rz_110, rz_112, rz_114, by first | (dsimp only; omega) | omega, by first | (dsimp only; omega) | omega, by first | (dsimp only; omega) | omega, by first | (dsimp only; omega) | omega, by first | (dsimp only; omega) | omega, by first | (dsimp only; omega) | omega, by first | (dsimp only; omega) | omega, (hw_90.1.2.is (by first | (dsimp only; omega) | omega) (by first | (dsimp only; omega) | omega) (by first | (dsimp only; omega) | omega) (by first | (dsimp only; omega) | omega)), e_93, e_94, e_95, e_111, e_113, e_115⟩

set_option maxHeartbeats 4000000 in
set_option maxRecDepth 100000 in
theorem m_cond (n : Nat) (ih : ∀ (l : Launch) (G : va_G) (y : Nat → ClassId) (b0 : Nat) (σ : th_M) (E : th_E) (hO : ok y E σ) (a : Nat) (h_a : kd E a = 13) (f1 : Nat → Int32) (ef1 : aF σ (ad E a 1) = f1) (Bf : Int → Int) (hsr : sr E σ a Bf) (hy0 : wf f1 0 (mS f1 0)) (hy1 : 1 ≤ mS f1 0 ∧ mS f1 0 ≤ 60) (hy2 : 0 ≤ gI σ a 17 ∧ gI σ a 17 ≤ gI σ a 13 ∧ gI σ a 13 ≤ gI σ a 11 ∧ gI σ a 11 ≤ 400) (hy3 : -1 ≤ gI σ a 30 ∧ gI σ a 30 < mS f1 0) (hy4 : 0 ≤ gI σ a 28 ∧ gI σ a 28 ≤ 5) (hn : (5 - gI σ a 28).toNat < n), Met l yX11_atom wsX11_atom ({ frames := 5*n+12, cells := 0, slots := 0, locals := (180*n+400) }) (th_P G y b0 σ [.ref a]) (th_Qi G b0 (fun r σ1 => ok y E σ1 ∧ fr [13] E σ σ1 ∧ fm [13, 14, 15, 16, 17, 18, 19, 20, 27, 28] E σ σ1 a ∧ (0 ≤ r ∧ r ≤ 1) ∧ (((gI σ a 13 ≤ gI σ1 a 13 ∧ gI σ1 a 13 ≤ gI σ a 11 ∧ 0 ≤ gI σ1 a 17 ∧ gI σ1 a 17 ≤ gI σ1 a 13) ∧ pgo (gI σ1 a 19) (gI σ1 a 14) (gI σ a 13) (gI σ1 a 13)) ∧ gI σ1 a 28 = gI σ a 28))) 0 0 (th_A b0)) (l : Launch) (G : va_G) (y : Nat → ClassId) (b0 : Nat) (σ : th_M) (E : th_E) (hO : ok y E σ) (a : Nat) (h_a : kd E a = 13) (f1 : Nat → Int32) (ef1 : aF σ (ad E a 1) = f1) (Bf : Int → Int) (hsr : sr E σ a Bf) (hy0 : wf f1 0 (mS f1 0)) (hy1 : 1 ≤ mS f1 0 ∧ mS f1 0 ≤ 60) (hy2 : 0 ≤ gI σ a 17 ∧ gI σ a 17 ≤ gI σ a 13 ∧ gI σ a 13 ≤ gI σ a 11 ∧ gI σ a 11 ≤ 400) (hy3 : -1 ≤ gI σ a 30 ∧ gI σ a 30 < mS f1 0) (hy4 : 0 ≤ gI σ a 28 ∧ gI σ a 28 ≤ 5) (hy5 : (5 - gI σ a 28).toNat < n) : Met l yX11_cond wsX11_cond ({ frames := 5*n+16, cells := 0, slots := 0, locals := (180*n+500) }) (th_P G y b0 σ [.ref a]) (th_Qi G b0 (fun r σ1 => ok y E σ1 ∧ fr [13] E σ σ1 ∧ fm [13, 14, 15, 16, 17, 18, 19, 20, 27, 28] E σ σ1 a ∧ (0 ≤ r ∧ r ≤ 1) ∧ (((gI σ a 13 ≤ gI σ1 a 13 ∧ gI σ1 a 13 ≤ gI σ a 11 ∧ 0 ≤ gI σ1 a 17 ∧ gI σ1 a 17 ≤ gI σ1 a 13) ∧ pgo (gI σ1 a 19) (gI σ1 a 14) (gI σ a 13) (gI σ1 a 13)) ∧ gI σ1 a 28 = gI σ a 28))) 0 0 (th_A b0) := by
  refine Met.ofW (cc := cX11_cond) (maxL := 3) (ret := (some .boolean)) (by decide) rfl ?_
  intro p e s m args below meth c s₁ B hml hv
  obtain ⟨rfl, hH, hK⟩ := hv
  have hx := B.exec
  have hb := B.bytes
  have hr := B.returns
  have hts := atoms_spec (ws := wsX11_cond) B.pre
  have hown : s.vm.findClass RX11 = some m.cls := findClass_of_methodNamed B.named
  have hlocks := B.notSynchronized
  have h00 : b0 ≤ s.heap.size := hH.1
  have hS : va_S (th_A b0) s.heap s.heap [] := va_S.rf
  have hF : fr [13] E σ σ := fr.rf
  have hM : fm [13, 14, 15, 16, 17, 18, 19, 20, 27, 28] E σ σ a := fm.rf
  have hl := lv_entry ([.ref a]) (n := 3) (Nat.le_of_ble_eq_true rfl)
  rw [lg_entry_eq]
  generalize (lg_sl ([.ref a]) ++ List.replicate (3 - (lg_sl ([.ref a])).length) Slot.unset).toArray = ls at hl ⊢
  have hl : lv_has ls 3 [(0, .ref a)] := hl
  obtain ⟨a110, ea110, ra110, la110, ua110⟩ := hO.gi h_a (by decide) k13_11
  obtain ⟨a130, ea130, ra130, la130, ua130⟩ := hO.gi h_a (by decide) k13_13
  obtain ⟨a140, ea140, ra140, la140, ua140⟩ := hO.gi h_a (by decide) k13_14
  obtain ⟨a170, ea170, ra170, la170, ua170⟩ := hO.gi h_a (by decide) k13_17
  obtain ⟨a190, ea190, ra190, la190, ua190⟩ := hO.gi h_a (by decide) k13_19
  obtain ⟨a280, ea280, ra280, la280, ua280⟩ := hO.gi h_a (by decide) k13_28
  obtain ⟨a300, ea300, ra300, la300, ua300⟩ := hO.gi h_a (by decide) k13_30
  refine lv_aload_n hx hb dX11_cond_0 rfl (lv_at hl 0 rfl) ?_
  obtain ⟨_, hc_1⟩ := hO.cell h_a (by decide) (ci := 11) rfl
  refine th_calli (va_runV (As := []) (rest := []) ⟨hx, hb, hml, hown, hts⟩ (m_allOf n ih l G y b0 σ E hO a h_a f1 ef1 Bf hsr (hy0) (by omega) (by omega) (by omega) (by omega) (by omega)) (cwV 0 hts gX11_cond_X11_allOf rfl rfl rfl (by decide +kernel) ⟨(by first | (simp only [headSpec]; omega) | omega | (dsimp only; omega)), (by first | (simp only [headSpec]; omega) | omega | (dsimp only; omega))⟩) (th_PV hK hH rfl hc_1) rfl rfl hl.1 rfl (lv_room (Nat.le_of_ble_eq_true rfl)) dX11_cond_1 ⟨(by first | (simp only [headSpec]; omega) | omega | (dsimp only; omega)), (by first | (simp only [headSpec]; omega) | omega | (dsimp only; omega))⟩) hS (fun z_4 σ_s_3 H locs rz_4 hw_2 hH hS => ?_)
  obtain ⟨hO9, hF9, hM9, bhw_2, hw_2⟩ := hw_2
  replace hM := hM.tu hM9 (by decide)
  replace hF := hF.tu hF9 (by decide)
  have e_5 : aF σ_s_3 (ad E a 1) = f1 := (hM9.a (by decide) (by decide)).trans ef1
  have e_6 : gI σ_s_3 a 11 = a110 := (hM9.i (by decide)).trans ea110
  have e_7 : gI σ_s_3 a 30 = a300 := (hM9.i (by decide)).trans ea300
  replace hsr := hsr.mv hM9 (by decide) (by decide) (by decide) (by decide) (by decide)
  replace hO := hO9
  have hw_2 : ((gI σ a 13 ≤ gI σ_s_3 a 13 ∧ gI σ_s_3 a 13 ≤ gI σ a 11 ∧ 0 ≤ gI σ_s_3 a 17 ∧ gI σ_s_3 a 17 ≤ gI σ_s_3 a 13) ∧ pgo (gI σ_s_3 a 19) (gI σ_s_3 a 14) (gI σ a 13) (gI σ_s_3 a 13)) ∧ gI σ_s_3 a 28 = gI σ a 28 := hw_2
  refine lv_istore_n (lv' := [(1, .int (I z_4)), (0, .ref a)]) hx hb dX11_cond_4 rfl hl (by decide) rfl (fun ls hl => ?_)
  obtain ⟨z_8, e_9, rz_8, lz_8, uz_8⟩ := hO.gi h_a (by decide) k13_13
  obtain ⟨z_10, e_11, rz_10, lz_10, uz_10⟩ := hO.gi h_a (by decide) k13_14
  obtain ⟨z_12, e_13, rz_12, lz_12, uz_12⟩ := hO.gi h_a (by decide) k13_19
  refine th_loop (α := Int × Int × Int × Int) (pc := 5) (fun x9 => (2 * (gI σ a 11 - x9.2.1) + fg x9.2.2.2 x9.2.2.1).toNat) (fun x9 σ9 H9 l9 ls9 => ok y E σ9 ∧ fr [13] E σ σ9 ∧ fm [13, 14, 15, 16, 17, 18, 19, 20, 27, 28] E σ σ9 a ∧ sr E σ9 a Bf ∧ th_H G b0 σ9 H9 ∧ va_S (th_A b0) s.heap H9 l9 ∧ lv_has ls9 3 [(0, .ref a), (1, .int (I x9.1))] ∧ rng x9.1 ∧ rng x9.2.1 ∧ rng x9.2.2.1 ∧ rng x9.2.2.2 ∧ (gI σ a 13 ≤ x9.2.1) ∧ (x9.2.1 ≤ gI σ a 11) ∧ (0 ≤ gI σ9 a 17) ∧ (gI σ9 a 17 ≤ x9.2.1) ∧ (0 ≤ x9.1) ∧ (x9.1 ≤ 1) ∧ (gI σ9 a 28 = gI σ a 28) ∧ (pgo x9.2.2.2 x9.2.2.1 (gI σ a 13) x9.2.1) ∧ (gI σ9 a 11 = a110) ∧ (gI σ9 a 30 = a300) ∧ (aF σ9 (ad E a 1) = f1) ∧ (gI σ9 a 13 = x9.2.1) ∧ (gI σ9 a 14 = x9.2.2.1) ∧ (gI σ9 a 19 = x9.2.2.2)) ?_ (z_4, z_8, z_10, z_12) σ_s_3 _ _ _ ⟨hO, hF, hM, hsr, hH, hS, lv_sub hl [1, 0] rfl, rz_4, rz_8, rz_10, rz_12, by first | (dsimp only; omega) | omega, by first | (dsimp only; omega) | omega, by first | (dsimp only; omega) | omega, by first | (dsimp only; omega) | omega, by first | (dsimp only; omega) | omega, by first | (dsimp only; omega) | omega, by first | (dsimp only; omega) | omega, (hw_2.1.2.is (by first | (dsimp only; omega) | omega) (by first | (dsimp only; omega) | omega) (by first | (dsimp only; omega) | omega) (by first | (dsimp only; omega) | omega)), e_6, e_7, e_5, e_9, e_11, e_13⟩
  intro x9 σ_J_73 H locs ls hI9 ihJ_73
  obtain ⟨v1q72, G13q69, G14q70, G19q71⟩ := x9
  obtain ⟨hO, hF, hM, hsr, hH, hS, hl, rv1q72, rG13q69, rG14q70, rG19q71, J_73_0, J_73_1, J_73_2, J_73_3, J_73_4, J_73_5, J_73_6, J_73_7, J_73_8, J_73_9, J_73_10, J_73_11, J_73_12, J_73_13⟩ := hI9
  have hl : lv_has ls 3 [(0, .ref a), (1, .int (I v1q72))] := hl
  have rv1q72 : rng v1q72 := rv1q72
  have rG13q69 : rng G13q69 := rG13q69
  have rG14q70 : rng G14q70 := rG14q70
  have rG19q71 : rng G19q71 := rG19q71
  have J_73_0 : gI σ a 13 ≤ G13q69 := J_73_0
  have J_73_1 : G13q69 ≤ gI σ a 11 := J_73_1
  have J_73_2 : 0 ≤ gI σ_J_73 a 17 := J_73_2
  have J_73_3 : gI σ_J_73 a 17 ≤ G13q69 := J_73_3
  have J_73_4 : 0 ≤ v1q72 := J_73_4
  have J_73_5 : v1q72 ≤ 1 := J_73_5
  have J_73_6 : gI σ_J_73 a 28 = gI σ a 28 := J_73_6
  have J_73_7 : pgo G19q71 G14q70 (gI σ a 13) G13q69 := J_73_7
  have J_73_8 : gI σ_J_73 a 11 = a110 := J_73_8
  have J_73_9 : gI σ_J_73 a 30 = a300 := J_73_9
  have J_73_10 : aF σ_J_73 (ad E a 1) = f1 := J_73_10
  have J_73_11 : gI σ_J_73 a 13 = G13q69 := J_73_11
  have J_73_12 : gI σ_J_73 a 14 = G14q70 := J_73_12
  have J_73_13 : gI σ_J_73 a 19 = G19q71 := J_73_13
  refine lv_aload_n hx hb dX11_cond_5 rfl (lv_at hl 0 rfl) ?_
  refine lv_bipush (v := I 124) hx hb dX11_cond_6 (by decide) ?_
  obtain ⟨_, hc_74⟩ := hO.cell h_a (by decide) (ci := 11) rfl
  refine th_calli (va_runV (As := [.int (I 124)]) (rest := []) ⟨hx, hb, hml, hown, hts⟩ (m_isMarked l G y b0 σ_J_73 E hO a h_a 124 (show rng 124 from (show rng 124 from ⟨by decide, by decide⟩)) Bf hsr (by omega)) (cwV 1 hts gX11_cond_X11_isMarked rfl rfl rfl (by decide +kernel) ⟨(by first | (simp only [headSpec]; omega) | omega | (dsimp only; omega)), (by first | (simp only [headSpec]; omega) | omega | (dsimp only; omega))⟩) (th_PV hK hH rfl hc_74) rfl rfl hl.1 rfl (lv_room (Nat.le_of_ble_eq_true rfl)) dX11_cond_8 ⟨(by first | (simp only [headSpec]; omega) | omega | (dsimp only; omega)), (by first | (simp only [headSpec]; omega) | omega | (dsimp only; omega))⟩) hS (fun z_77 σ_s_76 H locs rz_77 hw_75 hH hS => ?_)
  obtain ⟨e9, bhw_75, hw_75⟩ := hw_75
  replace e9 := e9.symm
  subst e9
  have hw_75 : z_77 = 0 ∨ (z_77 = 1 ∧ gI σ_J_73 a 19 = 0 ∧ gI σ_J_73 a 14 = 3 ∧ Bf (gI σ_J_73 a 17) = 124) := hw_75
  refine lv_if_eq (tgt := 40) hx hb dX11_cond_11 (by decide) (fun c_78 => ?_) (fun c_78 => ?_)
  · replace c_78 := (I_eq (a := z_77) (b := 0) rz_77 (show rng 0 from ⟨by decide, by decide⟩)).mp c_78
    clear hw_75
    refine lv_iload_n hx hb dX11_cond_40 rfl (lv_at hl 1 rfl) ?_
    exact th_zret hx hb hr hlocks hH hS (z := v1q72) (by omega) ⟨hO, hF, hM, ⟨by omega, by omega⟩, ⟨⟨by omega, J_73_7.is (by first | (dsimp only; omega) | omega) (by first | (dsimp only; omega) | omega) (by first | (dsimp only; omega) | omega) (by first | (dsimp only; omega) | omega)⟩, by omega⟩⟩ dX11_cond_41
  · replace c_78 := mt (I_eq (a := z_77) (b := 0) rz_77 (show rng 0 from ⟨by decide, by decide⟩)).mpr c_78
    replace hw_75 := (hw_75.resolve_left c_78).2
    refine lv_aload_n hx hb dX11_cond_14 rfl (lv_at hl 0 rfl) ?_
    obtain ⟨z_79, e_80, rz_79, lz_79, uz_79⟩ := hO.gi h_a (by decide) k13_28
    obtain ⟨_, hc_81⟩ := hO.cell h_a (by decide) (ci := 11) rfl
    refine th_callv (va_runV (As := []) (rest := []) ⟨hx, hb, hml, hown, hts⟩ (m_pass l G y b0 σ_J_73 E hO a h_a Bf hsr (by omega)) (cwV 0 hts gX11_cond_X11_pass rfl rfl rfl (by decide +kernel) ⟨(by first | (simp only [headSpec]; omega) | omega | (dsimp only; omega)), (by first | (simp only [headSpec]; omega) | omega | (dsimp only; omega))⟩) (th_PV hK hH rfl hc_81) rfl rfl hl.1 rfl (lv_room (Nat.le_of_ble_eq_true rfl)) dX11_cond_15 ⟨(by first | (simp only [headSpec]; omega) | omega | (dsimp only; omega)), (by first | (simp only [headSpec]; omega) | omega | (dsimp only; omega))⟩) hS (fun σ_s_83 H locs hw_82 hH hS => ?_)
    obtain ⟨hO9, hF9, hM9, hw_82⟩ := hw_82
    replace hM := hM.tu hM9 (by decide)
    replace hF := hF.tu hF9 (by decide)
    have e_84 : gI σ_s_83 a 11 = a110 := (hM9.i (by decide)).trans J_73_8
    have e_85 : gI σ_s_83 a 30 = a300 := (hM9.i (by decide)).trans J_73_9
    have e_86 : aF σ_s_83 (ad E a 1) = f1 := (hM9.a (by decide) (by decide)).trans J_73_10
    have e_87 : gI σ_s_83 a 19 = G19q71 := (hM9.i (by decide)).trans J_73_13
    have e_88 : gI σ_s_83 a 28 = z_79 := (hM9.i (by decide)).trans e_80
    replace hsr := hsr.mv hM9 (by decide) (by decide) (by decide) (by decide) (by decide)
    replace hO := hO9
    have hw_82 : (gI σ_J_73 a 13 ≤ gI σ_s_83 a 13 ∧ gI σ_s_83 a 13 ≤ gI σ_J_73 a 11 ∧ 0 ≤ gI σ_s_83 a 17 ∧ gI σ_s_83 a 17 ≤ gI σ_s_83 a 13) ∧ pgo (gI σ_s_83 a 19) (gI σ_s_83 a 14) (gI σ_J_73 a 13) (gI σ_s_83 a 13) ∧ gI σ_s_83 a 19 = gI σ_J_73 a 19 := hw_82
    refine lv_aload_n hx hb dX11_cond_18 rfl (lv_at hl 0 rfl) ?_
    obtain ⟨_, hc_89⟩ := hO.cell h_a (by decide) (ci := 11) rfl
    refine th_calli (va_runV (As := []) (rest := []) ⟨hx, hb, hml, hown, hts⟩ (m_allOf n ih l G y b0 σ_s_83 E hO a h_a f1 e_86 Bf hsr (hy0) (by omega) (by omega) (by omega) (by omega) (by omega)) (cwV 0 hts gX11_cond_X11_allOf rfl rfl rfl (by decide +kernel) ⟨(by first | (simp only [headSpec]; omega) | omega | (dsimp only; omega)), (by first | (simp only [headSpec]; omega) | omega | (dsimp only; omega))⟩) (th_PV hK hH rfl hc_89) rfl rfl hl.1 rfl (lv_room (Nat.le_of_ble_eq_true rfl)) dX11_cond_19 ⟨(by first | (simp only [headSpec]; omega) | omega | (dsimp only; omega)), (by first | (simp only [headSpec]; omega) | omega | (dsimp only; omega))⟩) hS (fun z_92 σ_s_91 H locs rz_92 hw_90 hH hS => ?_)
    obtain ⟨hO9, hF9, hM9, bhw_90, hw_90⟩ := hw_90
    replace hM := hM.tu hM9 (by decide)
    replace hF := hF.tu hF9 (by decide)
    have e_93 : gI σ_s_91 a 11 = a110 := (hM9.i (by decide)).trans e_84
    have e_94 : gI σ_s_91 a 30 = a300 := (hM9.i (by decide)).trans e_85
    have e_95 : aF σ_s_91 (ad E a 1) = f1 := (hM9.a (by decide) (by decide)).trans e_86
    replace hsr := hsr.mv hM9 (by decide) (by decide) (by decide) (by decide) (by decide)
    replace hO := hO9
    have hw_90 : ((gI σ_s_83 a 13 ≤ gI σ_s_91 a 13 ∧ gI σ_s_91 a 13 ≤ gI σ_s_83 a 11 ∧ 0 ≤ gI σ_s_91 a 17 ∧ gI σ_s_91 a 17 ≤ gI σ_s_91 a 13) ∧ pgo (gI σ_s_91 a 19) (gI σ_s_91 a 14) (gI σ_s_83 a 13) (gI σ_s_91 a 13)) ∧ gI σ_s_91 a 28 = gI σ_s_83 a 28 := hw_90
    refine lv_istore_n (lv' := [(2, .int (I z_92)), (0, .ref a), (1, .int (I v1q72))]) hx hb dX11_cond_22 rfl hl (by decide) rfl (fun ls hl => ?_)
    refine lv_iload_n hx hb dX11_cond_23 rfl (lv_at hl 2 rfl) ?_
    refine lv_if_ne (tgt := 31) hx hb dX11_cond_24 (by decide) (fun c_96 => ?_) (fun c_96 => ?_)
    · replace c_96 := mt (I_eq (a := v1q72) (b := 0) rv1q72 (show rng 0 from ⟨by decide, by decide⟩)).mpr c_96
      refine lv_iconst (v := I 1) hx hb dX11_cond_31 (by decide) ?_
      refine lv_goto (tgt := 36) hx hb dX11_cond_32 (by decide) ?_
      refine lv_istore_n (lv' := [(1, .int (I 1)), (2, .int (I z_92)), (0, .ref a)]) hx hb dX11_cond_36 rfl hl (by decide) rfl (fun ls hl => ?_)
      refine lv_goto (tgt := 5) hx hb dX11_cond_37 (by decide) ?_
      replace hl : lv_has ls 3 [(1, .int (I 1)), (0, .ref a)] := lv_sub hl [0, 2] rfl
      obtain ⟨z_97, e_98, rz_97, lz_97, uz_97⟩ := hO.gi h_a (by decide) k13_13
      obtain ⟨z_99, e_100, rz_99, lz_99, uz_99⟩ := hO.gi h_a (by decide) k13_14
      obtain ⟨z_101, e_102, rz_101, lz_101, uz_101⟩ := hO.gi h_a (by decide) k13_19
      exact ihJ_73 (1, z_97, z_99, z_101) σ_s_91 _ _ _ (by have h8 := hw_90.1.2; unfold pgo at h8; simp only [fg]; omega) ⟨hO, hF, hM, hsr, hH, hS, lv_sub hl [1, 0] rfl, (show rng 1 from ⟨by decide, by decide⟩), rz_97, rz_99, rz_101, by first | (dsimp only; omega) | omega, by first | (dsimp only; omega) | omega, by first | (dsimp only; omega) | omega, by first | (dsimp only; omega) | omega, by first | (dsimp only; omega) | omega, by first | (dsimp only; omega) | omega, by first | (dsimp only; omega) | omega, (hw_90.1.2.is (by first | (dsimp only; omega) | omega) (by first | (dsimp only; omega) | omega) (by first | (dsimp only; omega) | omega) (by first | (dsimp only; omega) | omega)), e_93, e_94, e_95, e_98, e_100, e_102⟩
    · replace c_96 := (I_eq (a := v1q72) (b := 0) rv1q72 (show rng 0 from ⟨by decide, by decide⟩)).mp c_96
      refine lv_iload_n hx hb dX11_cond_27 rfl (lv_at hl 0 rfl) ?_
      refine lv_if_eq (tgt := 35) hx hb dX11_cond_28 (by decide) (fun c_103 => ?_) (fun c_103 => ?_)
      · replace c_103 := (I_eq (a := z_92) (b := 0) rz_92 (show rng 0 from ⟨by decide, by decide⟩)).mp c_103
        refine lv_iconst (v := I 0) hx hb dX11_cond_35 (by decide) ?_
        refine lv_istore_n (lv' := [(1, .int (I 0)), (2, .int (I z_92)), (0, .ref a)]) hx hb dX11_cond_36 rfl hl (by decide) rfl (fun ls hl => ?_)
        refine lv_goto (tgt := 5) hx hb dX11_cond_37 (by decide) ?_
        replace hl : lv_has ls 3 [(1, .int (I 0)), (0, .ref a)] := lv_sub hl [0, 2] rfl
        obtain ⟨z_104, e_105, rz_104, lz_104, uz_104⟩ := hO.gi h_a (by decide) k13_13
        obtain ⟨z_106, e_107, rz_106, lz_106, uz_106⟩ := hO.gi h_a (by decide) k13_14
        obtain ⟨z_108, e_109, rz_108, lz_108, uz_108⟩ := hO.gi h_a (by decide) k13_19
        exact ihJ_73 (0, z_104, z_106, z_108) σ_s_91 _ _ _ (by have h8 := hw_90.1.2; unfold pgo at h8; simp only [fg]; omega) ⟨hO, hF, hM, hsr, hH, hS, lv_sub hl [1, 0] rfl, (show rng 0 from ⟨by decide, by decide⟩), rz_104, rz_106, rz_108, by first | (dsimp only; omega) | omega, by first | (dsimp only; omega) | omega, by first | (dsimp only; omega) | omega, by first | (dsimp only; omega) | omega, by first | (dsimp only; omega) | omega, by first | (dsimp only; omega) | omega, by first | (dsimp only; omega) | omega, (hw_90.1.2.is (by first | (dsimp only; omega) | omega) (by first | (dsimp only; omega) | omega) (by first | (dsimp only; omega) | omega) (by first | (dsimp only; omega) | omega)), e_93, e_94, e_95, e_105, e_107, e_109⟩
      · replace c_103 := mt (I_eq (a := z_92) (b := 0) rz_92 (show rng 0 from ⟨by decide, by decide⟩)).mpr c_103
        refine lv_iconst (v := I 1) hx hb dX11_cond_31 (by decide) ?_
        refine lv_goto (tgt := 36) hx hb dX11_cond_32 (by decide) ?_
        refine lv_istore_n (lv' := [(1, .int (I 1)), (2, .int (I z_92)), (0, .ref a)]) hx hb dX11_cond_36 rfl hl (by decide) rfl (fun ls hl => ?_)
        refine lv_goto (tgt := 5) hx hb dX11_cond_37 (by decide) ?_
        replace hl : lv_has ls 3 [(1, .int (I 1)), (0, .ref a)] := lv_sub hl [0, 2] rfl
        obtain ⟨z_110, e_111, rz_110, lz_110, uz_110⟩ := hO.gi h_a (by decide) k13_13
        obtain ⟨z_112, e_113, rz_112, lz_112, uz_112⟩ := hO.gi h_a (by decide) k13_14
        obtain ⟨z_114, e_115, rz_114, lz_114, uz_114⟩ := hO.gi h_a (by decide) k13_19
        exact ihJ_73 (1, z_110, z_112, z_114) σ_s_91 _ _ _ (by have h8 := hw_90.1.2; unfold pgo at h8; simp only [fg]; omega) ⟨hO, hF, hM, hsr, hH, hS, lv_sub hl [1, 0] rfl, (show rng 1 from ⟨by decide, by decide⟩), rz_110, rz_112, rz_114, by first | (dsimp only; omega) | omega, by first | (dsimp only; omega) | omega, by first | (dsimp only; omega) | omega, by first | (dsimp only; omega) | omega, by first | (dsimp only; omega) | omega, by first | (dsimp only; omega) | omega, by first | (dsimp only; omega) | omega, (hw_90.1.2.is (by first | (dsimp only; omega) | omega) (by first | (dsimp only; omega) | omega) (by first | (dsimp only; omega) | omega) (by first | (dsimp only; omega) | omega)), e_93, e_94, e_95, e_111, e_113, e_115⟩

set_option maxHeartbeats 4000000 in
set_option maxRecDepth 100000 in
theorem m_atom (n : Nat) : ∀ (l : Launch) (G : va_G) (y : Nat → ClassId) (b0 : Nat) (σ : th_M) (E : th_E) (hO : ok y E σ) (a : Nat) (h_a : kd E a = 13) (f1 : Nat → Int32) (ef1 : aF σ (ad E a 1) = f1) (Bf : Int → Int) (hsr : sr E σ a Bf) (hy0 : wf f1 0 (mS f1 0)) (hy1 : 1 ≤ mS f1 0 ∧ mS f1 0 ≤ 60) (hy2 : 0 ≤ gI σ a 17 ∧ gI σ a 17 ≤ gI σ a 13 ∧ gI σ a 13 ≤ gI σ a 11 ∧ gI σ a 11 ≤ 400) (hy3 : -1 ≤ gI σ a 30 ∧ gI σ a 30 < mS f1 0) (hy4 : 0 ≤ gI σ a 28 ∧ gI σ a 28 ≤ 5) (hn : (5 - gI σ a 28).toNat < n), Met l yX11_atom wsX11_atom ({ frames := 5*n+12, cells := 0, slots := 0, locals := (180*n+400) }) (th_P G y b0 σ [.ref a]) (th_Qi G b0 (fun r σ1 => ok y E σ1 ∧ fr [13] E σ σ1 ∧ fm [13, 14, 15, 16, 17, 18, 19, 20, 27, 28] E σ σ1 a ∧ (0 ≤ r ∧ r ≤ 1) ∧ (((gI σ a 13 ≤ gI σ1 a 13 ∧ gI σ1 a 13 ≤ gI σ a 11 ∧ 0 ≤ gI σ1 a 17 ∧ gI σ1 a 17 ≤ gI σ1 a 13) ∧ pgo (gI σ1 a 19) (gI σ1 a 14) (gI σ a 13) (gI σ1 a 13)) ∧ gI σ1 a 28 = gI σ a 28))) 0 0 (th_A b0) := by
  induction n with
  | zero => intro l G y b0 σ E hO a h_a f1 ef1 Bf hsr hy0 hy1 hy2 hy3 hy4 hn; exact absurd hn (Nat.not_lt_zero _)
  | succ n ih =>
    intro l G y b0 σ E hO a h_a f1 ef1 Bf hsr hy0 hy1 hy2 hy3 hy4 hn
    refine Met.ofW (cc := cX11_atom) (maxL := 3) (ret := (some .boolean)) (by decide) rfl ?_
    intro p e s m args below meth c s₁ B hml hv
    obtain ⟨rfl, hH, hK⟩ := hv
    have hx := B.exec
    have hb := B.bytes
    have hr := B.returns
    have hts := atoms_spec (ws := wsX11_atom) B.pre
    have hown : s.vm.findClass RX11 = some m.cls := findClass_of_methodNamed B.named
    have hlocks := B.notSynchronized
    have h00 : b0 ≤ s.heap.size := hH.1
    have hS : va_S (th_A b0) s.heap s.heap [] := va_S.rf
    have hF : fr [13] E σ σ := fr.rf
    have hM : fm [13, 14, 15, 16, 17, 18, 19, 20, 27, 28] E σ σ a := fm.rf
    have inX11 : ∀ w ∈ wsX110, w ∈ wsX11_atom := by decide +kernel
    have fl0 := hts (.fieldLink RX11 279 "NestQueryModel" "nested" "I") (by decide +kernel)
    have hl := lv_entry ([.ref a]) (n := 3) (Nat.le_of_ble_eq_true rfl)
    rw [lg_entry_eq]
    generalize (lg_sl ([.ref a]) ++ List.replicate (3 - (lg_sl ([.ref a])).length) Slot.unset).toArray = ls at hl ⊢
    have hl : lv_has ls 3 [(0, .ref a)] := hl
    obtain ⟨a110, ea110, ra110, la110, ua110⟩ := hO.gi h_a (by decide) k13_11
    obtain ⟨a130, ea130, ra130, la130, ua130⟩ := hO.gi h_a (by decide) k13_13
    obtain ⟨a140, ea140, ra140, la140, ua140⟩ := hO.gi h_a (by decide) k13_14
    obtain ⟨a170, ea170, ra170, la170, ua170⟩ := hO.gi h_a (by decide) k13_17
    obtain ⟨a190, ea190, ra190, la190, ua190⟩ := hO.gi h_a (by decide) k13_19
    obtain ⟨a280, ea280, ra280, la280, ua280⟩ := hO.gi h_a (by decide) k13_28
    obtain ⟨a300, ea300, ra300, la300, ua300⟩ := hO.gi h_a (by decide) k13_30
    refine lv_aload_n hx hb dX11_atom_0 rfl (lv_at hl 0 rfl) ?_
    refine lv_bipush (v := I 33) hx hb dX11_atom_1 (by decide) ?_
    obtain ⟨_, hc_1⟩ := hO.cell h_a (by decide) (ci := 11) rfl
    refine th_calli (va_runV (As := [.int (I 33)]) (rest := []) ⟨hx, hb, hml, hown, hts⟩ (m_isMarkedX l G y b0 σ E hO a h_a 33 (show rng 33 from (show rng 33 from ⟨by decide, by decide⟩)) Bf hsr (by omega)) (cwV 1 hts gX11_atom_X11_isMarked rfl rfl rfl (by decide +kernel) ⟨(by first | (simp only [headSpec]; omega) | omega | (dsimp only; omega)), (by first | (simp only [headSpec]; omega) | omega | (dsimp only; omega))⟩) (th_PV hK hH rfl hc_1) rfl rfl hl.1 rfl (lv_room (Nat.le_of_ble_eq_true rfl)) dX11_atom_3 ⟨(by first | (simp only [headSpec]; omega) | omega | (dsimp only; omega)), (by first | (simp only [headSpec]; omega) | omega | (dsimp only; omega))⟩) hS (fun z_4 σ_s_3 H locs rz_4 hw_2 hH hS => ?_)
    obtain ⟨e9, bhw_2, hw_2⟩ := hw_2
    replace e9 := e9.symm
    subst e9
    have hw_2 : (z_4 = 1 ∧ mkd (gI σ a 19) (gI σ a 14) (Bf (gI σ a 17)) 33) ∨ (z_4 = 0 ∧ ¬ mkd (gI σ a 19) (gI σ a 14) (Bf (gI σ a 17)) 33) := hw_2
    refine lv_if_ne (tgt := 18) hx hb dX11_atom_6 (by decide) (fun c_5 => ?_) (fun c_5 => ?_)
    · replace c_5 := mt (I_eq (a := z_4) (b := 0) rz_4 (show rng 0 from ⟨by decide, by decide⟩)).mpr c_5
      replace hw_2 := (hw_2.resolve_right (fun h9 => absurd h9.1 (by omega))).2
      refine lv_iconst (v := I 1) hx hb dX11_atom_18 (by decide) ?_
      refine lv_goto (tgt := 23) hx hb dX11_atom_19 (by decide) ?_
      refine lv_istore_n (lv' := [(1, .int (I 1)), (0, .ref a)]) hx hb dX11_atom_23 rfl hl (by decide) rfl (fun ls hl => ?_)
      refine lv_iload_n hx hb dX11_atom_24 rfl (lv_at hl 0 rfl) ?_
      refine lv_if_eq (tgt := 41) hx hb dX11_atom_25 (by decide) (fun c_6 => absurd c_6 (by decide)) (fun _ => ?_)
      refine lv_aload_n hx hb dX11_atom_28 rfl (lv_at hl 1 rfl) ?_
      refine ok.getIc hO h_a (by decide) k13_28 ea280 (fun _ _ he hv kk => th_get (ci := 11) (C := RX11) (T := TX11) (N := 66) hx hb hts inX11 hown hK hH he rfl 28 (by decide) fl0 hv dX11_atom_29 kk) ?_
      refine lv_iconst (v := I 5) hx hb dX11_atom_32 (by decide) ?_
      refine lv_icmp_ne (tgt := 41) hx hb dX11_atom_33 (by decide) (fun c_7 => ?_) (fun c_7 => ?_)
      · replace c_7 := mt (I_eq (a := a280) (b := 5) ra280 (show rng 5 from ⟨by decide, by decide⟩)).mpr c_7
        refine lv_aload_n hx hb dX11_atom_41 rfl (lv_at hl 1 rfl) ?_
        refine lv_bipush (v := I 33) hx hb dX11_atom_42 (by decide) ?_
        obtain ⟨_, hc_8⟩ := hO.cell h_a (by decide) (ci := 11) rfl
        refine th_calli (va_runV (As := [.int (I 33)]) (rest := []) ⟨hx, hb, hml, hown, hts⟩ (m_isMarkedX l G y b0 σ E hO a h_a 33 (show rng 33 from (show rng 33 from ⟨by decide, by decide⟩)) Bf hsr (by omega)) (cwV 1 hts gX11_atom_X11_isMarked rfl rfl rfl (by decide +kernel) ⟨(by first | (simp only [headSpec]; omega) | omega | (dsimp only; omega)), (by first | (simp only [headSpec]; omega) | omega | (dsimp only; omega))⟩) (th_PV hK hH rfl hc_8) rfl rfl hl.1 rfl (lv_room (Nat.le_of_ble_eq_true rfl)) dX11_atom_44 ⟨(by first | (simp only [headSpec]; omega) | omega | (dsimp only; omega)), (by first | (simp only [headSpec]; omega) | omega | (dsimp only; omega))⟩) hS (fun z_11 σ_s_10 H locs rz_11 hw_9 hH hS => ?_)
        obtain ⟨e9, bhw_9, hw_9⟩ := hw_9
        replace e9 := e9.symm
        subst e9
        have hw_9 : (z_11 = 1 ∧ mkd (gI σ a 19) (gI σ a 14) (Bf (gI σ a 17)) 33) ∨ (z_11 = 0 ∧ ¬ mkd (gI σ a 19) (gI σ a 14) (Bf (gI σ a 17)) 33) := hw_9
        refine lv_if_eq (tgt := 89) hx hb dX11_atom_47 (by decide) (fun c_12 => ?_) (fun c_12 => ?_)
        · replace c_12 := (I_eq (a := z_11) (b := 0) rz_11 (show rng 0 from ⟨by decide, by decide⟩)).mp c_12
          replace hw_9 := (hw_9.resolve_left (fun h9 => absurd h9.1 (by omega))).2
          refine lv_aload_n hx hb dX11_atom_89 rfl (lv_at hl 1 rfl) ?_
          refine lv_bipush (v := I 40) hx hb dX11_atom_90 (by decide) ?_
          obtain ⟨_, hc_13⟩ := hO.cell h_a (by decide) (ci := 11) rfl
          refine th_calli (va_runV (As := [.int (I 40)]) (rest := []) ⟨hx, hb, hml, hown, hts⟩ (m_isMarkedX l G y b0 σ E hO a h_a 40 (show rng 40 from (show rng 40 from ⟨by decide, by decide⟩)) Bf hsr (by omega)) (cwV 1 hts gX11_atom_X11_isMarked rfl rfl rfl (by decide +kernel) ⟨(by first | (simp only [headSpec]; omega) | omega | (dsimp only; omega)), (by first | (simp only [headSpec]; omega) | omega | (dsimp only; omega))⟩) (th_PV hK hH rfl hc_13) rfl rfl hl.1 rfl (lv_room (Nat.le_of_ble_eq_true rfl)) dX11_atom_92 ⟨(by first | (simp only [headSpec]; omega) | omega | (dsimp only; omega)), (by first | (simp only [headSpec]; omega) | omega | (dsimp only; omega))⟩) hS (fun z_16 σ_s_15 H locs rz_16 hw_14 hH hS => ?_)
          obtain ⟨e9, bhw_14, hw_14⟩ := hw_14
          replace e9 := e9.symm
          subst e9
          have hw_14 : (z_16 = 1 ∧ mkd (gI σ a 19) (gI σ a 14) (Bf (gI σ a 17)) 40) ∨ (z_16 = 0 ∧ ¬ mkd (gI σ a 19) (gI σ a 14) (Bf (gI σ a 17)) 40) := hw_14
          refine lv_if_eq (tgt := 135) hx hb dX11_atom_95 (by decide) (fun c_17 => ?_) (fun c_17 => ?_)
          · replace c_17 := (I_eq (a := z_16) (b := 0) rz_16 (show rng 0 from ⟨by decide, by decide⟩)).mp c_17
            replace hw_14 := (hw_14.resolve_left (fun h9 => absurd h9.1 (by omega))).2
            refine lv_aload_n hx hb dX11_atom_135 rfl (lv_at hl 1 rfl) ?_
            obtain ⟨_, hc_18⟩ := hO.cell h_a (by decide) (ci := 11) rfl
            refine th_calli (va_runV (As := []) (rest := []) ⟨hx, hb, hml, hown, hts⟩ (m_little l G y b0 σ E hO a h_a f1 ef1 Bf hsr (hy0) (by omega) (by omega) (by omega)) (cwV 0 hts gX11_atom_X11_little rfl rfl rfl (by decide +kernel) ⟨(by first | (simp only [headSpec]; omega) | omega | (dsimp only; omega)), (by first | (simp only [headSpec]; omega) | omega | (dsimp only; omega))⟩) (th_PV hK hH rfl hc_18) rfl rfl hl.1 rfl (lv_room (Nat.le_of_ble_eq_true rfl)) dX11_atom_136 ⟨(by first | (simp only [headSpec]; omega) | omega | (dsimp only; omega)), (by first | (simp only [headSpec]; omega) | omega | (dsimp only; omega))⟩) hS (fun z_21 σ_s_20 H locs rz_21 hw_19 hH hS => ?_)
            obtain ⟨hO9, hF9, hM9, bhw_19, hw_19⟩ := hw_19
            replace hM := hM.tu hM9 (by decide)
            replace hF := hF.tu hF9 (by decide)
            have e_22 : aF σ_s_20 (ad E a 1) = f1 := (hM9.a (by decide) (by decide)).trans ef1
            have e_23 : gI σ_s_20 a 11 = a110 := (hM9.i (by decide)).trans ea110
            have e_24 : gI σ_s_20 a 28 = a280 := (hM9.i (by decide)).trans ea280
            have e_25 : gI σ_s_20 a 30 = a300 := (hM9.i (by decide)).trans ea300
            replace hsr := hsr.mv hM9 (by decide) (by decide) (by decide) (by decide) (by decide)
            replace hO := hO9
            have hw_19 : (gI σ a 13 ≤ gI σ_s_20 a 13 ∧ gI σ_s_20 a 13 ≤ gI σ a 11 ∧ 0 ≤ gI σ_s_20 a 17 ∧ gI σ_s_20 a 17 ≤ gI σ_s_20 a 13) ∧ pgo (gI σ_s_20 a 19) (gI σ_s_20 a 14) (gI σ a 13) (gI σ_s_20 a 13) := hw_19
            exact th_zret hx hb hr hlocks hH hS (z := z_21) (by omega) ⟨hO, hF, hM, ⟨by omega, by omega⟩, ⟨⟨by omega, hw_19.2.is (by first | (dsimp only; omega) | omega) (by first | (dsimp only; omega) | omega) (by first | (dsimp only; omega) | omega) (by first | (dsimp only; omega) | omega)⟩, by omega⟩⟩ dX11_atom_139
          · replace c_17 := mt (I_eq (a := z_16) (b := 0) rz_16 (show rng 0 from ⟨by decide, by decide⟩)).mpr c_17
            replace hw_14 := (hw_14.resolve_right (fun h9 => absurd h9.1 (by omega))).2
            have hz9 : gI σ a 28 ≤ 4 := by omega
            refine lv_aload_n hx hb dX11_atom_98 rfl (lv_at hl 1 rfl) ?_
            refine lv_dup hx hb dX11_atom_99 rfl ?_
            refine ok.getIc hO h_a (by decide) k13_28 ea280 (fun _ _ he hv kk => th_get (ci := 11) (C := RX11) (T := TX11) (N := 66) hx hb hts inX11 hown hK hH he rfl 28 (by decide) fl0 hv dX11_atom_100 kk) ?_
            refine lv_iconst (v := I 1) hx hb dX11_atom_103 (by decide) ?_
            refine lv_iadd hx hb dX11_atom_104 ?_
            refine th_addo (fun z_26 rz_26 hz_26 => ?_)
            refine ok.putJ hO h_a k13_28 rz_26 (by omega) (by omega) (fun _ he hl9 kk => th_put (ci := 11) (v := .int (I z_26)) (ty := .int) (C := RX11) (T := TX11) (N := 66) hx hb hts inX11 tyX11 tyX11_ok nmX11 hown hK hH hS h00 he rfl 28 (by decide) fl0 rfl (by decide +kernel) rfl rfl hl9 dX11_atom_105 kk) (fun σ_s_27 H locs hO hF9 hM9 hg9 ha9 hH hS => ?_)
            replace hM := hM.tu hM9 (by decide)
            replace hF := hF.tu hF9 (by decide)
            have e_28 : aF σ_s_27 (ad E a 1) = f1 := (hM9.a (by decide) (by decide)).trans ef1
            have e_29 : gI σ_s_27 a 11 = a110 := (hM9.i (by decide)).trans ea110
            have e_30 : gI σ_s_27 a 13 = a130 := (hM9.i (by decide)).trans ea130
            have e_31 : gI σ_s_27 a 14 = a140 := (hM9.i (by decide)).trans ea140
            have e_32 : gI σ_s_27 a 17 = a170 := (hM9.i (by decide)).trans ea170
            have e_33 : gI σ_s_27 a 19 = a190 := (hM9.i (by decide)).trans ea190
            have e_34 : gI σ_s_27 a 30 = a300 := (hM9.i (by decide)).trans ea300
            replace hsr := hsr.mv hM9 (by decide) (by decide) (by decide) (by decide) (by decide)
            have e_35 := hg9
            refine lv_aload_n hx hb dX11_atom_108 rfl (lv_at hl 1 rfl) ?_
            obtain ⟨_, hc_36⟩ := hO.cell h_a (by decide) (ci := 11) rfl
            refine th_callv (va_runV (As := []) (rest := []) ⟨hx, hb, hml, hown, hts⟩ (m_pass l G y b0 σ_s_27 E hO a h_a Bf hsr (by omega)) (cwV 0 hts gX11_atom_X11_pass rfl rfl rfl (by decide +kernel) ⟨(by first | (simp only [headSpec]; omega) | omega | (dsimp only; omega)), (by first | (simp only [headSpec]; omega) | omega | (dsimp only; omega))⟩) (th_PV hK hH rfl hc_36) rfl rfl hl.1 rfl (lv_room (Nat.le_of_ble_eq_true rfl)) dX11_atom_109 ⟨(by first | (simp only [headSpec]; omega) | omega | (dsimp only; omega)), (by first | (simp only [headSpec]; omega) | omega | (dsimp only; omega))⟩) hS (fun σ_s_38 H locs hw_37 hH hS => ?_)
            obtain ⟨hO9, hF9, hM9, hw_37⟩ := hw_37
            replace hM := hM.tu hM9 (by decide)
            replace hF := hF.tu hF9 (by decide)
            have e_39 : aF σ_s_38 (ad E a 1) = f1 := (hM9.a (by decide) (by decide)).trans e_28
            have e_40 : gI σ_s_38 a 11 = a110 := (hM9.i (by decide)).trans e_29
            have e_41 : gI σ_s_38 a 19 = a190 := (hM9.i (by decide)).trans e_33
            have e_42 : gI σ_s_38 a 30 = a300 := (hM9.i (by decide)).trans e_34
            have e_43 : gI σ_s_38 a 28 = z_26 := (hM9.i (by decide)).trans e_35
            replace hsr := hsr.mv hM9 (by decide) (by decide) (by decide) (by decide) (by decide)
            replace hO := hO9
            have hw_37 : (gI σ_s_27 a 13 ≤ gI σ_s_38 a 13 ∧ gI σ_s_38 a 13 ≤ gI σ_s_27 a 11 ∧ 0 ≤ gI σ_s_38 a 17 ∧ gI σ_s_38 a 17 ≤ gI σ_s_38 a 13) ∧ pgo (gI σ_s_38 a 19) (gI σ_s_38 a 14) (gI σ_s_27 a 13) (gI σ_s_38 a 13) ∧ gI σ_s_38 a 19 = gI σ_s_27 a 19 := hw_37
            refine lv_aload_n hx hb dX11_atom_112 rfl (lv_at hl 1 rfl) ?_
            obtain ⟨_, hc_44⟩ := hO.cell h_a (by decide) (ci := 11) rfl
            refine th_calli (va_runV (As := []) (rest := []) ⟨hx, hb, hml, hown, hts⟩ (m_cond n ih l G y b0 σ_s_38 E hO a h_a f1 e_39 Bf hsr (hy0) (by omega) (by omega) (by omega) (by omega) (by omega)) (cwV 0 hts gX11_atom_X11_cond rfl rfl rfl (by decide +kernel) ⟨(by first | (simp only [headSpec]; omega) | omega | (dsimp only; omega)), (by first | (simp only [headSpec]; omega) | omega | (dsimp only; omega))⟩) (th_PV hK hH rfl hc_44) rfl rfl hl.1 rfl (lv_room (Nat.le_of_ble_eq_true rfl)) dX11_atom_113 ⟨(by first | (simp only [headSpec]; omega) | omega | (dsimp only; omega)), (by first | (simp only [headSpec]; omega) | omega | (dsimp only; omega))⟩) hS (fun z_47 σ_s_46 H locs rz_47 hw_45 hH hS => ?_)
            obtain ⟨hO9, hF9, hM9, bhw_45, hw_45⟩ := hw_45
            replace hM := hM.tu hM9 (by decide)
            replace hF := hF.tu hF9 (by decide)
            have e_48 : aF σ_s_46 (ad E a 1) = f1 := (hM9.a (by decide) (by decide)).trans e_39
            have e_49 : gI σ_s_46 a 11 = a110 := (hM9.i (by decide)).trans e_40
            have e_50 : gI σ_s_46 a 30 = a300 := (hM9.i (by decide)).trans e_42
            replace hsr := hsr.mv hM9 (by decide) (by decide) (by decide) (by decide) (by decide)
            replace hO := hO9
            have hw_45 : ((gI σ_s_38 a 13 ≤ gI σ_s_46 a 13 ∧ gI σ_s_46 a 13 ≤ gI σ_s_38 a 11 ∧ 0 ≤ gI σ_s_46 a 17 ∧ gI σ_s_46 a 17 ≤ gI σ_s_46 a 13) ∧ pgo (gI σ_s_46 a 19) (gI σ_s_46 a 14) (gI σ_s_38 a 13) (gI σ_s_46 a 13)) ∧ gI σ_s_46 a 28 = gI σ_s_38 a 28 := hw_45
            refine lv_istore_n (lv' := [(2, .int (I z_47)), (1, .int (I 1)), (0, .ref a)]) hx hb dX11_atom_116 rfl hl (by decide) rfl (fun ls hl => ?_)
            refine lv_aload_n hx hb dX11_atom_117 rfl (lv_at hl 2 rfl) ?_
            refine lv_bipush (v := I 41) hx hb dX11_atom_118 (by decide) ?_
            obtain ⟨z_51, e_52, rz_51, lz_51, uz_51⟩ := hO.gi h_a (by decide) k13_28
            obtain ⟨_, hc_53⟩ := hO.cell h_a (by decide) (ci := 11) rfl
            refine th_callv (va_runV (As := [.int (I 41)]) (rest := []) ⟨hx, hb, hml, hown, hts⟩ (m_need l G y b0 σ_s_46 E hO a h_a 41 (show rng 41 from (show rng 41 from ⟨by decide, by decide⟩)) Bf hsr (by omega)) (cwV 1 hts gX11_atom_X11_need rfl rfl rfl (by decide +kernel) ⟨(by first | (simp only [headSpec]; omega) | omega | (dsimp only; omega)), (by first | (simp only [headSpec]; omega) | omega | (dsimp only; omega))⟩) (th_PV hK hH rfl hc_53) rfl rfl hl.1 rfl (lv_room (Nat.le_of_ble_eq_true rfl)) dX11_atom_120 ⟨(by first | (simp only [headSpec]; omega) | omega | (dsimp only; omega)), (by first | (simp only [headSpec]; omega) | omega | (dsimp only; omega))⟩) hS (fun σ_s_55 H locs hw_54 hH hS => ?_)
            obtain ⟨hO9, hF9, hM9, hw_54⟩ := hw_54
            replace hM := hM.tu hM9 (by decide)
            replace hF := hF.tu hF9 (by decide)
            have e_56 : aF σ_s_55 (ad E a 1) = f1 := (hM9.a (by decide) (by decide)).trans e_48
            have e_57 : gI σ_s_55 a 11 = a110 := (hM9.i (by decide)).trans e_49
            have e_58 : gI σ_s_55 a 30 = a300 := (hM9.i (by decide)).trans e_50
            have e_59 : gI σ_s_55 a 28 = z_51 := (hM9.i (by decide)).trans e_52
            replace hsr := hsr.mv hM9 (by decide) (by decide) (by decide) (by decide) (by decide)
            replace hO := hO9
            have hw_54 : (gI σ_s_46 a 13 ≤ gI σ_s_55 a 13 ∧ gI σ_s_55 a 13 ≤ gI σ_s_46 a 11 ∧ 0 ≤ gI σ_s_55 a 17 ∧ gI σ_s_55 a 17 ≤ gI σ_s_55 a 13) ∧ pgo (gI σ_s_55 a 19) (gI σ_s_55 a 14) (gI σ_s_46 a 13) (gI σ_s_55 a 13) ∧ bdo (gI σ_s_46 a 19) (gI σ_s_55 a 19) := hw_54
            refine lv_aload_n hx hb dX11_atom_123 rfl (lv_at hl 2 rfl) ?_
            refine lv_dup hx hb dX11_atom_124 rfl ?_
            refine ok.getIc hO h_a (by decide) k13_28 e_59 (fun _ _ he hv kk => th_get (ci := 11) (C := RX11) (T := TX11) (N := 66) hx hb hts inX11 hown hK hH he rfl 28 (by decide) fl0 hv dX11_atom_125 kk) ?_
            refine lv_iconst (v := I 1) hx hb dX11_atom_128 (by decide) ?_
            refine lv_isub hx hb dX11_atom_129 ?_
            refine th_subo (fun z_60 rz_60 hz_60 => ?_)
            obtain ⟨z_61, e_62, rz_61, lz_61, uz_61⟩ := hO.gi h_a (by decide) k13_13
            obtain ⟨z_63, e_64, rz_63, lz_63, uz_63⟩ := hO.gi h_a (by decide) k13_14
            obtain ⟨z_65, e_66, rz_65, lz_65, uz_65⟩ := hO.gi h_a (by decide) k13_17
            obtain ⟨z_67, e_68, rz_67, lz_67, uz_67⟩ := hO.gi h_a (by decide) k13_19
            refine ok.putJ hO h_a k13_28 rz_60 (by omega) (by omega) (fun _ he hl9 kk => th_put (ci := 11) (v := .int (I z_60)) (ty := .int) (C := RX11) (T := TX11) (N := 66) hx hb hts inX11 tyX11 tyX11_ok nmX11 hown hK hH hS h00 he rfl 28 (by decide) fl0 rfl (by decide +kernel) rfl rfl hl9 dX11_atom_130 kk) (fun σ_s_69 H locs hO hF9 hM9 hg9 ha9 hH hS => ?_)
            replace hM := hM.tu hM9 (by decide)
            replace hF := hF.tu hF9 (by decide)
            have e_70 : aF σ_s_69 (ad E a 1) = f1 := (hM9.a (by decide) (by decide)).trans e_56
            have e_71 : gI σ_s_69 a 11 = a110 := (hM9.i (by decide)).trans e_57
            have e_72 : gI σ_s_69 a 30 = a300 := (hM9.i (by decide)).trans e_58
            have e_73 : gI σ_s_69 a 13 = z_61 := (hM9.i (by decide)).trans e_62
            have e_74 : gI σ_s_69 a 14 = z_63 := (hM9.i (by decide)).trans e_64
            have e_75 : gI σ_s_69 a 17 = z_65 := (hM9.i (by decide)).trans e_66
            have e_76 : gI σ_s_69 a 19 = z_67 := (hM9.i (by decide)).trans e_68
            replace hsr := hsr.mv hM9 (by decide) (by decide) (by decide) (by decide) (by decide)
            have e_77 := hg9
            refine lv_iload_n hx hb dX11_atom_133 rfl (lv_at hl 0 rfl) ?_
            exact th_zret hx hb hr hlocks hH hS (z := z_47) (by omega) ⟨hO, hF, hM, ⟨by omega, by omega⟩, ⟨⟨by omega, hw_54.2.1.is (by omega) (by omega) (by omega) (by omega)⟩, by omega⟩⟩ dX11_atom_134
        · replace c_12 := mt (I_eq (a := z_11) (b := 0) rz_11 (show rng 0 from ⟨by decide, by decide⟩)).mpr c_12
          replace hw_9 := (hw_9.resolve_right (fun h9 => absurd h9.1 (by omega))).2
          have hz9 : gI σ a 28 ≤ 4 := by omega
          refine lv_aload_n hx hb dX11_atom_50 rfl (lv_at hl 1 rfl) ?_
          refine lv_dup hx hb dX11_atom_51 rfl ?_
          refine ok.getIc hO h_a (by decide) k13_28 ea280 (fun _ _ he hv kk => th_get (ci := 11) (C := RX11) (T := TX11) (N := 66) hx hb hts inX11 hown hK hH he rfl 28 (by decide) fl0 hv dX11_atom_52 kk) ?_
          refine lv_iconst (v := I 1) hx hb dX11_atom_55 (by decide) ?_
          refine lv_iadd hx hb dX11_atom_56 ?_
          refine th_addo (fun z_78 rz_78 hz_78 => ?_)
          refine ok.putJ hO h_a k13_28 rz_78 (by omega) (by omega) (fun _ he hl9 kk => th_put (ci := 11) (v := .int (I z_78)) (ty := .int) (C := RX11) (T := TX11) (N := 66) hx hb hts inX11 tyX11 tyX11_ok nmX11 hown hK hH hS h00 he rfl 28 (by decide) fl0 rfl (by decide +kernel) rfl rfl hl9 dX11_atom_57 kk) (fun σ_s_79 H locs hO hF9 hM9 hg9 ha9 hH hS => ?_)
          replace hM := hM.tu hM9 (by decide)
          replace hF := hF.tu hF9 (by decide)
          have e_80 : aF σ_s_79 (ad E a 1) = f1 := (hM9.a (by decide) (by decide)).trans ef1
          have e_81 : gI σ_s_79 a 11 = a110 := (hM9.i (by decide)).trans ea110
          have e_82 : gI σ_s_79 a 13 = a130 := (hM9.i (by decide)).trans ea130
          have e_83 : gI σ_s_79 a 14 = a140 := (hM9.i (by decide)).trans ea140
          have e_84 : gI σ_s_79 a 17 = a170 := (hM9.i (by decide)).trans ea170
          have e_85 : gI σ_s_79 a 19 = a190 := (hM9.i (by decide)).trans ea190
          have e_86 : gI σ_s_79 a 30 = a300 := (hM9.i (by decide)).trans ea300
          replace hsr := hsr.mv hM9 (by decide) (by decide) (by decide) (by decide) (by decide)
          have e_87 := hg9
          refine lv_aload_n hx hb dX11_atom_60 rfl (lv_at hl 1 rfl) ?_
          obtain ⟨_, hc_88⟩ := hO.cell h_a (by decide) (ci := 11) rfl
          refine th_callv (va_runV (As := []) (rest := []) ⟨hx, hb, hml, hown, hts⟩ (m_pass l G y b0 σ_s_79 E hO a h_a Bf hsr (by omega)) (cwV 0 hts gX11_atom_X11_pass rfl rfl rfl (by decide +kernel) ⟨(by first | (simp only [headSpec]; omega) | omega | (dsimp only; omega)), (by first | (simp only [headSpec]; omega) | omega | (dsimp only; omega))⟩) (th_PV hK hH rfl hc_88) rfl rfl hl.1 rfl (lv_room (Nat.le_of_ble_eq_true rfl)) dX11_atom_61 ⟨(by first | (simp only [headSpec]; omega) | omega | (dsimp only; omega)), (by first | (simp only [headSpec]; omega) | omega | (dsimp only; omega))⟩) hS (fun σ_s_90 H locs hw_89 hH hS => ?_)
          obtain ⟨hO9, hF9, hM9, hw_89⟩ := hw_89
          replace hM := hM.tu hM9 (by decide)
          replace hF := hF.tu hF9 (by decide)
          have e_91 : aF σ_s_90 (ad E a 1) = f1 := (hM9.a (by decide) (by decide)).trans e_80
          have e_92 : gI σ_s_90 a 11 = a110 := (hM9.i (by decide)).trans e_81
          have e_93 : gI σ_s_90 a 19 = a190 := (hM9.i (by decide)).trans e_85
          have e_94 : gI σ_s_90 a 30 = a300 := (hM9.i (by decide)).trans e_86
          have e_95 : gI σ_s_90 a 28 = z_78 := (hM9.i (by decide)).trans e_87
          replace hsr := hsr.mv hM9 (by decide) (by decide) (by decide) (by decide) (by decide)
          replace hO := hO9
          have hw_89 : (gI σ_s_79 a 13 ≤ gI σ_s_90 a 13 ∧ gI σ_s_90 a 13 ≤ gI σ_s_79 a 11 ∧ 0 ≤ gI σ_s_90 a 17 ∧ gI σ_s_90 a 17 ≤ gI σ_s_90 a 13) ∧ pgo (gI σ_s_90 a 19) (gI σ_s_90 a 14) (gI σ_s_79 a 13) (gI σ_s_90 a 13) ∧ gI σ_s_90 a 19 = gI σ_s_79 a 19 := hw_89
          refine lv_aload_n hx hb dX11_atom_64 rfl (lv_at hl 1 rfl) ?_
          obtain ⟨_, hc_96⟩ := hO.cell h_a (by decide) (ci := 11) rfl
          refine th_calli (va_runV (As := []) (rest := []) ⟨hx, hb, hml, hown, hts⟩ (ih l G y b0 σ_s_90 E hO a h_a f1 e_91 Bf hsr (hy0) (by omega) (by omega) (by omega) (by omega) (by omega)) (cwV 0 hts gX11_atom_X11_atom rfl rfl rfl (by decide +kernel) ⟨(by first | (simp only [headSpec]; omega) | omega | (dsimp only; omega)), (by first | (simp only [headSpec]; omega) | omega | (dsimp only; omega))⟩) (th_PV hK hH rfl hc_96) rfl rfl hl.1 rfl (lv_room (Nat.le_of_ble_eq_true rfl)) dX11_atom_65 ⟨(by first | (simp only [headSpec]; omega) | omega | (dsimp only; omega)), (by first | (simp only [headSpec]; omega) | omega | (dsimp only; omega))⟩) hS (fun z_99 σ_s_98 H locs rz_99 hw_97 hH hS => ?_)
          obtain ⟨hO9, hF9, hM9, bhw_97, hw_97⟩ := hw_97
          replace hM := hM.tu hM9 (by decide)
          replace hF := hF.tu hF9 (by decide)
          have e_100 : aF σ_s_98 (ad E a 1) = f1 := (hM9.a (by decide) (by decide)).trans e_91
          have e_101 : gI σ_s_98 a 11 = a110 := (hM9.i (by decide)).trans e_92
          have e_102 : gI σ_s_98 a 30 = a300 := (hM9.i (by decide)).trans e_94
          replace hsr := hsr.mv hM9 (by decide) (by decide) (by decide) (by decide) (by decide)
          replace hO := hO9
          have hw_97 : ((gI σ_s_90 a 13 ≤ gI σ_s_98 a 13 ∧ gI σ_s_98 a 13 ≤ gI σ_s_90 a 11 ∧ 0 ≤ gI σ_s_98 a 17 ∧ gI σ_s_98 a 17 ≤ gI σ_s_98 a 13) ∧ pgo (gI σ_s_98 a 19) (gI σ_s_98 a 14) (gI σ_s_90 a 13) (gI σ_s_98 a 13)) ∧ gI σ_s_98 a 28 = gI σ_s_90 a 28 := hw_97
          refine lv_istore_n (lv' := [(2, .int (I z_99)), (1, .int (I 1)), (0, .ref a)]) hx hb dX11_atom_68 rfl hl (by decide) rfl (fun ls hl => ?_)
          refine lv_aload_n hx hb dX11_atom_69 rfl (lv_at hl 2 rfl) ?_
          refine lv_dup hx hb dX11_atom_70 rfl ?_
          refine ok.getI hO h_a (by decide) k13_28 (fun _ _ he hv kk => th_get (ci := 11) (C := RX11) (T := TX11) (N := 66) hx hb hts inX11 hown hK hH he rfl 28 (by decide) fl0 hv dX11_atom_71 kk) (fun z_103 e_104 rz_103 lz_103 uz_103 => ?_)
          refine lv_iconst (v := I 1) hx hb dX11_atom_74 (by decide) ?_
          refine lv_isub hx hb dX11_atom_75 ?_
          refine th_subo (fun z_105 rz_105 hz_105 => ?_)
          obtain ⟨z_106, e_107, rz_106, lz_106, uz_106⟩ := hO.gi h_a (by decide) k13_13
          obtain ⟨z_108, e_109, rz_108, lz_108, uz_108⟩ := hO.gi h_a (by decide) k13_14
          obtain ⟨z_110, e_111, rz_110, lz_110, uz_110⟩ := hO.gi h_a (by decide) k13_17
          obtain ⟨z_112, e_113, rz_112, lz_112, uz_112⟩ := hO.gi h_a (by decide) k13_19
          refine ok.putJ hO h_a k13_28 rz_105 (by omega) (by omega) (fun _ he hl9 kk => th_put (ci := 11) (v := .int (I z_105)) (ty := .int) (C := RX11) (T := TX11) (N := 66) hx hb hts inX11 tyX11 tyX11_ok nmX11 hown hK hH hS h00 he rfl 28 (by decide) fl0 rfl (by decide +kernel) rfl rfl hl9 dX11_atom_76 kk) (fun σ_s_114 H locs hO hF9 hM9 hg9 ha9 hH hS => ?_)
          replace hM := hM.tu hM9 (by decide)
          replace hF := hF.tu hF9 (by decide)
          have e_115 : aF σ_s_114 (ad E a 1) = f1 := (hM9.a (by decide) (by decide)).trans e_100
          have e_116 : gI σ_s_114 a 11 = a110 := (hM9.i (by decide)).trans e_101
          have e_117 : gI σ_s_114 a 30 = a300 := (hM9.i (by decide)).trans e_102
          have e_118 : gI σ_s_114 a 13 = z_106 := (hM9.i (by decide)).trans e_107
          have e_119 : gI σ_s_114 a 14 = z_108 := (hM9.i (by decide)).trans e_109
          have e_120 : gI σ_s_114 a 17 = z_110 := (hM9.i (by decide)).trans e_111
          have e_121 : gI σ_s_114 a 19 = z_112 := (hM9.i (by decide)).trans e_113
          replace hsr := hsr.mv hM9 (by decide) (by decide) (by decide) (by decide) (by decide)
          have e_122 := hg9
          refine lv_iload_n hx hb dX11_atom_79 rfl (lv_at hl 0 rfl) ?_
          refine lv_if_ne (tgt := 87) hx hb dX11_atom_80 (by decide) (fun c_123 => ?_) (fun c_123 => ?_)
          · replace c_123 := mt (I_eq (a := z_99) (b := 0) rz_99 (show rng 0 from ⟨by decide, by decide⟩)).mpr c_123
            refine lv_iconst (v := I 0) hx hb dX11_atom_87 (by decide) ?_
            exact th_zret hx hb hr hlocks hH hS (z := 0) (by omega) ⟨hO, hF, hM, ⟨by omega, by omega⟩, ⟨⟨by omega, hw_97.1.2.is (by first | (dsimp only; omega) | omega) (by first | (dsimp only; omega) | omega) (by first | (dsimp only; omega) | omega) (by first | (dsimp only; omega) | omega)⟩, by omega⟩⟩ dX11_atom_88
          · replace c_123 := (I_eq (a := z_99) (b := 0) rz_99 (show rng 0 from ⟨by decide, by decide⟩)).mp c_123
            refine lv_iconst (v := I 1) hx hb dX11_atom_83 (by decide) ?_
            refine lv_goto (tgt := 88) hx hb dX11_atom_84 (by decide) ?_
            exact th_zret hx hb hr hlocks hH hS (z := 1) (by omega) ⟨hO, hF, hM, ⟨by omega, by omega⟩, ⟨⟨by omega, hw_97.1.2.is (by first | (dsimp only; omega) | omega) (by first | (dsimp only; omega) | omega) (by first | (dsimp only; omega) | omega) (by first | (dsimp only; omega) | omega)⟩, by omega⟩⟩ dX11_atom_88
      · replace c_7 := (I_eq (a := a280) (b := 5) ra280 (show rng 5 from ⟨by decide, by decide⟩)).mp c_7
        refine lv_aload_n hx hb dX11_atom_36 rfl (lv_at hl 1 rfl) ?_
        refine lv_iconst (v := I 2) hx hb dX11_atom_37 (by decide) ?_
        obtain ⟨_, hc_124⟩ := hO.cell h_a (by decide) (ci := 11) rfl
        refine th_callv (va_runV (As := [.int (I 2)]) (rest := []) ⟨hx, hb, hml, hown, hts⟩ (m_wrong l G y b0 σ E hO a h_a 2 (show rng 2 from (show rng 2 from ⟨by decide, by decide⟩)) (by omega) (by omega)) (cwV 1 hts gX11_atom_X11_wrong rfl rfl rfl (by decide +kernel) ⟨(by first | (simp only [headSpec]; omega) | omega | (dsimp only; omega)), (by first | (simp only [headSpec]; omega) | omega | (dsimp only; omega))⟩) (th_PV hK hH rfl hc_124) rfl rfl hl.1 rfl (lv_room (Nat.le_of_ble_eq_true rfl)) dX11_atom_38 ⟨(by first | (simp only [headSpec]; omega) | omega | (dsimp only; omega)), (by first | (simp only [headSpec]; omega) | omega | (dsimp only; omega))⟩) hS (fun σ_s_126 H locs hw_125 hH hS => ?_)
        obtain ⟨hO9, hF9, hM9, hw_125⟩ := hw_125
        replace hM := hM.tu hM9 (by decide)
        replace hF := hF.tu hF9 (by decide)
        have e_127 : aF σ_s_126 (ad E a 1) = f1 := (hM9.a (by decide) (by decide)).trans ef1
        have e_128 : gI σ_s_126 a 11 = a110 := (hM9.i (by decide)).trans ea110
        have e_129 : gI σ_s_126 a 13 = a130 := (hM9.i (by decide)).trans ea130
        have e_130 : gI σ_s_126 a 14 = a140 := (hM9.i (by decide)).trans ea140
        have e_131 : gI σ_s_126 a 17 = a170 := (hM9.i (by decide)).trans ea170
        have e_132 : gI σ_s_126 a 28 = a280 := (hM9.i (by decide)).trans ea280
        have e_133 : gI σ_s_126 a 30 = a300 := (hM9.i (by decide)).trans ea300
        replace hsr := hsr.mv hM9 (by decide) (by decide) (by decide) (by decide) (by decide)
        replace hO := hO9
        have hw_125 : ¬ gI σ_s_126 a 19 = 0 ∧ (gI σ a 19 = 0 ∨ gI σ_s_126 a 19 = gI σ a 19) := hw_125
        refine lv_aload_n hx hb dX11_atom_41 rfl (lv_at hl 1 rfl) ?_
        refine lv_bipush (v := I 33) hx hb dX11_atom_42 (by decide) ?_
        obtain ⟨_, hc_134⟩ := hO.cell h_a (by decide) (ci := 11) rfl
        refine th_calli (va_runV (As := [.int (I 33)]) (rest := []) ⟨hx, hb, hml, hown, hts⟩ (m_isMarkedX l G y b0 σ_s_126 E hO a h_a 33 (show rng 33 from (show rng 33 from ⟨by decide, by decide⟩)) Bf hsr (by omega)) (cwV 1 hts gX11_atom_X11_isMarked rfl rfl rfl (by decide +kernel) ⟨(by first | (simp only [headSpec]; omega) | omega | (dsimp only; omega)), (by first | (simp only [headSpec]; omega) | omega | (dsimp only; omega))⟩) (th_PV hK hH rfl hc_134) rfl rfl hl.1 rfl (lv_room (Nat.le_of_ble_eq_true rfl)) dX11_atom_44 ⟨(by first | (simp only [headSpec]; omega) | omega | (dsimp only; omega)), (by first | (simp only [headSpec]; omega) | omega | (dsimp only; omega))⟩) hS (fun z_137 σ_s_136 H locs rz_137 hw_135 hH hS => ?_)
        obtain ⟨e9, bhw_135, hw_135⟩ := hw_135
        replace e9 := e9.symm
        subst e9
        have hw_135 : (z_137 = 1 ∧ mkd (gI σ_s_126 a 19) (gI σ_s_126 a 14) (Bf (gI σ_s_126 a 17)) 33) ∨ (z_137 = 0 ∧ ¬ mkd (gI σ_s_126 a 19) (gI σ_s_126 a 14) (Bf (gI σ_s_126 a 17)) 33) := hw_135
        refine lv_if_eq (tgt := 89) hx hb dX11_atom_47 (by decide) (fun c_138 => ?_) (fun c_138 => ?_)
        · replace c_138 := (I_eq (a := z_137) (b := 0) rz_137 (show rng 0 from ⟨by decide, by decide⟩)).mp c_138
          replace hw_135 := (hw_135.resolve_left (fun h9 => absurd h9.1 (by omega))).2
          refine lv_aload_n hx hb dX11_atom_89 rfl (lv_at hl 1 rfl) ?_
          refine lv_bipush (v := I 40) hx hb dX11_atom_90 (by decide) ?_
          obtain ⟨_, hc_139⟩ := hO.cell h_a (by decide) (ci := 11) rfl
          refine th_calli (va_runV (As := [.int (I 40)]) (rest := []) ⟨hx, hb, hml, hown, hts⟩ (m_isMarkedX l G y b0 σ_s_126 E hO a h_a 40 (show rng 40 from (show rng 40 from ⟨by decide, by decide⟩)) Bf hsr (by omega)) (cwV 1 hts gX11_atom_X11_isMarked rfl rfl rfl (by decide +kernel) ⟨(by first | (simp only [headSpec]; omega) | omega | (dsimp only; omega)), (by first | (simp only [headSpec]; omega) | omega | (dsimp only; omega))⟩) (th_PV hK hH rfl hc_139) rfl rfl hl.1 rfl (lv_room (Nat.le_of_ble_eq_true rfl)) dX11_atom_92 ⟨(by first | (simp only [headSpec]; omega) | omega | (dsimp only; omega)), (by first | (simp only [headSpec]; omega) | omega | (dsimp only; omega))⟩) hS (fun z_142 σ_s_141 H locs rz_142 hw_140 hH hS => ?_)
          obtain ⟨e9, bhw_140, hw_140⟩ := hw_140
          replace e9 := e9.symm
          subst e9
          have hw_140 : (z_142 = 1 ∧ mkd (gI σ_s_126 a 19) (gI σ_s_126 a 14) (Bf (gI σ_s_126 a 17)) 40) ∨ (z_142 = 0 ∧ ¬ mkd (gI σ_s_126 a 19) (gI σ_s_126 a 14) (Bf (gI σ_s_126 a 17)) 40) := hw_140
          refine lv_if_eq (tgt := 135) hx hb dX11_atom_95 (by decide) (fun c_143 => ?_) (fun c_143 => ?_)
          · replace c_143 := (I_eq (a := z_142) (b := 0) rz_142 (show rng 0 from ⟨by decide, by decide⟩)).mp c_143
            replace hw_140 := (hw_140.resolve_left (fun h9 => absurd h9.1 (by omega))).2
            refine lv_aload_n hx hb dX11_atom_135 rfl (lv_at hl 1 rfl) ?_
            obtain ⟨_, hc_144⟩ := hO.cell h_a (by decide) (ci := 11) rfl
            refine th_calli (va_runV (As := []) (rest := []) ⟨hx, hb, hml, hown, hts⟩ (m_little l G y b0 σ_s_126 E hO a h_a f1 e_127 Bf hsr (hy0) (by omega) (by omega) (by omega)) (cwV 0 hts gX11_atom_X11_little rfl rfl rfl (by decide +kernel) ⟨(by first | (simp only [headSpec]; omega) | omega | (dsimp only; omega)), (by first | (simp only [headSpec]; omega) | omega | (dsimp only; omega))⟩) (th_PV hK hH rfl hc_144) rfl rfl hl.1 rfl (lv_room (Nat.le_of_ble_eq_true rfl)) dX11_atom_136 ⟨(by first | (simp only [headSpec]; omega) | omega | (dsimp only; omega)), (by first | (simp only [headSpec]; omega) | omega | (dsimp only; omega))⟩) hS (fun z_147 σ_s_146 H locs rz_147 hw_145 hH hS => ?_)
            obtain ⟨hO9, hF9, hM9, bhw_145, hw_145⟩ := hw_145
            replace hM := hM.tu hM9 (by decide)
            replace hF := hF.tu hF9 (by decide)
            have e_148 : aF σ_s_146 (ad E a 1) = f1 := (hM9.a (by decide) (by decide)).trans e_127
            have e_149 : gI σ_s_146 a 11 = a110 := (hM9.i (by decide)).trans e_128
            have e_150 : gI σ_s_146 a 28 = a280 := (hM9.i (by decide)).trans e_132
            have e_151 : gI σ_s_146 a 30 = a300 := (hM9.i (by decide)).trans e_133
            replace hsr := hsr.mv hM9 (by decide) (by decide) (by decide) (by decide) (by decide)
            replace hO := hO9
            have hw_145 : (gI σ_s_126 a 13 ≤ gI σ_s_146 a 13 ∧ gI σ_s_146 a 13 ≤ gI σ_s_126 a 11 ∧ 0 ≤ gI σ_s_146 a 17 ∧ gI σ_s_146 a 17 ≤ gI σ_s_146 a 13) ∧ pgo (gI σ_s_146 a 19) (gI σ_s_146 a 14) (gI σ_s_126 a 13) (gI σ_s_146 a 13) := hw_145
            exact th_zret hx hb hr hlocks hH hS (z := z_147) (by omega) ⟨hO, hF, hM, ⟨by omega, by omega⟩, ⟨⟨by omega, hw_145.2.is (by first | (dsimp only; omega) | omega) (by first | (dsimp only; omega) | omega) (by first | (dsimp only; omega) | omega) (by first | (dsimp only; omega) | omega)⟩, by omega⟩⟩ dX11_atom_139
          · replace c_143 := mt (I_eq (a := z_142) (b := 0) rz_142 (show rng 0 from ⟨by decide, by decide⟩)).mpr c_143
            replace hw_140 := (hw_140.resolve_right (fun h9 => absurd h9.1 (by omega))).2
            exact absurd hw_140.1 (by omega)
        · replace c_138 := mt (I_eq (a := z_137) (b := 0) rz_137 (show rng 0 from ⟨by decide, by decide⟩)).mpr c_138
          replace hw_135 := (hw_135.resolve_right (fun h9 => absurd h9.1 (by omega))).2
          exact absurd hw_135.1 (by omega)
    · replace c_5 := (I_eq (a := z_4) (b := 0) rz_4 (show rng 0 from ⟨by decide, by decide⟩)).mp c_5
      replace hw_2 := (hw_2.resolve_left (fun h9 => absurd h9.1 (by omega))).2
      refine lv_aload_n hx hb dX11_atom_9 rfl (lv_at hl 0 rfl) ?_
      refine lv_bipush (v := I 40) hx hb dX11_atom_10 (by decide) ?_
      obtain ⟨_, hc_152⟩ := hO.cell h_a (by decide) (ci := 11) rfl
      refine th_calli (va_runV (As := [.int (I 40)]) (rest := []) ⟨hx, hb, hml, hown, hts⟩ (m_isMarkedX l G y b0 σ E hO a h_a 40 (show rng 40 from (show rng 40 from ⟨by decide, by decide⟩)) Bf hsr (by omega)) (cwV 1 hts gX11_atom_X11_isMarked rfl rfl rfl (by decide +kernel) ⟨(by first | (simp only [headSpec]; omega) | omega | (dsimp only; omega)), (by first | (simp only [headSpec]; omega) | omega | (dsimp only; omega))⟩) (th_PV hK hH rfl hc_152) rfl rfl hl.1 rfl (lv_room (Nat.le_of_ble_eq_true rfl)) dX11_atom_12 ⟨(by first | (simp only [headSpec]; omega) | omega | (dsimp only; omega)), (by first | (simp only [headSpec]; omega) | omega | (dsimp only; omega))⟩) hS (fun z_155 σ_s_154 H locs rz_155 hw_153 hH hS => ?_)
      obtain ⟨e9, bhw_153, hw_153⟩ := hw_153
      replace e9 := e9.symm
      subst e9
      have hw_153 : (z_155 = 1 ∧ mkd (gI σ a 19) (gI σ a 14) (Bf (gI σ a 17)) 40) ∨ (z_155 = 0 ∧ ¬ mkd (gI σ a 19) (gI σ a 14) (Bf (gI σ a 17)) 40) := hw_153
      refine lv_if_eq (tgt := 22) hx hb dX11_atom_15 (by decide) (fun c_156 => ?_) (fun c_156 => ?_)
      · replace c_156 := (I_eq (a := z_155) (b := 0) rz_155 (show rng 0 from ⟨by decide, by decide⟩)).mp c_156
        replace hw_153 := (hw_153.resolve_left (fun h9 => absurd h9.1 (by omega))).2
        refine lv_iconst (v := I 0) hx hb dX11_atom_22 (by decide) ?_
        refine lv_istore_n (lv' := [(1, .int (I 0)), (0, .ref a)]) hx hb dX11_atom_23 rfl hl (by decide) rfl (fun ls hl => ?_)
        refine lv_iload_n hx hb dX11_atom_24 rfl (lv_at hl 0 rfl) ?_
        refine lv_if_eq (tgt := 41) hx hb dX11_atom_25 (by decide) (fun _ => ?_) (fun c_157 => absurd (by decide) c_157)
        refine lv_aload_n hx hb dX11_atom_41 rfl (lv_at hl 1 rfl) ?_
        refine lv_bipush (v := I 33) hx hb dX11_atom_42 (by decide) ?_
        obtain ⟨_, hc_158⟩ := hO.cell h_a (by decide) (ci := 11) rfl
        refine th_calli (va_runV (As := [.int (I 33)]) (rest := []) ⟨hx, hb, hml, hown, hts⟩ (m_isMarkedX l G y b0 σ E hO a h_a 33 (show rng 33 from (show rng 33 from ⟨by decide, by decide⟩)) Bf hsr (by omega)) (cwV 1 hts gX11_atom_X11_isMarked rfl rfl rfl (by decide +kernel) ⟨(by first | (simp only [headSpec]; omega) | omega | (dsimp only; omega)), (by first | (simp only [headSpec]; omega) | omega | (dsimp only; omega))⟩) (th_PV hK hH rfl hc_158) rfl rfl hl.1 rfl (lv_room (Nat.le_of_ble_eq_true rfl)) dX11_atom_44 ⟨(by first | (simp only [headSpec]; omega) | omega | (dsimp only; omega)), (by first | (simp only [headSpec]; omega) | omega | (dsimp only; omega))⟩) hS (fun z_161 σ_s_160 H locs rz_161 hw_159 hH hS => ?_)
        obtain ⟨e9, bhw_159, hw_159⟩ := hw_159
        replace e9 := e9.symm
        subst e9
        have hw_159 : (z_161 = 1 ∧ mkd (gI σ a 19) (gI σ a 14) (Bf (gI σ a 17)) 33) ∨ (z_161 = 0 ∧ ¬ mkd (gI σ a 19) (gI σ a 14) (Bf (gI σ a 17)) 33) := hw_159
        refine lv_if_eq (tgt := 89) hx hb dX11_atom_47 (by decide) (fun c_162 => ?_) (fun c_162 => ?_)
        · replace c_162 := (I_eq (a := z_161) (b := 0) rz_161 (show rng 0 from ⟨by decide, by decide⟩)).mp c_162
          replace hw_159 := (hw_159.resolve_left (fun h9 => absurd h9.1 (by omega))).2
          refine lv_aload_n hx hb dX11_atom_89 rfl (lv_at hl 1 rfl) ?_
          refine lv_bipush (v := I 40) hx hb dX11_atom_90 (by decide) ?_
          obtain ⟨_, hc_163⟩ := hO.cell h_a (by decide) (ci := 11) rfl
          refine th_calli (va_runV (As := [.int (I 40)]) (rest := []) ⟨hx, hb, hml, hown, hts⟩ (m_isMarkedX l G y b0 σ E hO a h_a 40 (show rng 40 from (show rng 40 from ⟨by decide, by decide⟩)) Bf hsr (by omega)) (cwV 1 hts gX11_atom_X11_isMarked rfl rfl rfl (by decide +kernel) ⟨(by first | (simp only [headSpec]; omega) | omega | (dsimp only; omega)), (by first | (simp only [headSpec]; omega) | omega | (dsimp only; omega))⟩) (th_PV hK hH rfl hc_163) rfl rfl hl.1 rfl (lv_room (Nat.le_of_ble_eq_true rfl)) dX11_atom_92 ⟨(by first | (simp only [headSpec]; omega) | omega | (dsimp only; omega)), (by first | (simp only [headSpec]; omega) | omega | (dsimp only; omega))⟩) hS (fun z_166 σ_s_165 H locs rz_166 hw_164 hH hS => ?_)
          obtain ⟨e9, bhw_164, hw_164⟩ := hw_164
          replace e9 := e9.symm
          subst e9
          have hw_164 : (z_166 = 1 ∧ mkd (gI σ a 19) (gI σ a 14) (Bf (gI σ a 17)) 40) ∨ (z_166 = 0 ∧ ¬ mkd (gI σ a 19) (gI σ a 14) (Bf (gI σ a 17)) 40) := hw_164
          refine lv_if_eq (tgt := 135) hx hb dX11_atom_95 (by decide) (fun c_167 => ?_) (fun c_167 => ?_)
          · replace c_167 := (I_eq (a := z_166) (b := 0) rz_166 (show rng 0 from ⟨by decide, by decide⟩)).mp c_167
            replace hw_164 := (hw_164.resolve_left (fun h9 => absurd h9.1 (by omega))).2
            refine lv_aload_n hx hb dX11_atom_135 rfl (lv_at hl 1 rfl) ?_
            obtain ⟨_, hc_168⟩ := hO.cell h_a (by decide) (ci := 11) rfl
            refine th_calli (va_runV (As := []) (rest := []) ⟨hx, hb, hml, hown, hts⟩ (m_little l G y b0 σ E hO a h_a f1 ef1 Bf hsr (hy0) (by omega) (by omega) (by omega)) (cwV 0 hts gX11_atom_X11_little rfl rfl rfl (by decide +kernel) ⟨(by first | (simp only [headSpec]; omega) | omega | (dsimp only; omega)), (by first | (simp only [headSpec]; omega) | omega | (dsimp only; omega))⟩) (th_PV hK hH rfl hc_168) rfl rfl hl.1 rfl (lv_room (Nat.le_of_ble_eq_true rfl)) dX11_atom_136 ⟨(by first | (simp only [headSpec]; omega) | omega | (dsimp only; omega)), (by first | (simp only [headSpec]; omega) | omega | (dsimp only; omega))⟩) hS (fun z_171 σ_s_170 H locs rz_171 hw_169 hH hS => ?_)
            obtain ⟨hO9, hF9, hM9, bhw_169, hw_169⟩ := hw_169
            replace hM := hM.tu hM9 (by decide)
            replace hF := hF.tu hF9 (by decide)
            have e_172 : aF σ_s_170 (ad E a 1) = f1 := (hM9.a (by decide) (by decide)).trans ef1
            have e_173 : gI σ_s_170 a 11 = a110 := (hM9.i (by decide)).trans ea110
            have e_174 : gI σ_s_170 a 28 = a280 := (hM9.i (by decide)).trans ea280
            have e_175 : gI σ_s_170 a 30 = a300 := (hM9.i (by decide)).trans ea300
            replace hsr := hsr.mv hM9 (by decide) (by decide) (by decide) (by decide) (by decide)
            replace hO := hO9
            have hw_169 : (gI σ a 13 ≤ gI σ_s_170 a 13 ∧ gI σ_s_170 a 13 ≤ gI σ a 11 ∧ 0 ≤ gI σ_s_170 a 17 ∧ gI σ_s_170 a 17 ≤ gI σ_s_170 a 13) ∧ pgo (gI σ_s_170 a 19) (gI σ_s_170 a 14) (gI σ a 13) (gI σ_s_170 a 13) := hw_169
            exact th_zret hx hb hr hlocks hH hS (z := z_171) (by omega) ⟨hO, hF, hM, ⟨by omega, by omega⟩, ⟨⟨by omega, hw_169.2.is (by first | (dsimp only; omega) | omega) (by first | (dsimp only; omega) | omega) (by first | (dsimp only; omega) | omega) (by first | (dsimp only; omega) | omega)⟩, by omega⟩⟩ dX11_atom_139
          · replace c_167 := mt (I_eq (a := z_166) (b := 0) rz_166 (show rng 0 from ⟨by decide, by decide⟩)).mpr c_167
            replace hw_164 := (hw_164.resolve_right (fun h9 => absurd h9.1 (by omega))).2
            first | exact absurd hw_164 hw_2 | exact absurd hw_164 hw_153
        · replace c_162 := mt (I_eq (a := z_161) (b := 0) rz_161 (show rng 0 from ⟨by decide, by decide⟩)).mpr c_162
          replace hw_159 := (hw_159.resolve_right (fun h9 => absurd h9.1 (by omega))).2
          first | exact absurd hw_159 hw_2 | exact absurd hw_159 hw_153
      · replace c_156 := mt (I_eq (a := z_155) (b := 0) rz_155 (show rng 0 from ⟨by decide, by decide⟩)).mpr c_156
        replace hw_153 := (hw_153.resolve_right (fun h9 => absurd h9.1 (by omega))).2
        refine lv_iconst (v := I 1) hx hb dX11_atom_18 (by decide) ?_
        refine lv_goto (tgt := 23) hx hb dX11_atom_19 (by decide) ?_
        refine lv_istore_n (lv' := [(1, .int (I 1)), (0, .ref a)]) hx hb dX11_atom_23 rfl hl (by decide) rfl (fun ls hl => ?_)
        refine lv_iload_n hx hb dX11_atom_24 rfl (lv_at hl 0 rfl) ?_
        refine lv_if_eq (tgt := 41) hx hb dX11_atom_25 (by decide) (fun c_176 => absurd c_176 (by decide)) (fun _ => ?_)
        refine lv_aload_n hx hb dX11_atom_28 rfl (lv_at hl 1 rfl) ?_
        refine ok.getIc hO h_a (by decide) k13_28 ea280 (fun _ _ he hv kk => th_get (ci := 11) (C := RX11) (T := TX11) (N := 66) hx hb hts inX11 hown hK hH he rfl 28 (by decide) fl0 hv dX11_atom_29 kk) ?_
        refine lv_iconst (v := I 5) hx hb dX11_atom_32 (by decide) ?_
        refine lv_icmp_ne (tgt := 41) hx hb dX11_atom_33 (by decide) (fun c_177 => ?_) (fun c_177 => ?_)
        · replace c_177 := mt (I_eq (a := a280) (b := 5) ra280 (show rng 5 from ⟨by decide, by decide⟩)).mpr c_177
          refine lv_aload_n hx hb dX11_atom_41 rfl (lv_at hl 1 rfl) ?_
          refine lv_bipush (v := I 33) hx hb dX11_atom_42 (by decide) ?_
          obtain ⟨_, hc_178⟩ := hO.cell h_a (by decide) (ci := 11) rfl
          refine th_calli (va_runV (As := [.int (I 33)]) (rest := []) ⟨hx, hb, hml, hown, hts⟩ (m_isMarkedX l G y b0 σ E hO a h_a 33 (show rng 33 from (show rng 33 from ⟨by decide, by decide⟩)) Bf hsr (by omega)) (cwV 1 hts gX11_atom_X11_isMarked rfl rfl rfl (by decide +kernel) ⟨(by first | (simp only [headSpec]; omega) | omega | (dsimp only; omega)), (by first | (simp only [headSpec]; omega) | omega | (dsimp only; omega))⟩) (th_PV hK hH rfl hc_178) rfl rfl hl.1 rfl (lv_room (Nat.le_of_ble_eq_true rfl)) dX11_atom_44 ⟨(by first | (simp only [headSpec]; omega) | omega | (dsimp only; omega)), (by first | (simp only [headSpec]; omega) | omega | (dsimp only; omega))⟩) hS (fun z_181 σ_s_180 H locs rz_181 hw_179 hH hS => ?_)
          obtain ⟨e9, bhw_179, hw_179⟩ := hw_179
          replace e9 := e9.symm
          subst e9
          have hw_179 : (z_181 = 1 ∧ mkd (gI σ a 19) (gI σ a 14) (Bf (gI σ a 17)) 33) ∨ (z_181 = 0 ∧ ¬ mkd (gI σ a 19) (gI σ a 14) (Bf (gI σ a 17)) 33) := hw_179
          refine lv_if_eq (tgt := 89) hx hb dX11_atom_47 (by decide) (fun c_182 => ?_) (fun c_182 => ?_)
          · replace c_182 := (I_eq (a := z_181) (b := 0) rz_181 (show rng 0 from ⟨by decide, by decide⟩)).mp c_182
            replace hw_179 := (hw_179.resolve_left (fun h9 => absurd h9.1 (by omega))).2
            refine lv_aload_n hx hb dX11_atom_89 rfl (lv_at hl 1 rfl) ?_
            refine lv_bipush (v := I 40) hx hb dX11_atom_90 (by decide) ?_
            obtain ⟨_, hc_183⟩ := hO.cell h_a (by decide) (ci := 11) rfl
            refine th_calli (va_runV (As := [.int (I 40)]) (rest := []) ⟨hx, hb, hml, hown, hts⟩ (m_isMarkedX l G y b0 σ E hO a h_a 40 (show rng 40 from (show rng 40 from ⟨by decide, by decide⟩)) Bf hsr (by omega)) (cwV 1 hts gX11_atom_X11_isMarked rfl rfl rfl (by decide +kernel) ⟨(by first | (simp only [headSpec]; omega) | omega | (dsimp only; omega)), (by first | (simp only [headSpec]; omega) | omega | (dsimp only; omega))⟩) (th_PV hK hH rfl hc_183) rfl rfl hl.1 rfl (lv_room (Nat.le_of_ble_eq_true rfl)) dX11_atom_92 ⟨(by first | (simp only [headSpec]; omega) | omega | (dsimp only; omega)), (by first | (simp only [headSpec]; omega) | omega | (dsimp only; omega))⟩) hS (fun z_186 σ_s_185 H locs rz_186 hw_184 hH hS => ?_)
            obtain ⟨e9, bhw_184, hw_184⟩ := hw_184
            replace e9 := e9.symm
            subst e9
            have hw_184 : (z_186 = 1 ∧ mkd (gI σ a 19) (gI σ a 14) (Bf (gI σ a 17)) 40) ∨ (z_186 = 0 ∧ ¬ mkd (gI σ a 19) (gI σ a 14) (Bf (gI σ a 17)) 40) := hw_184
            refine lv_if_eq (tgt := 135) hx hb dX11_atom_95 (by decide) (fun c_187 => ?_) (fun c_187 => ?_)
            · replace c_187 := (I_eq (a := z_186) (b := 0) rz_186 (show rng 0 from ⟨by decide, by decide⟩)).mp c_187
              replace hw_184 := (hw_184.resolve_left (fun h9 => absurd h9.1 (by omega))).2
              refine lv_aload_n hx hb dX11_atom_135 rfl (lv_at hl 1 rfl) ?_
              obtain ⟨_, hc_188⟩ := hO.cell h_a (by decide) (ci := 11) rfl
              refine th_calli (va_runV (As := []) (rest := []) ⟨hx, hb, hml, hown, hts⟩ (m_little l G y b0 σ E hO a h_a f1 ef1 Bf hsr (hy0) (by omega) (by omega) (by omega)) (cwV 0 hts gX11_atom_X11_little rfl rfl rfl (by decide +kernel) ⟨(by first | (simp only [headSpec]; omega) | omega | (dsimp only; omega)), (by first | (simp only [headSpec]; omega) | omega | (dsimp only; omega))⟩) (th_PV hK hH rfl hc_188) rfl rfl hl.1 rfl (lv_room (Nat.le_of_ble_eq_true rfl)) dX11_atom_136 ⟨(by first | (simp only [headSpec]; omega) | omega | (dsimp only; omega)), (by first | (simp only [headSpec]; omega) | omega | (dsimp only; omega))⟩) hS (fun z_191 σ_s_190 H locs rz_191 hw_189 hH hS => ?_)
              obtain ⟨hO9, hF9, hM9, bhw_189, hw_189⟩ := hw_189
              replace hM := hM.tu hM9 (by decide)
              replace hF := hF.tu hF9 (by decide)
              have e_192 : aF σ_s_190 (ad E a 1) = f1 := (hM9.a (by decide) (by decide)).trans ef1
              have e_193 : gI σ_s_190 a 11 = a110 := (hM9.i (by decide)).trans ea110
              have e_194 : gI σ_s_190 a 28 = a280 := (hM9.i (by decide)).trans ea280
              have e_195 : gI σ_s_190 a 30 = a300 := (hM9.i (by decide)).trans ea300
              replace hsr := hsr.mv hM9 (by decide) (by decide) (by decide) (by decide) (by decide)
              replace hO := hO9
              have hw_189 : (gI σ a 13 ≤ gI σ_s_190 a 13 ∧ gI σ_s_190 a 13 ≤ gI σ a 11 ∧ 0 ≤ gI σ_s_190 a 17 ∧ gI σ_s_190 a 17 ≤ gI σ_s_190 a 13) ∧ pgo (gI σ_s_190 a 19) (gI σ_s_190 a 14) (gI σ a 13) (gI σ_s_190 a 13) := hw_189
              exact th_zret hx hb hr hlocks hH hS (z := z_191) (by omega) ⟨hO, hF, hM, ⟨by omega, by omega⟩, ⟨⟨by omega, hw_189.2.is (by first | (dsimp only; omega) | omega) (by first | (dsimp only; omega) | omega) (by first | (dsimp only; omega) | omega) (by first | (dsimp only; omega) | omega)⟩, by omega⟩⟩ dX11_atom_139
            · replace c_187 := mt (I_eq (a := z_186) (b := 0) rz_186 (show rng 0 from ⟨by decide, by decide⟩)).mpr c_187
              replace hw_184 := (hw_184.resolve_right (fun h9 => absurd h9.1 (by omega))).2
              have hz9 : gI σ a 28 ≤ 4 := by omega
              refine lv_aload_n hx hb dX11_atom_98 rfl (lv_at hl 1 rfl) ?_
              refine lv_dup hx hb dX11_atom_99 rfl ?_
              refine ok.getIc hO h_a (by decide) k13_28 ea280 (fun _ _ he hv kk => th_get (ci := 11) (C := RX11) (T := TX11) (N := 66) hx hb hts inX11 hown hK hH he rfl 28 (by decide) fl0 hv dX11_atom_100 kk) ?_
              refine lv_iconst (v := I 1) hx hb dX11_atom_103 (by decide) ?_
              refine lv_iadd hx hb dX11_atom_104 ?_
              refine th_addo (fun z_196 rz_196 hz_196 => ?_)
              refine ok.putJ hO h_a k13_28 rz_196 (by omega) (by omega) (fun _ he hl9 kk => th_put (ci := 11) (v := .int (I z_196)) (ty := .int) (C := RX11) (T := TX11) (N := 66) hx hb hts inX11 tyX11 tyX11_ok nmX11 hown hK hH hS h00 he rfl 28 (by decide) fl0 rfl (by decide +kernel) rfl rfl hl9 dX11_atom_105 kk) (fun σ_s_197 H locs hO hF9 hM9 hg9 ha9 hH hS => ?_)
              replace hM := hM.tu hM9 (by decide)
              replace hF := hF.tu hF9 (by decide)
              have e_198 : aF σ_s_197 (ad E a 1) = f1 := (hM9.a (by decide) (by decide)).trans ef1
              have e_199 : gI σ_s_197 a 11 = a110 := (hM9.i (by decide)).trans ea110
              have e_200 : gI σ_s_197 a 13 = a130 := (hM9.i (by decide)).trans ea130
              have e_201 : gI σ_s_197 a 14 = a140 := (hM9.i (by decide)).trans ea140
              have e_202 : gI σ_s_197 a 17 = a170 := (hM9.i (by decide)).trans ea170
              have e_203 : gI σ_s_197 a 19 = a190 := (hM9.i (by decide)).trans ea190
              have e_204 : gI σ_s_197 a 30 = a300 := (hM9.i (by decide)).trans ea300
              replace hsr := hsr.mv hM9 (by decide) (by decide) (by decide) (by decide) (by decide)
              have e_205 := hg9
              refine lv_aload_n hx hb dX11_atom_108 rfl (lv_at hl 1 rfl) ?_
              obtain ⟨_, hc_206⟩ := hO.cell h_a (by decide) (ci := 11) rfl
              refine th_callv (va_runV (As := []) (rest := []) ⟨hx, hb, hml, hown, hts⟩ (m_pass l G y b0 σ_s_197 E hO a h_a Bf hsr (by omega)) (cwV 0 hts gX11_atom_X11_pass rfl rfl rfl (by decide +kernel) ⟨(by first | (simp only [headSpec]; omega) | omega | (dsimp only; omega)), (by first | (simp only [headSpec]; omega) | omega | (dsimp only; omega))⟩) (th_PV hK hH rfl hc_206) rfl rfl hl.1 rfl (lv_room (Nat.le_of_ble_eq_true rfl)) dX11_atom_109 ⟨(by first | (simp only [headSpec]; omega) | omega | (dsimp only; omega)), (by first | (simp only [headSpec]; omega) | omega | (dsimp only; omega))⟩) hS (fun σ_s_208 H locs hw_207 hH hS => ?_)
              obtain ⟨hO9, hF9, hM9, hw_207⟩ := hw_207
              replace hM := hM.tu hM9 (by decide)
              replace hF := hF.tu hF9 (by decide)
              have e_209 : aF σ_s_208 (ad E a 1) = f1 := (hM9.a (by decide) (by decide)).trans e_198
              have e_210 : gI σ_s_208 a 11 = a110 := (hM9.i (by decide)).trans e_199
              have e_211 : gI σ_s_208 a 19 = a190 := (hM9.i (by decide)).trans e_203
              have e_212 : gI σ_s_208 a 30 = a300 := (hM9.i (by decide)).trans e_204
              have e_213 : gI σ_s_208 a 28 = z_196 := (hM9.i (by decide)).trans e_205
              replace hsr := hsr.mv hM9 (by decide) (by decide) (by decide) (by decide) (by decide)
              replace hO := hO9
              have hw_207 : (gI σ_s_197 a 13 ≤ gI σ_s_208 a 13 ∧ gI σ_s_208 a 13 ≤ gI σ_s_197 a 11 ∧ 0 ≤ gI σ_s_208 a 17 ∧ gI σ_s_208 a 17 ≤ gI σ_s_208 a 13) ∧ pgo (gI σ_s_208 a 19) (gI σ_s_208 a 14) (gI σ_s_197 a 13) (gI σ_s_208 a 13) ∧ gI σ_s_208 a 19 = gI σ_s_197 a 19 := hw_207
              refine lv_aload_n hx hb dX11_atom_112 rfl (lv_at hl 1 rfl) ?_
              obtain ⟨_, hc_214⟩ := hO.cell h_a (by decide) (ci := 11) rfl
              refine th_calli (va_runV (As := []) (rest := []) ⟨hx, hb, hml, hown, hts⟩ (m_cond n ih l G y b0 σ_s_208 E hO a h_a f1 e_209 Bf hsr (hy0) (by omega) (by omega) (by omega) (by omega) (by omega)) (cwV 0 hts gX11_atom_X11_cond rfl rfl rfl (by decide +kernel) ⟨(by first | (simp only [headSpec]; omega) | omega | (dsimp only; omega)), (by first | (simp only [headSpec]; omega) | omega | (dsimp only; omega))⟩) (th_PV hK hH rfl hc_214) rfl rfl hl.1 rfl (lv_room (Nat.le_of_ble_eq_true rfl)) dX11_atom_113 ⟨(by first | (simp only [headSpec]; omega) | omega | (dsimp only; omega)), (by first | (simp only [headSpec]; omega) | omega | (dsimp only; omega))⟩) hS (fun z_217 σ_s_216 H locs rz_217 hw_215 hH hS => ?_)
              obtain ⟨hO9, hF9, hM9, bhw_215, hw_215⟩ := hw_215
              replace hM := hM.tu hM9 (by decide)
              replace hF := hF.tu hF9 (by decide)
              have e_218 : aF σ_s_216 (ad E a 1) = f1 := (hM9.a (by decide) (by decide)).trans e_209
              have e_219 : gI σ_s_216 a 11 = a110 := (hM9.i (by decide)).trans e_210
              have e_220 : gI σ_s_216 a 30 = a300 := (hM9.i (by decide)).trans e_212
              replace hsr := hsr.mv hM9 (by decide) (by decide) (by decide) (by decide) (by decide)
              replace hO := hO9
              have hw_215 : ((gI σ_s_208 a 13 ≤ gI σ_s_216 a 13 ∧ gI σ_s_216 a 13 ≤ gI σ_s_208 a 11 ∧ 0 ≤ gI σ_s_216 a 17 ∧ gI σ_s_216 a 17 ≤ gI σ_s_216 a 13) ∧ pgo (gI σ_s_216 a 19) (gI σ_s_216 a 14) (gI σ_s_208 a 13) (gI σ_s_216 a 13)) ∧ gI σ_s_216 a 28 = gI σ_s_208 a 28 := hw_215
              refine lv_istore_n (lv' := [(2, .int (I z_217)), (1, .int (I 1)), (0, .ref a)]) hx hb dX11_atom_116 rfl hl (by decide) rfl (fun ls hl => ?_)
              refine lv_aload_n hx hb dX11_atom_117 rfl (lv_at hl 2 rfl) ?_
              refine lv_bipush (v := I 41) hx hb dX11_atom_118 (by decide) ?_
              obtain ⟨z_221, e_222, rz_221, lz_221, uz_221⟩ := hO.gi h_a (by decide) k13_28
              obtain ⟨_, hc_223⟩ := hO.cell h_a (by decide) (ci := 11) rfl
              refine th_callv (va_runV (As := [.int (I 41)]) (rest := []) ⟨hx, hb, hml, hown, hts⟩ (m_need l G y b0 σ_s_216 E hO a h_a 41 (show rng 41 from (show rng 41 from ⟨by decide, by decide⟩)) Bf hsr (by omega)) (cwV 1 hts gX11_atom_X11_need rfl rfl rfl (by decide +kernel) ⟨(by first | (simp only [headSpec]; omega) | omega | (dsimp only; omega)), (by first | (simp only [headSpec]; omega) | omega | (dsimp only; omega))⟩) (th_PV hK hH rfl hc_223) rfl rfl hl.1 rfl (lv_room (Nat.le_of_ble_eq_true rfl)) dX11_atom_120 ⟨(by first | (simp only [headSpec]; omega) | omega | (dsimp only; omega)), (by first | (simp only [headSpec]; omega) | omega | (dsimp only; omega))⟩) hS (fun σ_s_225 H locs hw_224 hH hS => ?_)
              obtain ⟨hO9, hF9, hM9, hw_224⟩ := hw_224
              replace hM := hM.tu hM9 (by decide)
              replace hF := hF.tu hF9 (by decide)
              have e_226 : aF σ_s_225 (ad E a 1) = f1 := (hM9.a (by decide) (by decide)).trans e_218
              have e_227 : gI σ_s_225 a 11 = a110 := (hM9.i (by decide)).trans e_219
              have e_228 : gI σ_s_225 a 30 = a300 := (hM9.i (by decide)).trans e_220
              have e_229 : gI σ_s_225 a 28 = z_221 := (hM9.i (by decide)).trans e_222
              replace hsr := hsr.mv hM9 (by decide) (by decide) (by decide) (by decide) (by decide)
              replace hO := hO9
              have hw_224 : (gI σ_s_216 a 13 ≤ gI σ_s_225 a 13 ∧ gI σ_s_225 a 13 ≤ gI σ_s_216 a 11 ∧ 0 ≤ gI σ_s_225 a 17 ∧ gI σ_s_225 a 17 ≤ gI σ_s_225 a 13) ∧ pgo (gI σ_s_225 a 19) (gI σ_s_225 a 14) (gI σ_s_216 a 13) (gI σ_s_225 a 13) ∧ bdo (gI σ_s_216 a 19) (gI σ_s_225 a 19) := hw_224
              refine lv_aload_n hx hb dX11_atom_123 rfl (lv_at hl 2 rfl) ?_
              refine lv_dup hx hb dX11_atom_124 rfl ?_
              refine ok.getIc hO h_a (by decide) k13_28 e_229 (fun _ _ he hv kk => th_get (ci := 11) (C := RX11) (T := TX11) (N := 66) hx hb hts inX11 hown hK hH he rfl 28 (by decide) fl0 hv dX11_atom_125 kk) ?_
              refine lv_iconst (v := I 1) hx hb dX11_atom_128 (by decide) ?_
              refine lv_isub hx hb dX11_atom_129 ?_
              refine th_subo (fun z_230 rz_230 hz_230 => ?_)
              obtain ⟨z_231, e_232, rz_231, lz_231, uz_231⟩ := hO.gi h_a (by decide) k13_13
              obtain ⟨z_233, e_234, rz_233, lz_233, uz_233⟩ := hO.gi h_a (by decide) k13_14
              obtain ⟨z_235, e_236, rz_235, lz_235, uz_235⟩ := hO.gi h_a (by decide) k13_17
              obtain ⟨z_237, e_238, rz_237, lz_237, uz_237⟩ := hO.gi h_a (by decide) k13_19
              refine ok.putJ hO h_a k13_28 rz_230 (by omega) (by omega) (fun _ he hl9 kk => th_put (ci := 11) (v := .int (I z_230)) (ty := .int) (C := RX11) (T := TX11) (N := 66) hx hb hts inX11 tyX11 tyX11_ok nmX11 hown hK hH hS h00 he rfl 28 (by decide) fl0 rfl (by decide +kernel) rfl rfl hl9 dX11_atom_130 kk) (fun σ_s_239 H locs hO hF9 hM9 hg9 ha9 hH hS => ?_)
              replace hM := hM.tu hM9 (by decide)
              replace hF := hF.tu hF9 (by decide)
              have e_240 : aF σ_s_239 (ad E a 1) = f1 := (hM9.a (by decide) (by decide)).trans e_226
              have e_241 : gI σ_s_239 a 11 = a110 := (hM9.i (by decide)).trans e_227
              have e_242 : gI σ_s_239 a 30 = a300 := (hM9.i (by decide)).trans e_228
              have e_243 : gI σ_s_239 a 13 = z_231 := (hM9.i (by decide)).trans e_232
              have e_244 : gI σ_s_239 a 14 = z_233 := (hM9.i (by decide)).trans e_234
              have e_245 : gI σ_s_239 a 17 = z_235 := (hM9.i (by decide)).trans e_236
              have e_246 : gI σ_s_239 a 19 = z_237 := (hM9.i (by decide)).trans e_238
              replace hsr := hsr.mv hM9 (by decide) (by decide) (by decide) (by decide) (by decide)
              have e_247 := hg9
              refine lv_iload_n hx hb dX11_atom_133 rfl (lv_at hl 0 rfl) ?_
              exact th_zret hx hb hr hlocks hH hS (z := z_217) (by omega) ⟨hO, hF, hM, ⟨by omega, by omega⟩, ⟨⟨by omega, hw_224.2.1.is (by omega) (by omega) (by omega) (by omega)⟩, by omega⟩⟩ dX11_atom_134
          · replace c_182 := mt (I_eq (a := z_181) (b := 0) rz_181 (show rng 0 from ⟨by decide, by decide⟩)).mpr c_182
            replace hw_179 := (hw_179.resolve_right (fun h9 => absurd h9.1 (by omega))).2
            have hz9 : gI σ a 28 ≤ 4 := by omega
            refine lv_aload_n hx hb dX11_atom_50 rfl (lv_at hl 1 rfl) ?_
            refine lv_dup hx hb dX11_atom_51 rfl ?_
            refine ok.getIc hO h_a (by decide) k13_28 ea280 (fun _ _ he hv kk => th_get (ci := 11) (C := RX11) (T := TX11) (N := 66) hx hb hts inX11 hown hK hH he rfl 28 (by decide) fl0 hv dX11_atom_52 kk) ?_
            refine lv_iconst (v := I 1) hx hb dX11_atom_55 (by decide) ?_
            refine lv_iadd hx hb dX11_atom_56 ?_
            refine th_addo (fun z_248 rz_248 hz_248 => ?_)
            refine ok.putJ hO h_a k13_28 rz_248 (by omega) (by omega) (fun _ he hl9 kk => th_put (ci := 11) (v := .int (I z_248)) (ty := .int) (C := RX11) (T := TX11) (N := 66) hx hb hts inX11 tyX11 tyX11_ok nmX11 hown hK hH hS h00 he rfl 28 (by decide) fl0 rfl (by decide +kernel) rfl rfl hl9 dX11_atom_57 kk) (fun σ_s_249 H locs hO hF9 hM9 hg9 ha9 hH hS => ?_)
            replace hM := hM.tu hM9 (by decide)
            replace hF := hF.tu hF9 (by decide)
            have e_250 : aF σ_s_249 (ad E a 1) = f1 := (hM9.a (by decide) (by decide)).trans ef1
            have e_251 : gI σ_s_249 a 11 = a110 := (hM9.i (by decide)).trans ea110
            have e_252 : gI σ_s_249 a 13 = a130 := (hM9.i (by decide)).trans ea130
            have e_253 : gI σ_s_249 a 14 = a140 := (hM9.i (by decide)).trans ea140
            have e_254 : gI σ_s_249 a 17 = a170 := (hM9.i (by decide)).trans ea170
            have e_255 : gI σ_s_249 a 19 = a190 := (hM9.i (by decide)).trans ea190
            have e_256 : gI σ_s_249 a 30 = a300 := (hM9.i (by decide)).trans ea300
            replace hsr := hsr.mv hM9 (by decide) (by decide) (by decide) (by decide) (by decide)
            have e_257 := hg9
            refine lv_aload_n hx hb dX11_atom_60 rfl (lv_at hl 1 rfl) ?_
            obtain ⟨_, hc_258⟩ := hO.cell h_a (by decide) (ci := 11) rfl
            refine th_callv (va_runV (As := []) (rest := []) ⟨hx, hb, hml, hown, hts⟩ (m_pass l G y b0 σ_s_249 E hO a h_a Bf hsr (by omega)) (cwV 0 hts gX11_atom_X11_pass rfl rfl rfl (by decide +kernel) ⟨(by first | (simp only [headSpec]; omega) | omega | (dsimp only; omega)), (by first | (simp only [headSpec]; omega) | omega | (dsimp only; omega))⟩) (th_PV hK hH rfl hc_258) rfl rfl hl.1 rfl (lv_room (Nat.le_of_ble_eq_true rfl)) dX11_atom_61 ⟨(by first | (simp only [headSpec]; omega) | omega | (dsimp only; omega)), (by first | (simp only [headSpec]; omega) | omega | (dsimp only; omega))⟩) hS (fun σ_s_260 H locs hw_259 hH hS => ?_)
            obtain ⟨hO9, hF9, hM9, hw_259⟩ := hw_259
            replace hM := hM.tu hM9 (by decide)
            replace hF := hF.tu hF9 (by decide)
            have e_261 : aF σ_s_260 (ad E a 1) = f1 := (hM9.a (by decide) (by decide)).trans e_250
            have e_262 : gI σ_s_260 a 11 = a110 := (hM9.i (by decide)).trans e_251
            have e_263 : gI σ_s_260 a 19 = a190 := (hM9.i (by decide)).trans e_255
            have e_264 : gI σ_s_260 a 30 = a300 := (hM9.i (by decide)).trans e_256
            have e_265 : gI σ_s_260 a 28 = z_248 := (hM9.i (by decide)).trans e_257
            replace hsr := hsr.mv hM9 (by decide) (by decide) (by decide) (by decide) (by decide)
            replace hO := hO9
            have hw_259 : (gI σ_s_249 a 13 ≤ gI σ_s_260 a 13 ∧ gI σ_s_260 a 13 ≤ gI σ_s_249 a 11 ∧ 0 ≤ gI σ_s_260 a 17 ∧ gI σ_s_260 a 17 ≤ gI σ_s_260 a 13) ∧ pgo (gI σ_s_260 a 19) (gI σ_s_260 a 14) (gI σ_s_249 a 13) (gI σ_s_260 a 13) ∧ gI σ_s_260 a 19 = gI σ_s_249 a 19 := hw_259
            refine lv_aload_n hx hb dX11_atom_64 rfl (lv_at hl 1 rfl) ?_
            obtain ⟨_, hc_266⟩ := hO.cell h_a (by decide) (ci := 11) rfl
            refine th_calli (va_runV (As := []) (rest := []) ⟨hx, hb, hml, hown, hts⟩ (ih l G y b0 σ_s_260 E hO a h_a f1 e_261 Bf hsr (hy0) (by omega) (by omega) (by omega) (by omega) (by omega)) (cwV 0 hts gX11_atom_X11_atom rfl rfl rfl (by decide +kernel) ⟨(by first | (simp only [headSpec]; omega) | omega | (dsimp only; omega)), (by first | (simp only [headSpec]; omega) | omega | (dsimp only; omega))⟩) (th_PV hK hH rfl hc_266) rfl rfl hl.1 rfl (lv_room (Nat.le_of_ble_eq_true rfl)) dX11_atom_65 ⟨(by first | (simp only [headSpec]; omega) | omega | (dsimp only; omega)), (by first | (simp only [headSpec]; omega) | omega | (dsimp only; omega))⟩) hS (fun z_269 σ_s_268 H locs rz_269 hw_267 hH hS => ?_)
            obtain ⟨hO9, hF9, hM9, bhw_267, hw_267⟩ := hw_267
            replace hM := hM.tu hM9 (by decide)
            replace hF := hF.tu hF9 (by decide)
            have e_270 : aF σ_s_268 (ad E a 1) = f1 := (hM9.a (by decide) (by decide)).trans e_261
            have e_271 : gI σ_s_268 a 11 = a110 := (hM9.i (by decide)).trans e_262
            have e_272 : gI σ_s_268 a 30 = a300 := (hM9.i (by decide)).trans e_264
            replace hsr := hsr.mv hM9 (by decide) (by decide) (by decide) (by decide) (by decide)
            replace hO := hO9
            have hw_267 : ((gI σ_s_260 a 13 ≤ gI σ_s_268 a 13 ∧ gI σ_s_268 a 13 ≤ gI σ_s_260 a 11 ∧ 0 ≤ gI σ_s_268 a 17 ∧ gI σ_s_268 a 17 ≤ gI σ_s_268 a 13) ∧ pgo (gI σ_s_268 a 19) (gI σ_s_268 a 14) (gI σ_s_260 a 13) (gI σ_s_268 a 13)) ∧ gI σ_s_268 a 28 = gI σ_s_260 a 28 := hw_267
            refine lv_istore_n (lv' := [(2, .int (I z_269)), (1, .int (I 1)), (0, .ref a)]) hx hb dX11_atom_68 rfl hl (by decide) rfl (fun ls hl => ?_)
            refine lv_aload_n hx hb dX11_atom_69 rfl (lv_at hl 2 rfl) ?_
            refine lv_dup hx hb dX11_atom_70 rfl ?_
            refine ok.getI hO h_a (by decide) k13_28 (fun _ _ he hv kk => th_get (ci := 11) (C := RX11) (T := TX11) (N := 66) hx hb hts inX11 hown hK hH he rfl 28 (by decide) fl0 hv dX11_atom_71 kk) (fun z_273 e_274 rz_273 lz_273 uz_273 => ?_)
            refine lv_iconst (v := I 1) hx hb dX11_atom_74 (by decide) ?_
            refine lv_isub hx hb dX11_atom_75 ?_
            refine th_subo (fun z_275 rz_275 hz_275 => ?_)
            obtain ⟨z_276, e_277, rz_276, lz_276, uz_276⟩ := hO.gi h_a (by decide) k13_13
            obtain ⟨z_278, e_279, rz_278, lz_278, uz_278⟩ := hO.gi h_a (by decide) k13_14
            obtain ⟨z_280, e_281, rz_280, lz_280, uz_280⟩ := hO.gi h_a (by decide) k13_17
            obtain ⟨z_282, e_283, rz_282, lz_282, uz_282⟩ := hO.gi h_a (by decide) k13_19
            refine ok.putJ hO h_a k13_28 rz_275 (by omega) (by omega) (fun _ he hl9 kk => th_put (ci := 11) (v := .int (I z_275)) (ty := .int) (C := RX11) (T := TX11) (N := 66) hx hb hts inX11 tyX11 tyX11_ok nmX11 hown hK hH hS h00 he rfl 28 (by decide) fl0 rfl (by decide +kernel) rfl rfl hl9 dX11_atom_76 kk) (fun σ_s_284 H locs hO hF9 hM9 hg9 ha9 hH hS => ?_)
            replace hM := hM.tu hM9 (by decide)
            replace hF := hF.tu hF9 (by decide)
            have e_285 : aF σ_s_284 (ad E a 1) = f1 := (hM9.a (by decide) (by decide)).trans e_270
            have e_286 : gI σ_s_284 a 11 = a110 := (hM9.i (by decide)).trans e_271
            have e_287 : gI σ_s_284 a 30 = a300 := (hM9.i (by decide)).trans e_272
            have e_288 : gI σ_s_284 a 13 = z_276 := (hM9.i (by decide)).trans e_277
            have e_289 : gI σ_s_284 a 14 = z_278 := (hM9.i (by decide)).trans e_279
            have e_290 : gI σ_s_284 a 17 = z_280 := (hM9.i (by decide)).trans e_281
            have e_291 : gI σ_s_284 a 19 = z_282 := (hM9.i (by decide)).trans e_283
            replace hsr := hsr.mv hM9 (by decide) (by decide) (by decide) (by decide) (by decide)
            have e_292 := hg9
            refine lv_iload_n hx hb dX11_atom_79 rfl (lv_at hl 0 rfl) ?_
            refine lv_if_ne (tgt := 87) hx hb dX11_atom_80 (by decide) (fun c_293 => ?_) (fun c_293 => ?_)
            · replace c_293 := mt (I_eq (a := z_269) (b := 0) rz_269 (show rng 0 from ⟨by decide, by decide⟩)).mpr c_293
              refine lv_iconst (v := I 0) hx hb dX11_atom_87 (by decide) ?_
              exact th_zret hx hb hr hlocks hH hS (z := 0) (by omega) ⟨hO, hF, hM, ⟨by omega, by omega⟩, ⟨⟨by omega, hw_267.1.2.is (by first | (dsimp only; omega) | omega) (by first | (dsimp only; omega) | omega) (by first | (dsimp only; omega) | omega) (by first | (dsimp only; omega) | omega)⟩, by omega⟩⟩ dX11_atom_88
            · replace c_293 := (I_eq (a := z_269) (b := 0) rz_269 (show rng 0 from ⟨by decide, by decide⟩)).mp c_293
              refine lv_iconst (v := I 1) hx hb dX11_atom_83 (by decide) ?_
              refine lv_goto (tgt := 88) hx hb dX11_atom_84 (by decide) ?_
              exact th_zret hx hb hr hlocks hH hS (z := 1) (by omega) ⟨hO, hF, hM, ⟨by omega, by omega⟩, ⟨⟨by omega, hw_267.1.2.is (by first | (dsimp only; omega) | omega) (by first | (dsimp only; omega) | omega) (by first | (dsimp only; omega) | omega) (by first | (dsimp only; omega) | omega)⟩, by omega⟩⟩ dX11_atom_88
        · replace c_177 := (I_eq (a := a280) (b := 5) ra280 (show rng 5 from ⟨by decide, by decide⟩)).mp c_177
          refine lv_aload_n hx hb dX11_atom_36 rfl (lv_at hl 1 rfl) ?_
          refine lv_iconst (v := I 2) hx hb dX11_atom_37 (by decide) ?_
          obtain ⟨_, hc_294⟩ := hO.cell h_a (by decide) (ci := 11) rfl
          refine th_callv (va_runV (As := [.int (I 2)]) (rest := []) ⟨hx, hb, hml, hown, hts⟩ (m_wrong l G y b0 σ E hO a h_a 2 (show rng 2 from (show rng 2 from ⟨by decide, by decide⟩)) (by omega) (by omega)) (cwV 1 hts gX11_atom_X11_wrong rfl rfl rfl (by decide +kernel) ⟨(by first | (simp only [headSpec]; omega) | omega | (dsimp only; omega)), (by first | (simp only [headSpec]; omega) | omega | (dsimp only; omega))⟩) (th_PV hK hH rfl hc_294) rfl rfl hl.1 rfl (lv_room (Nat.le_of_ble_eq_true rfl)) dX11_atom_38 ⟨(by first | (simp only [headSpec]; omega) | omega | (dsimp only; omega)), (by first | (simp only [headSpec]; omega) | omega | (dsimp only; omega))⟩) hS (fun σ_s_296 H locs hw_295 hH hS => ?_)
          obtain ⟨hO9, hF9, hM9, hw_295⟩ := hw_295
          replace hM := hM.tu hM9 (by decide)
          replace hF := hF.tu hF9 (by decide)
          have e_297 : aF σ_s_296 (ad E a 1) = f1 := (hM9.a (by decide) (by decide)).trans ef1
          have e_298 : gI σ_s_296 a 11 = a110 := (hM9.i (by decide)).trans ea110
          have e_299 : gI σ_s_296 a 13 = a130 := (hM9.i (by decide)).trans ea130
          have e_300 : gI σ_s_296 a 14 = a140 := (hM9.i (by decide)).trans ea140
          have e_301 : gI σ_s_296 a 17 = a170 := (hM9.i (by decide)).trans ea170
          have e_302 : gI σ_s_296 a 28 = a280 := (hM9.i (by decide)).trans ea280
          have e_303 : gI σ_s_296 a 30 = a300 := (hM9.i (by decide)).trans ea300
          replace hsr := hsr.mv hM9 (by decide) (by decide) (by decide) (by decide) (by decide)
          replace hO := hO9
          have hw_295 : ¬ gI σ_s_296 a 19 = 0 ∧ (gI σ a 19 = 0 ∨ gI σ_s_296 a 19 = gI σ a 19) := hw_295
          refine lv_aload_n hx hb dX11_atom_41 rfl (lv_at hl 1 rfl) ?_
          refine lv_bipush (v := I 33) hx hb dX11_atom_42 (by decide) ?_
          obtain ⟨_, hc_304⟩ := hO.cell h_a (by decide) (ci := 11) rfl
          refine th_calli (va_runV (As := [.int (I 33)]) (rest := []) ⟨hx, hb, hml, hown, hts⟩ (m_isMarkedX l G y b0 σ_s_296 E hO a h_a 33 (show rng 33 from (show rng 33 from ⟨by decide, by decide⟩)) Bf hsr (by omega)) (cwV 1 hts gX11_atom_X11_isMarked rfl rfl rfl (by decide +kernel) ⟨(by first | (simp only [headSpec]; omega) | omega | (dsimp only; omega)), (by first | (simp only [headSpec]; omega) | omega | (dsimp only; omega))⟩) (th_PV hK hH rfl hc_304) rfl rfl hl.1 rfl (lv_room (Nat.le_of_ble_eq_true rfl)) dX11_atom_44 ⟨(by first | (simp only [headSpec]; omega) | omega | (dsimp only; omega)), (by first | (simp only [headSpec]; omega) | omega | (dsimp only; omega))⟩) hS (fun z_307 σ_s_306 H locs rz_307 hw_305 hH hS => ?_)
          obtain ⟨e9, bhw_305, hw_305⟩ := hw_305
          replace e9 := e9.symm
          subst e9
          have hw_305 : (z_307 = 1 ∧ mkd (gI σ_s_296 a 19) (gI σ_s_296 a 14) (Bf (gI σ_s_296 a 17)) 33) ∨ (z_307 = 0 ∧ ¬ mkd (gI σ_s_296 a 19) (gI σ_s_296 a 14) (Bf (gI σ_s_296 a 17)) 33) := hw_305
          refine lv_if_eq (tgt := 89) hx hb dX11_atom_47 (by decide) (fun c_308 => ?_) (fun c_308 => ?_)
          · replace c_308 := (I_eq (a := z_307) (b := 0) rz_307 (show rng 0 from ⟨by decide, by decide⟩)).mp c_308
            replace hw_305 := (hw_305.resolve_left (fun h9 => absurd h9.1 (by omega))).2
            refine lv_aload_n hx hb dX11_atom_89 rfl (lv_at hl 1 rfl) ?_
            refine lv_bipush (v := I 40) hx hb dX11_atom_90 (by decide) ?_
            obtain ⟨_, hc_309⟩ := hO.cell h_a (by decide) (ci := 11) rfl
            refine th_calli (va_runV (As := [.int (I 40)]) (rest := []) ⟨hx, hb, hml, hown, hts⟩ (m_isMarkedX l G y b0 σ_s_296 E hO a h_a 40 (show rng 40 from (show rng 40 from ⟨by decide, by decide⟩)) Bf hsr (by omega)) (cwV 1 hts gX11_atom_X11_isMarked rfl rfl rfl (by decide +kernel) ⟨(by first | (simp only [headSpec]; omega) | omega | (dsimp only; omega)), (by first | (simp only [headSpec]; omega) | omega | (dsimp only; omega))⟩) (th_PV hK hH rfl hc_309) rfl rfl hl.1 rfl (lv_room (Nat.le_of_ble_eq_true rfl)) dX11_atom_92 ⟨(by first | (simp only [headSpec]; omega) | omega | (dsimp only; omega)), (by first | (simp only [headSpec]; omega) | omega | (dsimp only; omega))⟩) hS (fun z_312 σ_s_311 H locs rz_312 hw_310 hH hS => ?_)
            obtain ⟨e9, bhw_310, hw_310⟩ := hw_310
            replace e9 := e9.symm
            subst e9
            have hw_310 : (z_312 = 1 ∧ mkd (gI σ_s_296 a 19) (gI σ_s_296 a 14) (Bf (gI σ_s_296 a 17)) 40) ∨ (z_312 = 0 ∧ ¬ mkd (gI σ_s_296 a 19) (gI σ_s_296 a 14) (Bf (gI σ_s_296 a 17)) 40) := hw_310
            refine lv_if_eq (tgt := 135) hx hb dX11_atom_95 (by decide) (fun c_313 => ?_) (fun c_313 => ?_)
            · replace c_313 := (I_eq (a := z_312) (b := 0) rz_312 (show rng 0 from ⟨by decide, by decide⟩)).mp c_313
              replace hw_310 := (hw_310.resolve_left (fun h9 => absurd h9.1 (by omega))).2
              refine lv_aload_n hx hb dX11_atom_135 rfl (lv_at hl 1 rfl) ?_
              obtain ⟨_, hc_314⟩ := hO.cell h_a (by decide) (ci := 11) rfl
              refine th_calli (va_runV (As := []) (rest := []) ⟨hx, hb, hml, hown, hts⟩ (m_little l G y b0 σ_s_296 E hO a h_a f1 e_297 Bf hsr (hy0) (by omega) (by omega) (by omega)) (cwV 0 hts gX11_atom_X11_little rfl rfl rfl (by decide +kernel) ⟨(by first | (simp only [headSpec]; omega) | omega | (dsimp only; omega)), (by first | (simp only [headSpec]; omega) | omega | (dsimp only; omega))⟩) (th_PV hK hH rfl hc_314) rfl rfl hl.1 rfl (lv_room (Nat.le_of_ble_eq_true rfl)) dX11_atom_136 ⟨(by first | (simp only [headSpec]; omega) | omega | (dsimp only; omega)), (by first | (simp only [headSpec]; omega) | omega | (dsimp only; omega))⟩) hS (fun z_317 σ_s_316 H locs rz_317 hw_315 hH hS => ?_)
              obtain ⟨hO9, hF9, hM9, bhw_315, hw_315⟩ := hw_315
              replace hM := hM.tu hM9 (by decide)
              replace hF := hF.tu hF9 (by decide)
              have e_318 : aF σ_s_316 (ad E a 1) = f1 := (hM9.a (by decide) (by decide)).trans e_297
              have e_319 : gI σ_s_316 a 11 = a110 := (hM9.i (by decide)).trans e_298
              have e_320 : gI σ_s_316 a 28 = a280 := (hM9.i (by decide)).trans e_302
              have e_321 : gI σ_s_316 a 30 = a300 := (hM9.i (by decide)).trans e_303
              replace hsr := hsr.mv hM9 (by decide) (by decide) (by decide) (by decide) (by decide)
              replace hO := hO9
              have hw_315 : (gI σ_s_296 a 13 ≤ gI σ_s_316 a 13 ∧ gI σ_s_316 a 13 ≤ gI σ_s_296 a 11 ∧ 0 ≤ gI σ_s_316 a 17 ∧ gI σ_s_316 a 17 ≤ gI σ_s_316 a 13) ∧ pgo (gI σ_s_316 a 19) (gI σ_s_316 a 14) (gI σ_s_296 a 13) (gI σ_s_316 a 13) := hw_315
              exact th_zret hx hb hr hlocks hH hS (z := z_317) (by omega) ⟨hO, hF, hM, ⟨by omega, by omega⟩, ⟨⟨by omega, hw_315.2.is (by first | (dsimp only; omega) | omega) (by first | (dsimp only; omega) | omega) (by first | (dsimp only; omega) | omega) (by first | (dsimp only; omega) | omega)⟩, by omega⟩⟩ dX11_atom_139
            · replace c_313 := mt (I_eq (a := z_312) (b := 0) rz_312 (show rng 0 from ⟨by decide, by decide⟩)).mpr c_313
              replace hw_310 := (hw_310.resolve_right (fun h9 => absurd h9.1 (by omega))).2
              exact absurd hw_310.1 (by omega)
          · replace c_308 := mt (I_eq (a := z_307) (b := 0) rz_307 (show rng 0 from ⟨by decide, by decide⟩)).mpr c_308
            replace hw_305 := (hw_305.resolve_right (fun h9 => absurd h9.1 (by omega))).2
            exact absurd hw_305.1 (by omega)
