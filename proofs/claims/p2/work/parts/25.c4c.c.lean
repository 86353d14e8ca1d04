set_option maxHeartbeats 4000000 in
set_option maxRecDepth 100000 in
theorem m_allOf (n : Nat) (ih : ∀ (l : Launch) (G : va_G) (y : Nat → ClassId) (b0 : Nat) (σ : th_M) (E : th_E) (hO : ok y E σ) (a : Nat) (h_a : kd E a = 13) (f1 : Nat → Int32) (ef1 : aF σ (ad E a 1) = f1) (Bf : Int → Int) (hsr : sr E σ a Bf) (hy0 : wf f1 0 (mS f1 0)) (hy1 : 1 ≤ mS f1 0 ∧ mS f1 0 ≤ 60) (hy2 : 0 ≤ gI σ a 17 ∧ gI σ a 17 ≤ gI σ a 13 ∧ gI σ a 13 ≤ gI σ a 11 ∧ gI σ a 11 ≤ 400) (hy3 : -1 ≤ gI σ a 30 ∧ gI σ a 30 < mS f1 0) (hy4 : 0 ≤ gI σ a 28 ∧ gI σ a 28 ≤ 5) (hn : (5 - gI σ a 28).toNat < n), Met l yX11_atom wsX11_atom ({ frames := 5*n+12, cells := 0, slots := 0, locals := (180*n+400) }) (th_P G y b0 σ [.ref a]) (th_Qi G b0 (fun r σ1 => ok y E σ1 ∧ fr [13] E σ σ1 ∧ fm [13, 14, 15, 16, 17, 18, 19, 20, 27, 28] E σ σ1 a ∧ (0 ≤ r ∧ r ≤ 1) ∧ ((gI σ a 13 ≤ gI σ1 a 13 ∧ gI σ1 a 13 ≤ gI σ a 11 ∧ 0 ≤ gI σ1 a 17 ∧ gI σ1 a 17 ≤ gI σ1 a 13 ∧ pgo (gI σ1 a 19) (gI σ1 a 14) (gI σ a 13) (gI σ1 a 13)) ∧ gI σ1 a 28 = gI σ a 28))) 0 0 (th_A b0)) (l : Launch) (G : va_G) (y : Nat → ClassId) (b0 : Nat) (σ : th_M) (E : th_E) (hO : ok y E σ) (a : Nat) (h_a : kd E a = 13) (f1 : Nat → Int32) (ef1 : aF σ (ad E a 1) = f1) (Bf : Int → Int) (hsr : sr E σ a Bf) (hy0 : wf f1 0 (mS f1 0)) (hy1 : 1 ≤ mS f1 0 ∧ mS f1 0 ≤ 60) (hy2 : 0 ≤ gI σ a 17 ∧ gI σ a 17 ≤ gI σ a 13 ∧ gI σ a 13 ≤ gI σ a 11 ∧ gI σ a 11 ≤ 400) (hy3 : -1 ≤ gI σ a 30 ∧ gI σ a 30 < mS f1 0) (hy4 : 0 ≤ gI σ a 28 ∧ gI σ a 28 ≤ 5) (hy5 : (5 - gI σ a 28).toNat < n) : Met l yX11_allOf wsX11_allOf ({ frames := 5*n+14, cells := 0, slots := 0, locals := (180*n+450) }) (th_P G y b0 σ [.ref a]) (th_Qi G b0 (fun r σ1 => ok y E σ1 ∧ fr [13] E σ σ1 ∧ fm [13, 14, 15, 16, 17, 18, 19, 20, 27, 28] E σ σ1 a ∧ (0 ≤ r ∧ r ≤ 1) ∧ ((gI σ a 13 ≤ gI σ1 a 13 ∧ gI σ1 a 13 ≤ gI σ a 11 ∧ 0 ≤ gI σ1 a 17 ∧ gI σ1 a 17 ≤ gI σ1 a 13 ∧ pgo (gI σ1 a 19) (gI σ1 a 14) (gI σ a 13) (gI σ1 a 13)) ∧ gI σ1 a 28 = gI σ a 28))) 0 0 (th_A b0) := by
  refine Met.ofW (cc := cX11_allOf) (maxL := 3) (ret := (some .boolean)) (by decide) rfl ?_
  intro p e s m args below meth c s₁ B hml hv
  obtain ⟨rfl, hH, hK⟩ := hv
  have hx := B.exec
  have hb := B.bytes
  have hr := B.returns
  have hts := atoms_spec (ws := wsX11_allOf) B.pre
  have hown : s.vm.findClass RX11 = some m.cls := findClass_of_methodNamed B.named
  have hlocks := B.notSynchronized
  have h00 : b0 ≤ s.heap.size := hH.1
  have hS : va_S (th_A b0) s.heap s.heap [] := va_S.rf
  have hF : fr [13] E σ σ := fr.rf
  have hM : fm [13, 14, 15, 16, 17, 18, 19, 20, 27, 28] E σ σ a := fm.rf
  have hl := lv_entry ([.ref a]) (n := 3) (Nat.le_of_ble_eq_true rfl)
  rw [lg_entry_eq]
  generalize (lg_sl ([.ref a]) ++ List.replicate (3 - (lg_sl ([.ref a])).length) Slot.unset).toArray = ls at hl ⊢
  have hl : lv_has ls 3 [(0, .ref a)] := hl
  obtain ⟨a110, ea110, ra110, la110, ua110⟩ := hO.gi h_a (by decide) k13_11
  obtain ⟨a130, ea130, ra130, la130, ua130⟩ := hO.gi h_a (by decide) k13_13
  obtain ⟨a140, ea140, ra140, la140, ua140⟩ := hO.gi h_a (by decide) k13_14
  obtain ⟨a170, ea170, ra170, la170, ua170⟩ := hO.gi h_a (by decide) k13_17
  obtain ⟨a190, ea190, ra190, la190, ua190⟩ := hO.gi h_a (by decide) k13_19
  obtain ⟨a280, ea280, ra280, la280, ua280⟩ := hO.gi h_a (by decide) k13_28
  obtain ⟨a300, ea300, ra300, la300, ua300⟩ := hO.gi h_a (by decide) k13_30
  refine lv_aload_n hx hb dX11_allOf_0 rfl (lv_at hl 0 rfl) ?_
  obtain ⟨_, hc_1⟩ := hO.cell h_a (by decide) (ci := 11) rfl
  refine th_calli (va_runV (As := []) (rest := []) ⟨hx, hb, hml, hown, hts⟩ (ih l G y b0 σ E hO a h_a f1 ef1 Bf hsr (hy0) (by omega) (by omega) (by omega) (by omega) (by omega)) (cwV 0 hts gX11_allOf_X11_atom rfl rfl rfl (by decide +kernel) ⟨(by first | (simp only [headSpec]; omega) | omega | (dsimp only; omega)), (by first | (simp only [headSpec]; omega) | omega | (dsimp only; omega))⟩) (th_PV hK hH rfl hc_1) rfl rfl hl.1 rfl (lv_room (Nat.le_of_ble_eq_true rfl)) dX11_allOf_1 ⟨(by first | (simp only [headSpec]; omega) | omega | (dsimp only; omega)), (by first | (simp only [headSpec]; omega) | omega | (dsimp only; omega))⟩) hS (fun z_4 σ_s_3 H locs rz_4 hw_2 hH hS => ?_)
  obtain ⟨hO9, hF9, hM9, bhw_2, hw_2⟩ := hw_2
  replace hM := hM.tu hM9 (by decide)
  replace hF := hF.tu hF9 (by decide)
  have e_5 : aF σ_s_3 (ad E a 1) = f1 := (hM9.a (by decide) (by decide)).trans ef1
  have e_6 : gI σ_s_3 a 11 = a110 := (hM9.i (by decide)).trans ea110
  have e_7 : gI σ_s_3 a 30 = a300 := (hM9.i (by decide)).trans ea300
  replace hsr := hsr.mv hM9 (by decide) (by decide) (by decide) (by decide) (by decide)
  replace hO := hO9
  have hw_2 : (gI σ a 13 ≤ gI σ_s_3 a 13 ∧ gI σ_s_3 a 13 ≤ gI σ a 11 ∧ 0 ≤ gI σ_s_3 a 17 ∧ gI σ_s_3 a 17 ≤ gI σ_s_3 a 13 ∧ pgo (gI σ_s_3 a 19) (gI σ_s_3 a 14) (gI σ a 13) (gI σ_s_3 a 13)) ∧ gI σ_s_3 a 28 = gI σ a 28 := hw_2
  refine lv_istore_n (lv' := [(1, .int (I z_4)), (0, .ref a)]) hx hb dX11_allOf_4 rfl hl (by decide) rfl (fun ls hl => ?_)
  obtain ⟨z_8, e_9, rz_8, lz_8, uz_8⟩ := hO.gi h_a (by decide) k13_13
  obtain ⟨z_10, e_11, rz_10, lz_10, uz_10⟩ := hO.gi h_a (by decide) k13_14
  obtain ⟨z_12, e_13, rz_12, lz_12, uz_12⟩ := hO.gi h_a (by decide) k13_19
  refine th_loop (α := Int × Int × Int × Int) (pc := 5) (fun x9 => (2 * (gI σ a 11 - x9.2.1) + fg x9.2.2.2 x9.2.2.1).toNat) (fun x9 σ9 H9 l9 ls9 => ok y E σ9 ∧ fr [13] E σ σ9 ∧ fm [13, 14, 15, 16, 17, 18, 19, 20, 27, 28] E σ σ9 a ∧ sr E σ9 a Bf ∧ th_H G b0 σ9 H9 ∧ va_S (th_A b0) s.heap H9 l9 ∧ lv_has ls9 3 [(0, .ref a), (1, .int (I x9.1))] ∧ rng x9.1 ∧ rng x9.2.1 ∧ rng x9.2.2.1 ∧ rng x9.2.2.2 ∧ (gI σ a 13 ≤ x9.2.1) ∧ (x9.2.1 ≤ gI σ a 11) ∧ (0 ≤ gI σ9 a 17) ∧ (gI σ9 a 17 ≤ x9.2.1) ∧ (gI σ9 a 28 = gI σ a 28) ∧ (pgo x9.2.2.2 x9.2.2.1 (gI σ a 13) x9.2.1) ∧ (gI σ9 a 11 = a110) ∧ (gI σ9 a 30 = a300) ∧ (aF σ9 (ad E a 1) = f1) ∧ (gI σ9 a 13 = x9.2.1) ∧ (gI σ9 a 14 = x9.2.2.1) ∧ (gI σ9 a 19 = x9.2.2.2)) ?_ (z_4, z_8, z_10, z_12) σ_s_3 _ _ _ ⟨hO, hF, hM, hsr, hH, hS, lv_sub hl [1, 0] rfl, rz_4, rz_8, rz_10, rz_12, by first | (dsimp only; omega) | omega, by first | (dsimp only; omega) | omega, by first | (dsimp only; omega) | omega, by first | (dsimp only; omega) | omega, by first | (dsimp only; omega) | omega, (hw_2.1.2.is (by first | (dsimp only; omega) | omega) (by first | (dsimp only; omega) | omega) (by first | (dsimp only; omega) | omega) (by first | (dsimp only; omega) | omega)), e_6, e_7, e_5, e_9, e_11, e_13⟩
  intro x9 σ_J_67 H locs ls hI9 ihJ_67
  obtain ⟨v1q66, G13q63, G14q64, G19q65⟩ := x9
  obtain ⟨hO, hF, hM, hsr, hH, hS, hl, rv1q66, rG13q63, rG14q64, rG19q65, J_67_0, J_67_1, J_67_2, J_67_3, J_67_4, J_67_5, J_67_6, J_67_7, J_67_8, J_67_9, J_67_10, J_67_11⟩ := hI9
  have hl : lv_has ls 3 [(0, .ref a), (1, .int (I v1q66))] := hl
  have rv1q66 : rng v1q66 := rv1q66
  have rG13q63 : rng G13q63 := rG13q63
  have rG14q64 : rng G14q64 := rG14q64
  have rG19q65 : rng G19q65 := rG19q65
  have J_67_0 : gI σ a 13 ≤ G13q63 := J_67_0
  have J_67_1 : G13q63 ≤ gI σ a 11 := J_67_1
  have J_67_2 : 0 ≤ gI σ_J_67 a 17 := J_67_2
  have J_67_3 : gI σ_J_67 a 17 ≤ G13q63 := J_67_3
  have J_67_4 : gI σ_J_67 a 28 = gI σ a 28 := J_67_4
  have J_67_5 : pgo G19q65 G14q64 (gI σ a 13) G13q63 := J_67_5
  have J_67_6 : gI σ_J_67 a 11 = a110 := J_67_6
  have J_67_7 : gI σ_J_67 a 30 = a300 := J_67_7
  have J_67_8 : aF σ_J_67 (ad E a 1) = f1 := J_67_8
  have J_67_9 : gI σ_J_67 a 13 = G13q63 := J_67_9
  have J_67_10 : gI σ_J_67 a 14 = G14q64 := J_67_10
  have J_67_11 : gI σ_J_67 a 19 = G19q65 := J_67_11
  refine lv_aload_n hx hb dX11_allOf_5 rfl (lv_at hl 0 rfl) ?_
  refine lv_bipush (v := I 38) hx hb dX11_allOf_6 (by decide) ?_
  obtain ⟨_, hc_68⟩ := hO.cell h_a (by decide) (ci := 11) rfl
  refine th_calli (va_runV (As := [.int (I 38)]) (rest := []) ⟨hx, hb, hml, hown, hts⟩ (m_isMarked l G y b0 σ_J_67 E hO a h_a 38 (show rng 38 from (show rng 38 from ⟨by decide, by decide⟩)) Bf hsr (by omega)) (cwV 1 hts gX11_allOf_X11_isMarked rfl rfl rfl (by decide +kernel) ⟨(by first | (simp only [headSpec]; omega) | omega | (dsimp only; omega)), (by first | (simp only [headSpec]; omega) | omega | (dsimp only; omega))⟩) (th_PV hK hH rfl hc_68) rfl rfl hl.1 rfl (lv_room (Nat.le_of_ble_eq_true rfl)) dX11_allOf_8 ⟨(by first | (simp only [headSpec]; omega) | omega | (dsimp only; omega)), (by first | (simp only [headSpec]; omega) | omega | (dsimp only; omega))⟩) hS (fun z_71 σ_s_70 H locs rz_71 hw_69 hH hS => ?_)
  obtain ⟨e9, bhw_69, hw_69⟩ := hw_69
  replace e9 := e9.symm
  subst e9
  have hw_69 : z_71 = 0 ∨ (z_71 = 1 ∧ gI σ_J_67 a 19 = 0 ∧ gI σ_J_67 a 14 = 3 ∧ Bf (gI σ_J_67 a 17) = 38) := hw_69
  refine lv_if_eq (tgt := 40) hx hb dX11_allOf_11 (by decide) (fun c_72 => ?_) (fun c_72 => ?_)
  · replace c_72 := (I_eq (a := z_71) (b := 0) rz_71 (show rng 0 from ⟨by decide, by decide⟩)).mp c_72
    clear hw_69
    refine lv_iload_n hx hb dX11_allOf_40 rfl (lv_at hl 1 rfl) ?_
    exact th_zret hx hb hr hlocks hH hS (z := v1q66) (by omega) ⟨hO, hF, hM, ⟨by omega, by omega⟩, ⟨⟨by omega, J_67_5.is (by first | (dsimp only; omega) | omega) (by first | (dsimp only; omega) | omega) (by first | (dsimp only; omega) | omega) (by first | (dsimp only; omega) | omega)⟩, by omega⟩⟩ dX11_allOf_41
  · replace c_72 := mt (I_eq (a := z_71) (b := 0) rz_71 (show rng 0 from ⟨by decide, by decide⟩)).mpr c_72
    replace hw_69 := (hw_69.resolve_left c_72).2
    refine lv_aload_n hx hb dX11_allOf_14 rfl (lv_at hl 0 rfl) ?_
    obtain ⟨_, hc_73⟩ := hO.cell h_a (by decide) (ci := 11) rfl
    refine th_callv (va_runV (As := []) (rest := []) ⟨hx, hb, hml, hown, hts⟩ (m_pass l G y b0 σ_J_67 E hO a h_a Bf hsr (by omega)) (cwV 0 hts gX11_allOf_X11_pass rfl rfl rfl (by decide +kernel) ⟨(by first | (simp only [headSpec]; omega) | omega | (dsimp only; omega)), (by first | (simp only [headSpec]; omega) | omega | (dsimp only; omega))⟩) (th_PV hK hH rfl hc_73) rfl rfl hl.1 rfl (lv_room (Nat.le_of_ble_eq_true rfl)) dX11_allOf_15 ⟨(by first | (simp only [headSpec]; omega) | omega | (dsimp only; omega)), (by first | (simp only [headSpec]; omega) | omega | (dsimp only; omega))⟩) hS (fun σ_s_75 H locs hw_74 hH hS => ?_)
    obtain ⟨hO9, hF9, hM9, hw_74⟩ := hw_74
    replace hM := hM.tu hM9 (by decide)
    replace hF := hF.tu hF9 (by decide)
    have e_76 : gI σ_s_75 a 11 = a110 := (hM9.i (by decide)).trans J_67_6
    have e_77 : gI σ_s_75 a 30 = a300 := (hM9.i (by decide)).trans J_67_7
    have e_78 : aF σ_s_75 (ad E a 1) = f1 := (hM9.a (by decide) (by decide)).trans J_67_8
    have e_79 : gI σ_s_75 a 19 = G19q65 := (hM9.i (by decide)).trans J_67_11
    replace hsr := hsr.mv hM9 (by decide) (by decide) (by decide) (by decide) (by decide)
    replace hO := hO9
    have hw_74 : (gI σ_J_67 a 13 ≤ gI σ_s_75 a 13 ∧ gI σ_s_75 a 13 ≤ gI σ_J_67 a 11 ∧ 0 ≤ gI σ_s_75 a 17 ∧ gI σ_s_75 a 17 ≤ gI σ_s_75 a 13) ∧ pgo (gI σ_s_75 a 19) (gI σ_s_75 a 14) (gI σ_J_67 a 13) (gI σ_s_75 a 13) ∧ gI σ_s_75 a 19 = gI σ_J_67 a 19 := hw_74
    refine lv_aload_n hx hb dX11_allOf_18 rfl (lv_at hl 0 rfl) ?_
    obtain ⟨_, hc_80⟩ := hO.cell h_a (by decide) (ci := 11) rfl
    refine th_calli (va_runV (As := []) (rest := []) ⟨hx, hb, hml, hown, hts⟩ (ih l G y b0 σ_s_75 E hO a h_a f1 e_78 Bf hsr (hy0) (by omega) (by omega) (by omega) (by omega) (by omega)) (cwV 0 hts gX11_allOf_X11_atom rfl rfl rfl (by decide +kernel) ⟨(by first | (simp only [headSpec]; omega) | omega | (dsimp only; omega)), (by first | (simp only [headSpec]; omega) | omega | (dsimp only; omega))⟩) (th_PV hK hH rfl hc_80) rfl rfl hl.1 rfl (lv_room (Nat.le_of_ble_eq_true rfl)) dX11_allOf_19 ⟨(by first | (simp only [headSpec]; omega) | omega | (dsimp only; omega)), (by first | (simp only [headSpec]; omega) | omega | (dsimp only; omega))⟩) hS (fun z_83 σ_s_82 H locs rz_83 hw_81 hH hS => ?_)
    obtain ⟨hO9, hF9, hM9, bhw_81, hw_81⟩ := hw_81
    replace hM := hM.tu hM9 (by decide)
    replace hF := hF.tu hF9 (by decide)
    have e_84 : gI σ_s_82 a 11 = a110 := (hM9.i (by decide)).trans e_76
    have e_85 : gI σ_s_82 a 30 = a300 := (hM9.i (by decide)).trans e_77
    have e_86 : aF σ_s_82 (ad E a 1) = f1 := (hM9.a (by decide) (by decide)).trans e_78
    replace hsr := hsr.mv hM9 (by decide) (by decide) (by decide) (by decide) (by decide)
    replace hO := hO9
    have hw_81 : (gI σ_s_75 a 13 ≤ gI σ_s_82 a 13 ∧ gI σ_s_82 a 13 ≤ gI σ_s_75 a 11 ∧ 0 ≤ gI σ_s_82 a 17 ∧ gI σ_s_82 a 17 ≤ gI σ_s_82 a 13 ∧ pgo (gI σ_s_82 a 19) (gI σ_s_82 a 14) (gI σ_s_75 a 13) (gI σ_s_82 a 13)) ∧ gI σ_s_82 a 28 = gI σ_s_75 a 28 := hw_81
    refine lv_istore_n (lv' := [(2, .int (I z_83)), (0, .ref a), (1, .int (I v1q66))]) hx hb dX11_allOf_22 rfl hl (by decide) rfl (fun ls hl => ?_)
    refine lv_iload_n hx hb dX11_allOf_23 rfl (lv_at hl 2 rfl) ?_
    refine lv_if_eq (tgt := 35) hx hb dX11_allOf_24 (by decide) (fun c_87 => ?_) (fun c_87 => ?_)
    · replace c_87 := (I_eq (a := v1q66) (b := 0) rv1q66 (show rng 0 from ⟨by decide, by decide⟩)).mp c_87
      refine lv_iconst (v := I 0) hx hb dX11_allOf_35 (by decide) ?_
      refine lv_istore_n (lv' := [(1, .int (I 0)), (2, .int (I z_83)), (0, .ref a)]) hx hb dX11_allOf_36 rfl hl (by decide) rfl (fun ls hl => ?_)
      refine lv_goto (tgt := 5) hx hb dX11_allOf_37 (by decide) ?_
      replace hl : lv_has ls 3 [(1, .int (I 0)), (0, .ref a)] := lv_sub hl [0, 2] rfl
      obtain ⟨z_88, e_89, rz_88, lz_88, uz_88⟩ := hO.gi h_a (by decide) k13_13
      obtain ⟨z_90, e_91, rz_90, lz_90, uz_90⟩ := hO.gi h_a (by decide) k13_14
      obtain ⟨z_92, e_93, rz_92, lz_92, uz_92⟩ := hO.gi h_a (by decide) k13_19
      exact ihJ_67 (0, z_88, z_90, z_92) σ_s_82 _ _ _ (by have h8 := hw_81.1.2; unfold pgo at h8; simp only [fg]; omega) ⟨hO, hF, hM, hsr, hH, hS, lv_sub hl [1, 0] rfl, (show rng 0 from ⟨by decide, by decide⟩), rz_88, rz_90, rz_92, by first | (dsimp only; omega) | omega, by first | (dsimp only; omega) | omega, by first | (dsimp only; omega) | omega, by first | (dsimp only; omega) | omega, by first | (dsimp only; omega) | omega, (hw_81.1.2.is (by first | (dsimp only; omega) | omega) (by first | (dsimp only; omega) | omega) (by first | (dsimp only; omega) | omega) (by first | (dsimp only; omega) | omega)), e_84, e_85, e_86, e_89, e_91, e_93⟩
    · replace c_87 := mt (I_eq (a := v1q66) (b := 0) rv1q66 (show rng 0 from ⟨by decide, by decide⟩)).mpr c_87
      refine lv_iload_n hx hb dX11_allOf_27 rfl (lv_at hl 0 rfl) ?_
      refine lv_if_eq (tgt := 35) hx hb dX11_allOf_28 (by decide) (fun c_94 => ?_) (fun c_94 => ?_)
      · replace c_94 := (I_eq (a := z_83) (b := 0) rz_83 (show rng 0 from ⟨by decide, by decide⟩)).mp c_94
        refine lv_iconst (v := I 0) hx hb dX11_allOf_35 (by decide) ?_
        refine lv_istore_n (lv' := [(1, .int (I 0)), (2, .int (I z_83)), (0, .ref a)]) hx hb dX11_allOf_36 rfl hl (by decide) rfl (fun ls hl => ?_)
        refine lv_goto (tgt := 5) hx hb dX11_allOf_37 (by decide) ?_
        replace hl : lv_has ls 3 [(1, .int (I 0)), (0, .ref a)] := lv_sub hl [0, 2] rfl
        obtain ⟨z_95, e_96, rz_95, lz_95, uz_95⟩ := hO.gi h_a (by decide) k13_13
        obtain ⟨z_97, e_98, rz_97, lz_97, uz_97⟩ := hO.gi h_a (by decide) k13_14
        obtain ⟨z_99, e_100, rz_99, lz_99, uz_99⟩ := hO.gi h_a (by decide) k13_19
        exact ihJ_67 (0, z_95, z_97, z_99) σ_s_82 _ _ _ (by have h8 := hw_81.1.2; unfold pgo at h8; simp only [fg]; omega) ⟨hO, hF, hM, hsr, hH, hS, lv_sub hl [1, 0] rfl, (show rng 0 from ⟨by decide, by decide⟩), rz_95, rz_97, rz_99, by first | (dsimp only; omega) | omega, by first | (dsimp only; omega) | omega, by first | (dsimp only; omega) | omega, by first | (dsimp only; omega) | omega, by first | (dsimp only; omega) | omega, (hw_81.1.2.is (by first | (dsimp only; omega) | omega) (by first | (dsimp only; omega) | omega) (by first | (dsimp only; omega) | omega) (by first | (dsimp only; omega) | omega)), e_84, e_85, e_86, e_96, e_98, e_100⟩
      · replace c_94 := mt (I_eq (a := z_83) (b := 0) rz_83 (show rng 0 from ⟨by decide, by decide⟩)).mpr c_94
        refine lv_iconst (v := I 1) hx hb dX11_allOf_31 (by decide) ?_
        refine lv_goto (tgt := 36) hx hb dX11_allOf_32 (by decide) ?_
        refine lv_istore_n (lv' := [(1, .int (I 1)), (2, .int (I z_83)), (0, .ref a)]) hx hb dX11_allOf_36 rfl hl (by decide) rfl (fun ls hl => ?_)
        refine lv_goto (tgt := 5) hx hb dX11_allOf_37 (by decide) ?_
        replace hl : lv_has ls 3 [(1, .int (I 1)), (0, .ref a)] := lv_sub hl [0, 2] rfl
        obtain ⟨z_101, e_102, rz_101, lz_101, uz_101⟩ := hO.gi h_a (by decide) k13_13
        obtain ⟨z_103, e_104, rz_103, lz_103, uz_103⟩ := hO.gi h_a (by decide) k13_14
        obtain ⟨z_105, e_106, rz_105, lz_105, uz_105⟩ := hO.gi h_a (by decide) k13_19
        exact ihJ_67 (1, z_101, z_103, z_105) σ_s_82 _ _ _ (by have h8 := hw_81.1.2; unfold pgo at h8; simp only [fg]; omega) ⟨hO, hF, hM, hsr, hH, hS, lv_sub hl [1, 0] rfl, (show rng 1 from ⟨by decide, by decide⟩), rz_101, rz_103, rz_105, by first | (dsimp only; omega) | omega, by first | (dsimp only; omega) | omega, by first | (dsimp only; omega) | omega, by first | (dsimp only; omega) | omega, by first | (dsimp only; omega) | omega, (hw_81.1.2.is (by first | (dsimp only; omega) | omega) (by first | (dsimp only; omega) | omega) (by first | (dsimp only; omega) | omega) (by first | (dsimp only; omega) | omega)), e_84, e_85, e_86, e_102, e_104, e_106⟩

set_option maxHeartbeats 4000000 in
set_option maxRecDepth 100000 in
theorem m_cond (n : Nat) (ih : ∀ (l : Launch) (G : va_G) (y : Nat → ClassId) (b0 : Nat) (σ : th_M) (E : th_E) (hO : ok y E σ) (a : Nat) (h_a : kd E a = 13) (f1 : Nat → Int32) (ef1 : aF σ (ad E a 1) = f1) (Bf : Int → Int) (hsr : sr E σ a Bf) (hy0 : wf f1 0 (mS f1 0)) (hy1 : 1 ≤ mS f1 0 ∧ mS f1 0 ≤ 60) (hy2 : 0 ≤ gI σ a 17 ∧ gI σ a 17 ≤ gI σ a 13 ∧ gI σ a 13 ≤ gI σ a 11 ∧ gI σ a 11 ≤ 400) (hy3 : -1 ≤ gI σ a 30 ∧ gI σ a 30 < mS f1 0) (hy4 : 0 ≤ gI σ a 28 ∧ gI σ a 28 ≤ 5) (hn : (5 - gI σ a 28).toNat < n), Met l yX11_atom wsX11_atom ({ frames := 5*n+12, cells := 0, slots := 0, locals := (180*n+400) }) (th_P G y b0 σ [.ref a]) (th_Qi G b0 (fun r σ1 => ok y E σ1 ∧ fr [13] E σ σ1 ∧ fm [13, 14, 15, 16, 17, 18, 19, 20, 27, 28] E σ σ1 a ∧ (0 ≤ r ∧ r ≤ 1) ∧ ((gI σ a 13 ≤ gI σ1 a 13 ∧ gI σ1 a 13 ≤ gI σ a 11 ∧ 0 ≤ gI σ1 a 17 ∧ gI σ1 a 17 ≤ gI σ1 a 13 ∧ pgo (gI σ1 a 19) (gI σ1 a 14) (gI σ a 13) (gI σ1 a 13)) ∧ gI σ1 a 28 = gI σ a 28))) 0 0 (th_A b0)) (l : Launch) (G : va_G) (y : Nat → ClassId) (b0 : Nat) (σ : th_M) (E : th_E) (hO : ok y E σ) (a : Nat) (h_a : kd E a = 13) (f1 : Nat → Int32) (ef1 : aF σ (ad E a 1) = f1) (Bf : Int → Int) (hsr : sr E σ a Bf) (hy0 : wf f1 0 (mS f1 0)) (hy1 : 1 ≤ mS f1 0 ∧ mS f1 0 ≤ 60) (hy2 : 0 ≤ gI σ a 17 ∧ gI σ a 17 ≤ gI σ a 13 ∧ gI σ a 13 ≤ gI σ a 11 ∧ gI σ a 11 ≤ 400) (hy3 : -1 ≤ gI σ a 30 ∧ gI σ a 30 < mS f1 0) (hy4 : 0 ≤ gI σ a 28 ∧ gI σ a 28 ≤ 5) (hy5 : (5 - gI σ a 28).toNat < n) : Met l yX11_cond wsX11_cond ({ frames := 5*n+16, cells := 0, slots := 0, locals := (180*n+500) }) (th_P G y b0 σ [.ref a]) (th_Qi G b0 (fun r σ1 => ok y E σ1 ∧ fr [13] E σ σ1 ∧ fm [13, 14, 15, 16, 17, 18, 19, 20, 27, 28] E σ σ1 a ∧ (0 ≤ r ∧ r ≤ 1) ∧ ((gI σ a 13 ≤ gI σ1 a 13 ∧ gI σ1 a 13 ≤ gI σ a 11 ∧ 0 ≤ gI σ1 a 17 ∧ gI σ1 a 17 ≤ gI σ1 a 13 ∧ pgo (gI σ1 a 19) (gI σ1 a 14) (gI σ a 13) (gI σ1 a 13)) ∧ gI σ1 a 28 = gI σ a 28))) 0 0 (th_A b0) := by
  refine Met.ofW (cc := cX11_cond) (maxL := 3) (ret := (some .boolean)) (by decide) rfl ?_
  intro p e s m args below meth c s₁ B hml hv
  obtain ⟨rfl, hH, hK⟩ := hv
  have hx := B.exec
  have hb := B.bytes
  have hr := B.returns
  have hts := atoms_spec (ws := wsX11_cond) B.pre
  have hown : s.vm.findClass RX11 = some m.cls := findClass_of_methodNamed B.named
  have hlocks := B.notSynchronized
  have h00 : b0 ≤ s.heap.size := hH.1
  have hS : va_S (th_A b0) s.heap s.heap [] := va_S.rf
  have hF : fr [13] E σ σ := fr.rf
  have hM : fm [13, 14, 15, 16, 17, 18, 19, 20, 27, 28] E σ σ a := fm.rf
  have hl := lv_entry ([.ref a]) (n := 3) (Nat.le_of_ble_eq_true rfl)
  rw [lg_entry_eq]
  generalize (lg_sl ([.ref a]) ++ List.replicate (3 - (lg_sl ([.ref a])).length) Slot.unset).toArray = ls at hl ⊢
  have hl : lv_has ls 3 [(0, .ref a)] := hl
  obtain ⟨a110, ea110, ra110, la110, ua110⟩ := hO.gi h_a (by decide) k13_11
  obtain ⟨a130, ea130, ra130, la130, ua130⟩ := hO.gi h_a (by decide) k13_13
  obtain ⟨a140, ea140, ra140, la140, ua140⟩ := hO.gi h_a (by decide) k13_14
  obtain ⟨a170, ea170, ra170, la170, ua170⟩ := hO.gi h_a (by decide) k13_17
  obtain ⟨a190, ea190, ra190, la190, ua190⟩ := hO.gi h_a (by decide) k13_19
  obtain ⟨a280, ea280, ra280, la280, ua280⟩ := hO.gi h_a (by decide) k13_28
  obtain ⟨a300, ea300, ra300, la300, ua300⟩ := hO.gi h_a (by decide) k13_30
  refine lv_aload_n hx hb dX11_cond_0 rfl (lv_at hl 0 rfl) ?_
  obtain ⟨_, hc_1⟩ := hO.cell h_a (by decide) (ci := 11) rfl
  refine th_calli (va_runV (As := []) (rest := []) ⟨hx, hb, hml, hown, hts⟩ (m_allOf n ih l G y b0 σ E hO a h_a f1 ef1 Bf hsr (hy0) (by omega) (by omega) (by omega) (by omega) (by omega)) (cwV 0 hts gX11_cond_X11_allOf rfl rfl rfl (by decide +kernel) ⟨(by first | (simp only [headSpec]; omega) | omega | (dsimp only; omega)), (by first | (simp only [headSpec]; omega) | omega | (dsimp only; omega))⟩) (th_PV hK hH rfl hc_1) rfl rfl hl.1 rfl (lv_room (Nat.le_of_ble_eq_true rfl)) dX11_cond_1 ⟨(by first | (simp only [headSpec]; omega) | omega | (dsimp only; omega)), (by first | (simp only [headSpec]; omega) | omega | (dsimp only; omega))⟩) hS (fun z_4 σ_s_3 H locs rz_4 hw_2 hH hS => ?_)
  obtain ⟨hO9, hF9, hM9, bhw_2, hw_2⟩ := hw_2
  replace hM := hM.tu hM9 (by decide)
  replace hF := hF.tu hF9 (by decide)
  have e_5 : aF σ_s_3 (ad E a 1) = f1 := (hM9.a (by decide) (by decide)).trans ef1
  have e_6 : gI σ_s_3 a 11 = a110 := (hM9.i (by decide)).trans ea110
  have e_7 : gI σ_s_3 a 30 = a300 := (hM9.i (by decide)).trans ea300
  replace hsr := hsr.mv hM9 (by decide) (by decide) (by decide) (by decide) (by decide)
  replace hO := hO9
  have hw_2 : (gI σ a 13 ≤ gI σ_s_3 a 13 ∧ gI σ_s_3 a 13 ≤ gI σ a 11 ∧ 0 ≤ gI σ_s_3 a 17 ∧ gI σ_s_3 a 17 ≤ gI σ_s_3 a 13 ∧ pgo (gI σ_s_3 a 19) (gI σ_s_3 a 14) (gI σ a 13) (gI σ_s_3 a 13)) ∧ gI σ_s_3 a 28 = gI σ a 28 := hw_2
  refine lv_istore_n (lv' := [(1, .int (I z_4)), (0, .ref a)]) hx hb dX11_cond_4 rfl hl (by decide) rfl (fun ls hl => ?_)
  obtain ⟨z_8, e_9, rz_8, lz_8, uz_8⟩ := hO.gi h_a (by decide) k13_13
  obtain ⟨z_10, e_11, rz_10, lz_10, uz_10⟩ := hO.gi h_a (by decide) k13_14
  obtain ⟨z_12, e_13, rz_12, lz_12, uz_12⟩ := hO.gi h_a (by decide) k13_19
  refine th_loop (α := Int × Int × Int × Int) (pc := 5) (fun x9 => (2 * (gI σ a 11 - x9.2.1) + fg x9.2.2.2 x9.2.2.1).toNat) (fun x9 σ9 H9 l9 ls9 => ok y E σ9 ∧ fr [13] E σ σ9 ∧ fm [13, 14, 15, 16, 17, 18, 19, 20, 27, 28] E σ σ9 a ∧ sr E σ9 a Bf ∧ th_H G b0 σ9 H9 ∧ va_S (th_A b0) s.heap H9 l9 ∧ lv_has ls9 3 [(0, .ref a), (1, .int (I x9.1))] ∧ rng x9.1 ∧ rng x9.2.1 ∧ rng x9.2.2.1 ∧ rng x9.2.2.2 ∧ (gI σ a 13 ≤ x9.2.1) ∧ (x9.2.1 ≤ gI σ a 11) ∧ (0 ≤ gI σ9 a 17) ∧ (gI σ9 a 17 ≤ x9.2.1) ∧ (gI σ9 a 28 = gI σ a 28) ∧ (pgo x9.2.2.2 x9.2.2.1 (gI σ a 13) x9.2.1) ∧ (gI σ9 a 11 = a110) ∧ (gI σ9 a 30 = a300) ∧ (aF σ9 (ad E a 1) = f1) ∧ (gI σ9 a 13 = x9.2.1) ∧ (gI σ9 a 14 = x9.2.2.1) ∧ (gI σ9 a 19 = x9.2.2.2)) ?_ (z_4, z_8, z_10, z_12) σ_s_3 _ _ _ ⟨hO, hF, hM, hsr, hH, hS, lv_sub hl [1, 0] rfl, rz_4, rz_8, rz_10, rz_12, by first | (dsimp only; omega) | omega, by first | (dsimp only; omega) | omega, by first | (dsimp only; omega) | omega, by first | (dsimp only; omega) | omega, by first | (dsimp only; omega) | omega, (hw_2.1.2.is (by first | (dsimp only; omega) | omega) (by first | (dsimp only; omega) | omega) (by first | (dsimp only; omega) | omega) (by first | (dsimp only; omega) | omega)), e_6, e_7, e_5, e_9, e_11, e_13⟩
  intro x9 σ_J_67 H locs ls hI9 ihJ_67
  obtain ⟨v1q66, G13q63, G14q64, G19q65⟩ := x9
  obtain ⟨hO, hF, hM, hsr, hH, hS, hl, rv1q66, rG13q63, rG14q64, rG19q65, J_67_0, J_67_1, J_67_2, J_67_3, J_67_4, J_67_5, J_67_6, J_67_7, J_67_8, J_67_9, J_67_10, J_67_11⟩ := hI9
  have hl : lv_has ls 3 [(0, .ref a), (1, .int (I v1q66))] := hl
  have rv1q66 : rng v1q66 := rv1q66
  have rG13q63 : rng G13q63 := rG13q63
  have rG14q64 : rng G14q64 := rG14q64
  have rG19q65 : rng G19q65 := rG19q65
  have J_67_0 : gI σ a 13 ≤ G13q63 := J_67_0
  have J_67_1 : G13q63 ≤ gI σ a 11 := J_67_1
  have J_67_2 : 0 ≤ gI σ_J_67 a 17 := J_67_2
  have J_67_3 : gI σ_J_67 a 17 ≤ G13q63 := J_67_3
  have J_67_4 : gI σ_J_67 a 28 = gI σ a 28 := J_67_4
  have J_67_5 : pgo G19q65 G14q64 (gI σ a 13) G13q63 := J_67_5
  have J_67_6 : gI σ_J_67 a 11 = a110 := J_67_6
  have J_67_7 : gI σ_J_67 a 30 = a300 := J_67_7
  have J_67_8 : aF σ_J_67 (ad E a 1) = f1 := J_67_8
  have J_67_9 : gI σ_J_67 a 13 = G13q63 := J_67_9
  have J_67_10 : gI σ_J_67 a 14 = G14q64 := J_67_10
  have J_67_11 : gI σ_J_67 a 19 = G19q65 := J_67_11
  refine lv_aload_n hx hb dX11_cond_5 rfl (lv_at hl 0 rfl) ?_
  refine lv_bipush (v := I 124) hx hb dX11_cond_6 (by decide) ?_
  obtain ⟨_, hc_68⟩ := hO.cell h_a (by decide) (ci := 11) rfl
  refine th_calli (va_runV (As := [.int (I 124)]) (rest := []) ⟨hx, hb, hml, hown, hts⟩ (m_isMarked l G y b0 σ_J_67 E hO a h_a 124 (show rng 124 from (show rng 124 from ⟨by decide, by decide⟩)) Bf hsr (by omega)) (cwV 1 hts gX11_cond_X11_isMarked rfl rfl rfl (by decide +kernel) ⟨(by first | (simp only [headSpec]; omega) | omega | (dsimp only; omega)), (by first | (simp only [headSpec]; omega) | omega | (dsimp only; omega))⟩) (th_PV hK hH rfl hc_68) rfl rfl hl.1 rfl (lv_room (Nat.le_of_ble_eq_true rfl)) dX11_cond_8 ⟨(by first | (simp only [headSpec]; omega) | omega | (dsimp only; omega)), (by first | (simp only [headSpec]; omega) | omega | (dsimp only; omega))⟩) hS (fun z_71 σ_s_70 H locs rz_71 hw_69 hH hS => ?_)
  obtain ⟨e9, bhw_69, hw_69⟩ := hw_69
  replace e9 := e9.symm
  subst e9
  have hw_69 : z_71 = 0 ∨ (z_71 = 1 ∧ gI σ_J_67 a 19 = 0 ∧ gI σ_J_67 a 14 = 3 ∧ Bf (gI σ_J_67 a 17) = 124) := hw_69
  refine lv_if_eq (tgt := 40) hx hb dX11_cond_11 (by decide) (fun c_72 => ?_) (fun c_72 => ?_)
  · replace c_72 := (I_eq (a := z_71) (b := 0) rz_71 (show rng 0 from ⟨by decide, by decide⟩)).mp c_72
    clear hw_69
    refine lv_iload_n hx hb dX11_cond_40 rfl (lv_at hl 1 rfl) ?_
    exact th_zret hx hb hr hlocks hH hS (z := v1q66) (by omega) ⟨hO, hF, hM, ⟨by omega, by omega⟩, ⟨⟨by omega, J_67_5.is (by first | (dsimp only; omega) | omega) (by first | (dsimp only; omega) | omega) (by first | (dsimp only; omega) | omega) (by first | (dsimp only; omega) | omega)⟩, by omega⟩⟩ dX11_cond_41
  · replace c_72 := mt (I_eq (a := z_71) (b := 0) rz_71 (show rng 0 from ⟨by decide, by decide⟩)).mpr c_72
    replace hw_69 := (hw_69.resolve_left c_72).2
    refine lv_aload_n hx hb dX11_cond_14 rfl (lv_at hl 0 rfl) ?_
    obtain ⟨_, hc_73⟩ := hO.cell h_a (by decide) (ci := 11) rfl
    refine th_callv (va_runV (As := []) (rest := []) ⟨hx, hb, hml, hown, hts⟩ (m_pass l G y b0 σ_J_67 E hO a h_a Bf hsr (by omega)) (cwV 0 hts gX11_cond_X11_pass rfl rfl rfl (by decide +kernel) ⟨(by first | (simp only [headSpec]; omega) | omega | (dsimp only; omega)), (by first | (simp only [headSpec]; omega) | omega | (dsimp only; omega))⟩) (th_PV hK hH rfl hc_73) rfl rfl hl.1 rfl (lv_room (Nat.le_of_ble_eq_true rfl)) dX11_cond_15 ⟨(by first | (simp only [headSpec]; omega) | omega | (dsimp only; omega)), (by first | (simp only [headSpec]; omega) | omega | (dsimp only; omega))⟩) hS (fun σ_s_75 H locs hw_74 hH hS => ?_)
    obtain ⟨hO9, hF9, hM9, hw_74⟩ := hw_74
    replace hM := hM.tu hM9 (by decide)
    replace hF := hF.tu hF9 (by decide)
    have e_76 : gI σ_s_75 a 11 = a110 := (hM9.i (by decide)).trans J_67_6
    have e_77 : gI σ_s_75 a 30 = a300 := (hM9.i (by decide)).trans J_67_7
    have e_78 : aF σ_s_75 (ad E a 1) = f1 := (hM9.a (by decide) (by decide)).trans J_67_8
    have e_79 : gI σ_s_75 a 19 = G19q65 := (hM9.i (by decide)).trans J_67_11
    replace hsr := hsr.mv hM9 (by decide) (by decide) (by decide) (by decide) (by decide)
    replace hO := hO9
    have hw_74 : (gI σ_J_67 a 13 ≤ gI σ_s_75 a 13 ∧ gI σ_s_75 a 13 ≤ gI σ_J_67 a 11 ∧ 0 ≤ gI σ_s_75 a 17 ∧ gI σ_s_75 a 17 ≤ gI σ_s_75 a 13) ∧ pgo (gI σ_s_75 a 19) (gI σ_s_75 a 14) (gI σ_J_67 a 13) (gI σ_s_75 a 13) ∧ gI σ_s_75 a 19 = gI σ_J_67 a 19 := hw_74
    refine lv_aload_n hx hb dX11_cond_18 rfl (lv_at hl 0 rfl) ?_
    obtain ⟨_, hc_80⟩ := hO.cell h_a (by decide) (ci := 11) rfl
    refine th_calli (va_runV (As := []) (rest := []) ⟨hx, hb, hml, hown, hts⟩ (m_allOf n ih l G y b0 σ_s_75 E hO a h_a f1 e_78 Bf hsr (hy0) (by omega) (by omega) (by omega) (by omega) (by omega)) (cwV 0 hts gX11_cond_X11_allOf rfl rfl rfl (by decide +kernel) ⟨(by first | (simp only [headSpec]; omega) | omega | (dsimp only; omega)), (by first | (simp only [headSpec]; omega) | omega | (dsimp only; omega))⟩) (th_PV hK hH rfl hc_80) rfl rfl hl.1 rfl (lv_room (Nat.le_of_ble_eq_true rfl)) dX11_cond_19 ⟨(by first | (simp only [headSpec]; omega) | omega | (dsimp only; omega)), (by first | (simp only [headSpec]; omega) | omega | (dsimp only; omega))⟩) hS (fun z_83 σ_s_82 H locs rz_83 hw_81 hH hS => ?_)
    obtain ⟨hO9, hF9, hM9, bhw_81, hw_81⟩ := hw_81
    replace hM := hM.tu hM9 (by decide)
    replace hF := hF.tu hF9 (by decide)
    have e_84 : gI σ_s_82 a 11 = a110 := (hM9.i (by decide)).trans e_76
    have e_85 : gI σ_s_82 a 30 = a300 := (hM9.i (by decide)).trans e_77
    have e_86 : aF σ_s_82 (ad E a 1) = f1 := (hM9.a (by decide) (by decide)).trans e_78
    replace hsr := hsr.mv hM9 (by decide) (by decide) (by decide) (by decide) (by decide)
    replace hO := hO9
    have hw_81 : (gI σ_s_75 a 13 ≤ gI σ_s_82 a 13 ∧ gI σ_s_82 a 13 ≤ gI σ_s_75 a 11 ∧ 0 ≤ gI σ_s_82 a 17 ∧ gI σ_s_82 a 17 ≤ gI σ_s_82 a 13 ∧ pgo (gI σ_s_82 a 19) (gI σ_s_82 a 14) (gI σ_s_75 a 13) (gI σ_s_82 a 13)) ∧ gI σ_s_82 a 28 = gI σ_s_75 a 28 := hw_81
    refine lv_istore_n (lv' := [(2, .int (I z_83)), (0, .ref a), (1, .int (I v1q66))]) hx hb dX11_cond_22 rfl hl (by decide) rfl (fun ls hl => ?_)
    refine lv_iload_n hx hb dX11_cond_23 rfl (lv_at hl 2 rfl) ?_
    refine lv_if_ne (tgt := 31) hx hb dX11_cond_24 (by decide) (fun c_87 => ?_) (fun c_87 => ?_)
    · replace c_87 := mt (I_eq (a := v1q66) (b := 0) rv1q66 (show rng 0 from ⟨by decide, by decide⟩)).mpr c_87
      refine lv_iconst (v := I 1) hx hb dX11_cond_31 (by decide) ?_
      refine lv_goto (tgt := 36) hx hb dX11_cond_32 (by decide) ?_
      refine lv_istore_n (lv' := [(1, .int (I 1)), (2, .int (I z_83)), (0, .ref a)]) hx hb dX11_cond_36 rfl hl (by decide) rfl (fun ls hl => ?_)
      refine lv_goto (tgt := 5) hx hb dX11_cond_37 (by decide) ?_
      replace hl : lv_has ls 3 [(1, .int (I 1)), (0, .ref a)] := lv_sub hl [0, 2] rfl
      obtain ⟨z_88, e_89, rz_88, lz_88, uz_88⟩ := hO.gi h_a (by decide) k13_13
      obtain ⟨z_90, e_91, rz_90, lz_90, uz_90⟩ := hO.gi h_a (by decide) k13_14
      obtain ⟨z_92, e_93, rz_92, lz_92, uz_92⟩ := hO.gi h_a (by decide) k13_19
      exact ihJ_67 (1, z_88, z_90, z_92) σ_s_82 _ _ _ (by have h8 := hw_81.1.2; unfold pgo at h8; simp only [fg]; omega) ⟨hO, hF, hM, hsr, hH, hS, lv_sub hl [1, 0] rfl, (show rng 1 from ⟨by decide, by decide⟩), rz_88, rz_90, rz_92, by first | (dsimp only; omega) | omega, by first | (dsimp only; omega) | omega, by first | (dsimp only; omega) | omega, by first | (dsimp only; omega) | omega, by first | (dsimp only; omega) | omega, (hw_81.1.2.is (by first | (dsimp only; omega) | omega) (by first | (dsimp only; omega) | omega) (by first | (dsimp only; omega) | omega) (by first | (dsimp only; omega) | omega)), e_84, e_85, e_86, e_89, e_91, e_93⟩
    · replace c_87 := (I_eq (a := v1q66) (b := 0) rv1q66 (show rng 0 from ⟨by decide, by decide⟩)).mp c_87
      refine lv_iload_n hx hb dX11_cond_27 rfl (lv_at hl 0 rfl) ?_
      refine lv_if_eq (tgt := 35) hx hb dX11_cond_28 (by decide) (fun c_94 => ?_) (fun c_94 => ?_)
      · replace c_94 := (I_eq (a := z_83) (b := 0) rz_83 (show rng 0 from ⟨by decide, by decide⟩)).mp c_94
        refine lv_iconst (v := I 0) hx hb dX11_cond_35 (by decide) ?_
        refine lv_istore_n (lv' := [(1, .int (I 0)), (2, .int (I z_83)), (0, .ref a)]) hx hb dX11_cond_36 rfl hl (by decide) rfl (fun ls hl => ?_)
        refine lv_goto (tgt := 5) hx hb dX11_cond_37 (by decide) ?_
        replace hl : lv_has ls 3 [(1, .int (I 0)), (0, .ref a)] := lv_sub hl [0, 2] rfl
        obtain ⟨z_95, e_96, rz_95, lz_95, uz_95⟩ := hO.gi h_a (by decide) k13_13
        obtain ⟨z_97, e_98, rz_97, lz_97, uz_97⟩ := hO.gi h_a (by decide) k13_14
        obtain ⟨z_99, e_100, rz_99, lz_99, uz_99⟩ := hO.gi h_a (by decide) k13_19
        exact ihJ_67 (0, z_95, z_97, z_99) σ_s_82 _ _ _ (by have h8 := hw_81.1.2; unfold pgo at h8; simp only [fg]; omega) ⟨hO, hF, hM, hsr, hH, hS, lv_sub hl [1, 0] rfl, (show rng 0 from ⟨by decide, by decide⟩), rz_95, rz_97, rz_99, by first | (dsimp only; omega) | omega, by first | (dsimp only; omega) | omega, by first | (dsimp only; omega) | omega, by first | (dsimp only; omega) | omega, by first | (dsimp only; omega) | omega, (hw_81.1.2.is (by first | (dsimp only; omega) | omega) (by first | (dsimp only; omega) | omega) (by first | (dsimp only; omega) | omega) (by first | (dsimp only; omega) | omega)), e_84, e_85, e_86, e_96, e_98, e_100⟩
      · replace c_94 := mt (I_eq (a := z_83) (b := 0) rz_83 (show rng 0 from ⟨by decide, by decide⟩)).mpr c_94
        refine lv_iconst (v := I 1) hx hb dX11_cond_31 (by decide) ?_
        refine lv_goto (tgt := 36) hx hb dX11_cond_32 (by decide) ?_
        refine lv_istore_n (lv' := [(1, .int (I 1)), (2, .int (I z_83)), (0, .ref a)]) hx hb dX11_cond_36 rfl hl (by decide) rfl (fun ls hl => ?_)
        refine lv_goto (tgt := 5) hx hb dX11_cond_37 (by decide) ?_
        replace hl : lv_has ls 3 [(1, .int (I 1)), (0, .ref a)] := lv_sub hl [0, 2] rfl
        obtain ⟨z_101, e_102, rz_101, lz_101, uz_101⟩ := hO.gi h_a (by decide) k13_13
        obtain ⟨z_103, e_104, rz_103, lz_103, uz_103⟩ := hO.gi h_a (by decide) k13_14
        obtain ⟨z_105, e_106, rz_105, lz_105, uz_105⟩ := hO.gi h_a (by decide) k13_19
        exact ihJ_67 (1, z_101, z_103, z_105) σ_s_82 _ _ _ (by have h8 := hw_81.1.2; unfold pgo at h8; simp only [fg]; omega) ⟨hO, hF, hM, hsr, hH, hS, lv_sub hl [1, 0] rfl, (show rng 1 from ⟨by decide, by decide⟩), rz_101, rz_103, rz_105, by first | (dsimp only; omega) | omega, by first | (dsimp only; omega) | omega, by first | (dsimp only; omega) | omega, by first | (dsimp only; omega) | omega, by first | (dsimp only; omega) | omega, (hw_81.1.2.is (by first | (dsimp only; omega) | omega) (by first | (dsimp only; omega) | omega) (by first | (dsimp only; omega) | omega) (by first | (dsimp only; omega) | omega)), e_84, e_85, e_86, e_102, e_104, e_106⟩

set_option maxHeartbeats 4000000 in
set_option maxRecDepth 100000 in
theorem m_atom (n : Nat) : ∀ (l : Launch) (G : va_G) (y : Nat → ClassId) (b0 : Nat) (σ : th_M) (E : th_E) (hO : ok y E σ) (a : Nat) (h_a : kd E a = 13) (f1 : Nat → Int32) (ef1 : aF σ (ad E a 1) = f1) (Bf : Int → Int) (hsr : sr E σ a Bf) (hy0 : wf f1 0 (mS f1 0)) (hy1 : 1 ≤ mS f1 0 ∧ mS f1 0 ≤ 60) (hy2 : 0 ≤ gI σ a 17 ∧ gI σ a 17 ≤ gI σ a 13 ∧ gI σ a 13 ≤ gI σ a 11 ∧ gI σ a 11 ≤ 400) (hy3 : -1 ≤ gI σ a 30 ∧ gI σ a 30 < mS f1 0) (hy4 : 0 ≤ gI σ a 28 ∧ gI σ a 28 ≤ 5) (hn : (5 - gI σ a 28).toNat < n), Met l yX11_atom wsX11_atom ({ frames := 5*n+12, cells := 0, slots := 0, locals := (180*n+400) }) (th_P G y b0 σ [.ref a]) (th_Qi G b0 (fun r σ1 => ok y E σ1 ∧ fr [13] E σ σ1 ∧ fm [13, 14, 15, 16, 17, 18, 19, 20, 27, 28] E σ σ1 a ∧ (0 ≤ r ∧ r ≤ 1) ∧ ((gI σ a 13 ≤ gI σ1 a 13 ∧ gI σ1 a 13 ≤ gI σ a 11 ∧ 0 ≤ gI σ1 a 17 ∧ gI σ1 a 17 ≤ gI σ1 a 13 ∧ pgo (gI σ1 a 19) (gI σ1 a 14) (gI σ a 13) (gI σ1 a 13)) ∧ gI σ1 a 28 = gI σ a 28))) 0 0 (th_A b0) := by
  induction n with
  | zero => intro l G y b0 σ E hO a h_a f1 ef1 Bf hsr hy0 hy1 hy2 hy3 hy4 hn; exact absurd hn (Nat.not_lt_zero _)
  | succ n ih =>
    intro l G y b0 σ E hO a h_a f1 ef1 Bf hsr hy0 hy1 hy2 hy3 hy4 hn
    refine Met.ofW (cc := cX11_atom) (maxL := 3) (ret := (some .boolean)) (by decide) rfl ?_
    intro p e s m args below meth c s₁ B hml hv
    obtain ⟨rfl, hH, hK⟩ := hv
    have hx := B.exec
    have hb := B.bytes
    have hr := B.returns
    have hts := atoms_spec (ws := wsX11_atom) B.pre
    have hown : s.vm.findClass RX11 = some m.cls := findClass_of_methodNamed B.named
    have hlocks := B.notSynchronized
    have h00 : b0 ≤ s.heap.size := hH.1
    have hS : va_S (th_A b0) s.heap s.heap [] := va_S.rf
    have hF : fr [13] E σ σ := fr.rf
    have hM : fm [13, 14, 15, 16, 17, 18, 19, 20, 27, 28] E σ σ a := fm.rf
    have inX11 : ∀ w ∈ wsX110, w ∈ wsX11_atom := by decide +kernel
    have fl0 := hts (.fieldLink RX11 279 "NestQueryModel" "nested" "I") (by decide +kernel)
    have hl := lv_entry ([.ref a]) (n := 3) (Nat.le_of_ble_eq_true rfl)
    rw [lg_entry_eq]
    generalize (lg_sl ([.ref a]) ++ List.replicate (3 - (lg_sl ([.ref a])).length) Slot.unset).toArray = ls at hl ⊢
    have hl : lv_has ls 3 [(0, .ref a)] := hl
    obtain ⟨a110, ea110, ra110, la110, ua110⟩ := hO.gi h_a (by decide) k13_11
    obtain ⟨a130, ea130, ra130, la130, ua130⟩ := hO.gi h_a (by decide) k13_13
    obtain ⟨a140, ea140, ra140, la140, ua140⟩ := hO.gi h_a (by decide) k13_14
    obtain ⟨a170, ea170, ra170, la170, ua170⟩ := hO.gi h_a (by decide) k13_17
    obtain ⟨a190, ea190, ra190, la190, ua190⟩ := hO.gi h_a (by decide) k13_19
    obtain ⟨a280, ea280, ra280, la280, ua280⟩ := hO.gi h_a (by decide) k13_28
    obtain ⟨a300, ea300, ra300, la300, ua300⟩ := hO.gi h_a (by decide) k13_30
    refine lv_aload_n hx hb dX11_atom_0 rfl (lv_at hl 0 rfl) ?_
    refine lv_bipush (v := I 33) hx hb dX11_atom_1 (by decide) ?_
    obtain ⟨_, hc_1⟩ := hO.cell h_a (by decide) (ci := 11) rfl
    refine th_calli (va_runV (As := [.int (I 33)]) (rest := []) ⟨hx, hb, hml, hown, hts⟩ (m_isMarkedX l G y b0 σ E hO a h_a 33 (show rng 33 from (show rng 33 from ⟨by decide, by decide⟩)) Bf hsr (by omega)) (cwV 1 hts gX11_atom_X11_isMarked rfl rfl rfl (by decide +kernel) ⟨(by first | (simp only [headSpec]; omega) | omega | (dsimp only; omega)), (by first | (simp only [headSpec]; omega) | omega | (dsimp only; omega))⟩) (th_PV hK hH rfl hc_1) rfl rfl hl.1 rfl (lv_room (Nat.le_of_ble_eq_true rfl)) dX11_atom_3 ⟨(by first | (simp only [headSpec]; omega) | omega | (dsimp only; omega)), (by first | (simp only [headSpec]; omega) | omega | (dsimp only; omega))⟩) hS (fun z_4 σ_s_3 H locs rz_4 hw_2 hH hS => ?_)
    obtain ⟨e9, bhw_2, hw_2⟩ := hw_2
    replace e9 := e9.symm
    subst e9
    have hw_2 : (z_4 = 1 ∧ mkd (gI σ a 19) (gI σ a 14) (Bf (gI σ a 17)) 33) ∨ (z_4 = 0 ∧ ¬ mkd (gI σ a 19) (gI σ a 14) (Bf (gI σ a 17)) 33) := hw_2
    refine lv_if_ne (tgt := 18) hx hb dX11_atom_6 (by decide) (fun c_5 => ?_) (fun c_5 => ?_)
    · replace c_5 := mt (I_eq (a := z_4) (b := 0) rz_4 (show rng 0 from ⟨by decide, by decide⟩)).mpr c_5
      replace hw_2 := (hw_2.resolve_right (fun h9 => absurd h9.1 (by omega))).2
      refine lv_iconst (v := I 1) hx hb dX11_atom_18 (by decide) ?_
      refine lv_goto (tgt := 23) hx hb dX11_atom_19 (by decide) ?_
      refine lv_istore_n (lv' := [(1, .int (I 1)), (0, .ref a)]) hx hb dX11_atom_23 rfl hl (by decide) rfl (fun ls hl => ?_)
      refine lv_iload_n hx hb dX11_atom_24 rfl (lv_at hl 0 rfl) ?_
      refine lv_if_eq (tgt := 41) hx hb dX11_atom_25 (by decide) (fun c_6 => absurd c_6 (by decide)) (fun _ => ?_)
      refine lv_aload_n hx hb dX11_atom_28 rfl (lv_at hl 1 rfl) ?_
      refine ok.getIc hO h_a (by decide) k13_28 ea280 (fun _ _ he hv kk => th_get (ci := 11) (C := RX11) (T := TX11) (N := 66) hx hb hts inX11 hown hK hH he rfl 28 (by decide) fl0 hv dX11_atom_29 kk) ?_
      refine lv_iconst (v := I 5) hx hb dX11_atom_32 (by decide) ?_
      refine lv_icmp_ne (tgt := 41) hx hb dX11_atom_33 (by decide) (fun c_7 => ?_) (fun c_7 => ?_)
      · replace c_7 := mt (I_eq (a := a280) (b := 5) ra280 (show rng 5 from ⟨by decide, by decide⟩)).mpr c_7
        refine lv_aload_n hx hb dX11_atom_41 rfl (lv_at hl 1 rfl) ?_
        refine lv_bipush (v := I 33) hx hb dX11_atom_42 (by decide) ?_
        obtain ⟨_, hc_8⟩ := hO.cell h_a (by decide) (ci := 11) rfl
        refine th_calli (va_runV (As := [.int (I 33)]) (rest := []) ⟨hx, hb, hml, hown, hts⟩ (m_isMarkedX l G y b0 σ E hO a h_a 33 (show rng 33 from (show rng 33 from ⟨by decide, by decide⟩)) Bf hsr (by omega)) (cwV 1 hts gX11_atom_X11_isMarked rfl rfl rfl (by decide +kernel) ⟨(by first | (simp only [headSpec]; omega) | omega | (dsimp only; omega)), (by first | (simp only [headSpec]; omega) | omega | (dsimp only; omega))⟩) (th_PV hK hH rfl hc_8) rfl rfl hl.1 rfl (lv_room (Nat.le_of_ble_eq_true rfl)) dX11_atom_44 ⟨(by first | (simp only [headSpec]; omega) | omega | (dsimp only; omega)), (by first | (simp only [headSpec]; omega) | omega | (dsimp only; omega))⟩) hS (fun z_11 σ_s_10 H locs rz_11 hw_9 hH hS => ?_)
        obtain ⟨e9, bhw_9, hw_9⟩ := hw_9
        replace e9 := e9.symm
        subst e9
        have hw_9 : (z_11 = 1 ∧ mkd (gI σ a 19) (gI σ a 14) (Bf (gI σ a 17)) 33) ∨ (z_11 = 0 ∧ ¬ mkd (gI σ a 19) (gI σ a 14) (Bf (gI σ a 17)) 33) := hw_9
        refine lv_if_eq (tgt := 89) hx hb dX11_atom_47 (by decide) (fun c_12 => ?_) (fun c_12 => ?_)
        · replace c_12 := (I_eq (a := z_11) (b := 0) rz_11 (show rng 0 from ⟨by decide, by decide⟩)).mp c_12
          replace hw_9 := (hw_9.resolve_left (fun h9 => absurd h9.1 (by omega))).2
          refine lv_aload_n hx hb dX11_atom_89 rfl (lv_at hl 1 rfl) ?_
          refine lv_bipush (v := I 40) hx hb dX11_atom_90 (by decide) ?_
          obtain ⟨_, hc_13⟩ := hO.cell h_a (by decide) (ci := 11) rfl
          refine th_calli (va_runV (As := [.int (I 40)]) (rest := []) ⟨hx, hb, hml, hown, hts⟩ (m_isMarkedX l G y b0 σ E hO a h_a 40 (show rng 40 from (show rng 40 from ⟨by decide, by decide⟩)) Bf hsr (by omega)) (cwV 1 hts gX11_atom_X11_isMarked rfl rfl rfl (by decide +kernel) ⟨(by first | (simp only [headSpec]; omega) | omega | (dsimp only; omega)), (by first | (simp only [headSpec]; omega) | omega | (dsimp only; omega))⟩) (th_PV hK hH rfl hc_13) rfl rfl hl.1 rfl (lv_room (Nat.le_of_ble_eq_true rfl)) dX11_atom_92 ⟨(by first | (simp only [headSpec]; omega) | omega | (dsimp only; omega)), (by first | (simp only [headSpec]; omega) | omega | (dsimp only; omega))⟩) hS (fun z_16 σ_s_15 H locs rz_16 hw_14 hH hS => ?_)
          obtain ⟨e9, bhw_14, hw_14⟩ := hw_14
          replace e9 := e9.symm
          subst e9
          have hw_14 : (z_16 = 1 ∧ mkd (gI σ a 19) (gI σ a 14) (Bf (gI σ a 17)) 40) ∨ (z_16 = 0 ∧ ¬ mkd (gI σ a 19) (gI σ a 14) (Bf (gI σ a 17)) 40) := hw_14
          refine lv_if_eq (tgt := 135) hx hb dX11_atom_95 (by decide) (fun c_17 => ?_) (fun c_17 => ?_)
          · replace c_17 := (I_eq (a := z_16) (b := 0) rz_16 (show rng 0 from ⟨by decide, by decide⟩)).mp c_17
            replace hw_14 := (hw_14.resolve_left (fun h9 => absurd h9.1 (by omega))).2
            refine lv_aload_n hx hb dX11_atom_135 rfl (lv_at hl 1 rfl) ?_
            obtain ⟨_, hc_18⟩ := hO.cell h_a (by decide) (ci := 11) rfl
            refine th_calli (va_runV (As := []) (rest := []) ⟨hx, hb, hml, hown, hts⟩ (m_little l G y b0 σ E hO a h_a f1 ef1 Bf hsr (hy0) (by omega) (by omega) (by omega)) (cwV 0 hts gX11_atom_X11_little rfl rfl rfl (by decide +kernel) ⟨(by first | (simp only [headSpec]; omega) | omega | (dsimp only; omega)), (by first | (simp only [headSpec]; omega) | omega | (dsimp only; omega))⟩) (th_PV hK hH rfl hc_18) rfl rfl hl.1 rfl (lv_room (Nat.le_of_ble_eq_true rfl)) dX11_atom_136 ⟨(by first | (simp only [headSpec]; omega) | omega | (dsimp only; omega)), (by first | (simp only [headSpec]; omega) | omega | (dsimp only; omega))⟩) hS (fun z_21 σ_s_20 H locs rz_21 hw_19 hH hS => ?_)
            obtain ⟨hO9, hF9, hM9, bhw_19, hw_19⟩ := hw_19
            replace hM := hM.tu hM9 (by decide)
            replace hF := hF.tu hF9 (by decide)
            have e_22 : aF σ_s_20 (ad E a 1) = f1 := (hM9.a (by decide) (by decide)).trans ef1
            have e_23 : gI σ_s_20 a 11 = a110 := (hM9.i (by decide)).trans ea110
            have e_24 : gI σ_s_20 a 28 = a280 := (hM9.i (by decide)).trans ea280
            have e_25 : gI σ_s_20 a 30 = a300 := (hM9.i (by decide)).trans ea300
            replace hsr := hsr.mv hM9 (by decide) (by decide) (by decide) (by decide) (by decide)
            replace hO := hO9
            have hw_19 : gI σ a 13 ≤ gI σ_s_20 a 13 ∧ gI σ_s_20 a 13 ≤ gI σ a 11 ∧ 0 ≤ gI σ_s_20 a 17 ∧ gI σ_s_20 a 17 ≤ gI σ_s_20 a 13 ∧ pgo (gI σ_s_20 a 19) (gI σ_s_20 a 14) (gI σ a 13) (gI σ_s_20 a 13) := hw_19
            exact th_zret hx hb hr hlocks hH hS (z := z_21) (by omega) ⟨hO, hF, hM, ⟨by omega, by omega⟩, ⟨⟨by omega, hw_19.2.is (by first | (dsimp only; omega) | omega) (by first | (dsimp only; omega) | omega) (by first | (dsimp only; omega) | omega) (by first | (dsimp only; omega) | omega)⟩, by omega⟩⟩ dX11_atom_139
          · replace c_17 := mt (I_eq (a := z_16) (b := 0) rz_16 (show rng 0 from ⟨by decide, by decide⟩)).mpr c_17
            replace hw_14 := (hw_14.resolve_right (fun h9 => absurd h9.1 (by omega))).2
            have hz9 : gI σ a 28 ≤ 4 := by omega
            refine lv_aload_n hx hb dX11_atom_98 rfl (lv_at hl 1 rfl) ?_
            refine lv_dup hx hb dX11_atom_99 rfl ?_
            refine ok.getIc hO h_a (by decide) k13_28 ea280 (fun _ _ he hv kk => th_get (ci := 11) (C := RX11) (T := TX11) (N := 66) hx hb hts inX11 hown hK hH he rfl 28 (by decide) fl0 hv dX11_atom_100 kk) ?_
            refine lv_iconst (v := I 1) hx hb dX11_atom_103 (by decide) ?_
            refine lv_iadd hx hb dX11_atom_104 ?_
            refine th_addo (fun z_26 rz_26 hz_26 => ?_)
            refine ok.putJ hO h_a k13_28 rz_26 (by omega) (by omega) (fun _ he hl9 kk => th_put (ci := 11) (v := .int (I z_26)) (ty := .int) (C := RX11) (T := TX11) (N := 66) hx hb hts inX11 tyX11 tyX11_ok nmX11 hown hK hH hS h00 he rfl 28 (by decide) fl0 rfl (by decide +kernel) rfl rfl hl9 dX11_atom_105 kk) (fun σ_s_27 H locs hO hF9 hM9 hg9 ha9 hH hS => ?_)
            replace hM := hM.tu hM9 (by decide)
            replace hF := hF.tu hF9 (by decide)
            have e_28 : aF σ_s_27 (ad E a 1) = f1 := (hM9.a (by decide) (by decide)).trans ef1
            have e_29 : gI σ_s_27 a 11 = a110 := (hM9.i (by decide)).trans ea110
            have e_30 : gI σ_s_27 a 13 = a130 := (hM9.i (by decide)).trans ea130
            have e_31 : gI σ_s_27 a 14 = a140 := (hM9.i (by decide)).trans ea140
            have e_32 : gI σ_s_27 a 17 = a170 := (hM9.i (by decide)).trans ea170
            have e_33 : gI σ_s_27 a 19 = a190 := (hM9.i (by decide)).trans ea190
            have e_34 : gI σ_s_27 a 30 = a300 := (hM9.i (by decide)).trans ea300
            replace hsr := hsr.mv hM9 (by decide) (by decide) (by decide) (by decide) (by decide)
            have e_35 := hg9
            refine lv_aload_n hx hb dX11_atom_108 rfl (lv_at hl 1 rfl) ?_
            obtain ⟨_, hc_36⟩ := hO.cell h_a (by decide) (ci := 11) rfl
            refine th_callv (va_runV (As := []) (rest := []) ⟨hx, hb, hml, hown, hts⟩ (m_pass l G y b0 σ_s_27 E hO a h_a Bf hsr (by omega)) (cwV 0 hts gX11_atom_X11_pass rfl rfl rfl (by decide +kernel) ⟨(by first | (simp only [headSpec]; omega) | omega | (dsimp only; omega)), (by first | (simp only [headSpec]; omega) | omega | (dsimp only; omega))⟩) (th_PV hK hH rfl hc_36) rfl rfl hl.1 rfl (lv_room (Nat.le_of_ble_eq_true rfl)) dX11_atom_109 ⟨(by first | (simp only [headSpec]; omega) | omega | (dsimp only; omega)), (by first | (simp only [headSpec]; omega) | omega | (dsimp only; omega))⟩) hS (fun σ_s_38 H locs hw_37 hH hS => ?_)
            obtain ⟨hO9, hF9, hM9, hw_37⟩ := hw_37
            replace hM := hM.tu hM9 (by decide)
            replace hF := hF.tu hF9 (by decide)
            have e_39 : aF σ_s_38 (ad E a 1) = f1 := (hM9.a (by decide) (by decide)).trans e_28
            have e_40 : gI σ_s_38 a 11 = a110 := (hM9.i (by decide)).trans e_29
            have e_41 : gI σ_s_38 a 19 = a190 := (hM9.i (by decide)).trans e_33
            have e_42 : gI σ_s_38 a 30 = a300 := (hM9.i (by decide)).trans e_34
            have e_43 : gI σ_s_38 a 28 = z_26 := (hM9.i (by decide)).trans e_35
            replace hsr := hsr.mv hM9 (by decide) (by decide) (by decide) (by decide) (by decide)
            replace hO := hO9
            have hw_37 : (gI σ_s_27 a 13 ≤ gI σ_s_38 a 13 ∧ gI σ_s_38 a 13 ≤ gI σ_s_27 a 11 ∧ 0 ≤ gI σ_s_38 a 17 ∧ gI σ_s_38 a 17 ≤ gI σ_s_38 a 13) ∧ pgo (gI σ_s_38 a 19) (gI σ_s_38 a 14) (gI σ_s_27 a 13) (gI σ_s_38 a 13) ∧ gI σ_s_38 a 19 = gI σ_s_27 a 19 := hw_37
            refine lv_aload_n hx hb dX11_atom_112 rfl (lv_at hl 1 rfl) ?_
            obtain ⟨_, hc_44⟩ := hO.cell h_a (by decide) (ci := 11) rfl
            refine th_calli (va_runV (As := []) (rest := []) ⟨hx, hb, hml, hown, hts⟩ (m_cond n ih l G y b0 σ_s_38 E hO a h_a f1 e_39 Bf hsr (hy0) (by omega) (by omega) (by omega) (by omega) (by omega)) (cwV 0 hts gX11_atom_X11_cond rfl rfl rfl (by decide +kernel) ⟨(by first | (simp only [headSpec]; omega) | omega | (dsimp only; omega)), (by first | (simp only [headSpec]; omega) | omega | (dsimp only; omega))⟩) (th_PV hK hH rfl hc_44) rfl rfl hl.1 rfl (lv_room (Nat.le_of_ble_eq_true rfl)) dX11_atom_113 ⟨(by first | (simp only [headSpec]; omega) | omega | (dsimp only; omega)), (by first | (simp only [headSpec]; omega) | omega | (dsimp only; omega))⟩) hS (fun z_47 σ_s_46 H locs rz_47 hw_45 hH hS => ?_)
            obtain ⟨hO9, hF9, hM9, bhw_45, hw_45⟩ := hw_45
            replace hM := hM.tu hM9 (by decide)
            replace hF := hF.tu hF9 (by decide)
            have e_48 : aF σ_s_46 (ad E a 1) = f1 := (hM9.a (by decide) (by decide)).trans e_39
            have e_49 : gI σ_s_46 a 11 = a110 := (hM9.i (by decide)).trans e_40
            have e_50 : gI σ_s_46 a 30 = a300 := (hM9.i (by decide)).trans e_42
            replace hsr := hsr.mv hM9 (by decide) (by decide) (by decide) (by decide) (by decide)
            replace hO := hO9
            have hw_45 : (gI σ_s_38 a 13 ≤ gI σ_s_46 a 13 ∧ gI σ_s_46 a 13 ≤ gI σ_s_38 a 11 ∧ 0 ≤ gI σ_s_46 a 17 ∧ gI σ_s_46 a 17 ≤ gI σ_s_46 a 13 ∧ pgo (gI σ_s_46 a 19) (gI σ_s_46 a 14) (gI σ_s_38 a 13) (gI σ_s_46 a 13)) ∧ gI σ_s_46 a 28 = gI σ_s_38 a 28 := hw_45
            refine lv_istore_n (lv' := [(2, .int (I z_47)), (1, .int (I 1)), (0, .ref a)]) hx hb dX11_atom_116 rfl hl (by decide) rfl (fun ls hl => ?_)
            refine lv_aload_n hx hb dX11_atom_117 rfl (lv_at hl 2 rfl) ?_
            refine lv_bipush (v := I 41) hx hb dX11_atom_118 (by decide) ?_
            obtain ⟨_, hc_51⟩ := hO.cell h_a (by decide) (ci := 11) rfl
            refine th_callv (va_runV (As := [.int (I 41)]) (rest := []) ⟨hx, hb, hml, hown, hts⟩ (m_need l G y b0 σ_s_46 E hO a h_a 41 (show rng 41 from (show rng 41 from ⟨by decide, by decide⟩)) Bf hsr (by omega)) (cwV 1 hts gX11_atom_X11_need rfl rfl rfl (by decide +kernel) ⟨(by first | (simp only [headSpec]; omega) | omega | (dsimp only; omega)), (by first | (simp only [headSpec]; omega) | omega | (dsimp only; omega))⟩) (th_PV hK hH rfl hc_51) rfl rfl hl.1 rfl (lv_room (Nat.le_of_ble_eq_true rfl)) dX11_atom_120 ⟨(by first | (simp only [headSpec]; omega) | omega | (dsimp only; omega)), (by first | (simp only [headSpec]; omega) | omega | (dsimp only; omega))⟩) hS (fun σ_s_53 H locs hw_52 hH hS => ?_)
            obtain ⟨hO9, hF9, hM9, hw_52⟩ := hw_52
            replace hM := hM.tu hM9 (by decide)
            replace hF := hF.tu hF9 (by decide)
            have e_54 : aF σ_s_53 (ad E a 1) = f1 := (hM9.a (by decide) (by decide)).trans e_48
            have e_55 : gI σ_s_53 a 11 = a110 := (hM9.i (by decide)).trans e_49
            have e_56 : gI σ_s_53 a 30 = a300 := (hM9.i (by decide)).trans e_50
            replace hsr := hsr.mv hM9 (by decide) (by decide) (by decide) (by decide) (by decide)
            replace hO := hO9
            have hw_52 : (gI σ_s_46 a 13 ≤ gI σ_s_53 a 13 ∧ gI σ_s_53 a 13 ≤ gI σ_s_46 a 11 ∧ 0 ≤ gI σ_s_53 a 17 ∧ gI σ_s_53 a 17 ≤ gI σ_s_53 a 13) ∧ pgo (gI σ_s_53 a 19) (gI σ_s_53 a 14) (gI σ_s_46 a 13) (gI σ_s_53 a 13) ∧ bdo (gI σ_s_46 a 19) (gI σ_s_53 a 19) := hw_52
            refine lv_aload_n hx hb dX11_atom_123 rfl (lv_at hl 2 rfl) ?_
            refine lv_dup hx hb dX11_atom_124 rfl ?_
            refine ok.getI hO h_a (by decide) k13_28 (fun _ _ he hv kk => th_get (ci := 11) (C := RX11) (T := TX11) (N := 66) hx hb hts inX11 hown hK hH he rfl 28 (by decide) fl0 hv dX11_atom_125 kk) (fun z_57 e_58 rz_57 lz_57 uz_57 => ?_)
            refine lv_iconst (v := I 1) hx hb dX11_atom_128 (by decide) ?_
            refine lv_isub hx hb dX11_atom_129 ?_
            refine th_subo (fun z_59 rz_59 hz_59 => ?_)
            refine ok.putJ hO h_a k13_28 rz_59 (by omega) (by omega) (fun _ he hl9 kk => th_put (ci := 11) (v := .int (I z_59)) (ty := .int) (C := RX11) (T := TX11) (N := 66) hx hb hts inX11 tyX11 tyX11_ok nmX11 hown hK hH hS h00 he rfl 28 (by decide) fl0 rfl (by decide +kernel) rfl rfl hl9 dX11_atom_130 kk) (fun σ_s_60 H locs hO hF9 hM9 hg9 ha9 hH hS => ?_)
            replace hM := hM.tu hM9 (by decide)
            replace hF := hF.tu hF9 (by decide)
            have e_61 : aF σ_s_60 (ad E a 1) = f1 := (hM9.a (by decide) (by decide)).trans e_54
            have e_62 : gI σ_s_60 a 11 = a110 := (hM9.i (by decide)).trans e_55
            have e_63 : gI σ_s_60 a 30 = a300 := (hM9.i (by decide)).trans e_56
            replace hsr := hsr.mv hM9 (by decide) (by decide) (by decide) (by decide) (by decide)
            have e_64 := hg9
            refine lv_iload_n hx hb dX11_atom_133 rfl (lv_at hl 0 rfl) ?_
            exact th_zret hx hb hr hlocks hH hS (z := z_47) (by omega) ⟨hO, hF, hM, ⟨by omega, by omega⟩, ⟨⟨by omega, hw_52.1.2.is (by first | (dsimp only; omega) | omega) (by first | (dsimp only; omega) | omega) (by first | (dsimp only; omega) | omega) (by first | (dsimp only; omega) | omega)⟩, by omega⟩⟩ dX11_atom_134
        · replace c_12 := mt (I_eq (a := z_11) (b := 0) rz_11 (show rng 0 from ⟨by decide, by decide⟩)).mpr c_12
          replace hw_9 := (hw_9.resolve_right (fun h9 => absurd h9.1 (by omega))).2
          have hz9 : gI σ a 28 ≤ 4 := by omega
          refine lv_aload_n hx hb dX11_atom_50 rfl (lv_at hl 1 rfl) ?_
          refine lv_dup hx hb dX11_atom_51 rfl ?_
          refine ok.getIc hO h_a (by decide) k13_28 ea280 (fun _ _ he hv kk => th_get (ci := 11) (C := RX11) (T := TX11) (N := 66) hx hb hts inX11 hown hK hH he rfl 28 (by decide) fl0 hv dX11_atom_52 kk) ?_
          refine lv_iconst (v := I 1) hx hb dX11_atom_55 (by decide) ?_
          refine lv_iadd hx hb dX11_atom_56 ?_
          refine th_addo (fun z_65 rz_65 hz_65 => ?_)
          refine ok.putJ hO h_a k13_28 rz_65 (by omega) (by omega) (fun _ he hl9 kk => th_put (ci := 11) (v := .int (I z_65)) (ty := .int) (C := RX11) (T := TX11) (N := 66) hx hb hts inX11 tyX11 tyX11_ok nmX11 hown hK hH hS h00 he rfl 28 (by decide) fl0 rfl (by decide +kernel) rfl rfl hl9 dX11_atom_57 kk) (fun σ_s_66 H locs hO hF9 hM9 hg9 ha9 hH hS => ?_)
          replace hM := hM.tu hM9 (by decide)
          replace hF := hF.tu hF9 (by decide)
          have e_67 : aF σ_s_66 (ad E a 1) = f1 := (hM9.a (by decide) (by decide)).trans ef1
          have e_68 : gI σ_s_66 a 11 = a110 := (hM9.i (by decide)).trans ea110
          have e_69 : gI σ_s_66 a 13 = a130 := (hM9.i (by decide)).trans ea130
          have e_70 : gI σ_s_66 a 14 = a140 := (hM9.i (by decide)).trans ea140
          have e_71 : gI σ_s_66 a 17 = a170 := (hM9.i (by decide)).trans ea170
          have e_72 : gI σ_s_66 a 19 = a190 := (hM9.i (by decide)).trans ea190
          have e_73 : gI σ_s_66 a 30 = a300 := (hM9.i (by decide)).trans ea300
          replace hsr := hsr.mv hM9 (by decide) (by decide) (by decide) (by decide) (by decide)
          have e_74 := hg9
          refine lv_aload_n hx hb dX11_atom_60 rfl (lv_at hl 1 rfl) ?_
          obtain ⟨_, hc_75⟩ := hO.cell h_a (by decide) (ci := 11) rfl
          refine th_callv (va_runV (As := []) (rest := []) ⟨hx, hb, hml, hown, hts⟩ (m_pass l G y b0 σ_s_66 E hO a h_a Bf hsr (by omega)) (cwV 0 hts gX11_atom_X11_pass rfl rfl rfl (by decide +kernel) ⟨(by first | (simp only [headSpec]; omega) | omega | (dsimp only; omega)), (by first | (simp only [headSpec]; omega) | omega | (dsimp only; omega))⟩) (th_PV hK hH rfl hc_75) rfl rfl hl.1 rfl (lv_room (Nat.le_of_ble_eq_true rfl)) dX11_atom_61 ⟨(by first | (simp only [headSpec]; omega) | omega | (dsimp only; omega)), (by first | (simp only [headSpec]; omega) | omega | (dsimp only; omega))⟩) hS (fun σ_s_77 H locs hw_76 hH hS => ?_)
          obtain ⟨hO9, hF9, hM9, hw_76⟩ := hw_76
          replace hM := hM.tu hM9 (by decide)
          replace hF := hF.tu hF9 (by decide)
          have e_78 : aF σ_s_77 (ad E a 1) = f1 := (hM9.a (by decide) (by decide)).trans e_67
          have e_79 : gI σ_s_77 a 11 = a110 := (hM9.i (by decide)).trans e_68
          have e_80 : gI σ_s_77 a 19 = a190 := (hM9.i (by decide)).trans e_72
          have e_81 : gI σ_s_77 a 30 = a300 := (hM9.i (by decide)).trans e_73
          have e_82 : gI σ_s_77 a 28 = z_65 := (hM9.i (by decide)).trans e_74
          replace hsr := hsr.mv hM9 (by decide) (by decide) (by decide) (by decide) (by decide)
          replace hO := hO9
          have hw_76 : (gI σ_s_66 a 13 ≤ gI σ_s_77 a 13 ∧ gI σ_s_77 a 13 ≤ gI σ_s_66 a 11 ∧ 0 ≤ gI σ_s_77 a 17 ∧ gI σ_s_77 a 17 ≤ gI σ_s_77 a 13) ∧ pgo (gI σ_s_77 a 19) (gI σ_s_77 a 14) (gI σ_s_66 a 13) (gI σ_s_77 a 13) ∧ gI σ_s_77 a 19 = gI σ_s_66 a 19 := hw_76
          refine lv_aload_n hx hb dX11_atom_64 rfl (lv_at hl 1 rfl) ?_
          obtain ⟨_, hc_83⟩ := hO.cell h_a (by decide) (ci := 11) rfl
          refine th_calli (va_runV (As := []) (rest := []) ⟨hx, hb, hml, hown, hts⟩ (ih l G y b0 σ_s_77 E hO a h_a f1 e_78 Bf hsr (hy0) (by omega) (by omega) (by omega) (by omega) (by omega)) (cwV 0 hts gX11_atom_X11_atom rfl rfl rfl (by decide +kernel) ⟨(by first | (simp only [headSpec]; omega) | omega | (dsimp only; omega)), (by first | (simp only [headSpec]; omega) | omega | (dsimp only; omega))⟩) (th_PV hK hH rfl hc_83) rfl rfl hl.1 rfl (lv_room (Nat.le_of_ble_eq_true rfl)) dX11_atom_65 ⟨(by first | (simp only [headSpec]; omega) | omega | (dsimp only; omega)), (by first | (simp only [headSpec]; omega) | omega | (dsimp only; omega))⟩) hS (fun z_86 σ_s_85 H locs rz_86 hw_84 hH hS => ?_)
          obtain ⟨hO9, hF9, hM9, bhw_84, hw_84⟩ := hw_84
          replace hM := hM.tu hM9 (by decide)
          replace hF := hF.tu hF9 (by decide)
          have e_87 : aF σ_s_85 (ad E a 1) = f1 := (hM9.a (by decide) (by decide)).trans e_78
          have e_88 : gI σ_s_85 a 11 = a110 := (hM9.i (by decide)).trans e_79
          have e_89 : gI σ_s_85 a 30 = a300 := (hM9.i (by decide)).trans e_81
          replace hsr := hsr.mv hM9 (by decide) (by decide) (by decide) (by decide) (by decide)
          replace hO := hO9
          have hw_84 : (gI σ_s_77 a 13 ≤ gI σ_s_85 a 13 ∧ gI σ_s_85 a 13 ≤ gI σ_s_77 a 11 ∧ 0 ≤ gI σ_s_85 a 17 ∧ gI σ_s_85 a 17 ≤ gI σ_s_85 a 13 ∧ pgo (gI σ_s_85 a 19) (gI σ_s_85 a 14) (gI σ_s_77 a 13) (gI σ_s_85 a 13)) ∧ gI σ_s_85 a 28 = gI σ_s_77 a 28 := hw_84
          refine lv_istore_n (lv' := [(2, .int (I z_86)), (1, .int (I 1)), (0, .ref a)]) hx hb dX11_atom_68 rfl hl (by decide) rfl (fun ls hl => ?_)
          refine lv_aload_n hx hb dX11_atom_69 rfl (lv_at hl 2 rfl) ?_
          refine lv_dup hx hb dX11_atom_70 rfl ?_
          refine ok.getI hO h_a (by decide) k13_28 (fun _ _ he hv kk => th_get (ci := 11) (C := RX11) (T := TX11) (N := 66) hx hb hts inX11 hown hK hH he rfl 28 (by decide) fl0 hv dX11_atom_71 kk) (fun z_90 e_91 rz_90 lz_90 uz_90 => ?_)
          refine lv_iconst (v := I 1) hx hb dX11_atom_74 (by decide) ?_
          refine lv_isub hx hb dX11_atom_75 ?_
          refine th_subo (fun z_92 rz_92 hz_92 => ?_)
          refine ok.putJ hO h_a k13_28 rz_92 (by omega) (by omega) (fun _ he hl9 kk => th_put (ci := 11) (v := .int (I z_92)) (ty := .int) (C := RX11) (T := TX11) (N := 66) hx hb hts inX11 tyX11 tyX11_ok nmX11 hown hK hH hS h00 he rfl 28 (by decide) fl0 rfl (by decide +kernel) rfl rfl hl9 dX11_atom_76 kk) (fun σ_s_93 H locs hO hF9 hM9 hg9 ha9 hH hS => ?_)
          replace hM := hM.tu hM9 (by decide)
          replace hF := hF.tu hF9 (by decide)
          have e_94 : aF σ_s_93 (ad E a 1) = f1 := (hM9.a (by decide) (by decide)).trans e_87
          have e_95 : gI σ_s_93 a 11 = a110 := (hM9.i (by decide)).trans e_88
          have e_96 : gI σ_s_93 a 30 = a300 := (hM9.i (by decide)).trans e_89
          replace hsr := hsr.mv hM9 (by decide) (by decide) (by decide) (by decide) (by decide)
          have e_97 := hg9
          refine lv_iload_n hx hb dX11_atom_79 rfl (lv_at hl 0 rfl) ?_
          refine lv_if_ne (tgt := 87) hx hb dX11_atom_80 (by decide) (fun c_98 => ?_) (fun c_98 => ?_)
          · replace c_98 := mt (I_eq (a := z_86) (b := 0) rz_86 (show rng 0 from ⟨by decide, by decide⟩)).mpr c_98
            refine lv_iconst (v := I 0) hx hb dX11_atom_87 (by decide) ?_
            exact th_zret hx hb hr hlocks hH hS (z := 0) (by omega) ⟨hO, hF, hM, ⟨by omega, by omega⟩, ⟨⟨by omega, hw_84.1.2.is (by first | (dsimp only; omega) | omega) (by first | (dsimp only; omega) | omega) (by first | (dsimp only; omega) | omega) (by first | (dsimp only; omega) | omega)⟩, by omega⟩⟩ dX11_atom_88
          · replace c_98 := (I_eq (a := z_86) (b := 0) rz_86 (show rng 0 from ⟨by decide, by decide⟩)).mp c_98
            refine lv_iconst (v := I 1) hx hb dX11_atom_83 (by decide) ?_
            refine lv_goto (tgt := 88) hx hb dX11_atom_84 (by decide) ?_
            exact th_zret hx hb hr hlocks hH hS (z := 1) (by omega) ⟨hO, hF, hM, ⟨by omega, by omega⟩, ⟨⟨by omega, hw_84.1.2.is (by first | (dsimp only; omega) | omega) (by first | (dsimp only; omega) | omega) (by first | (dsimp only; omega) | omega) (by first | (dsimp only; omega) | omega)⟩, by omega⟩⟩ dX11_atom_88
      · replace c_7 := (I_eq (a := a280) (b := 5) ra280 (show rng 5 from ⟨by decide, by decide⟩)).mp c_7
        refine lv_aload_n hx hb dX11_atom_36 rfl (lv_at hl 1 rfl) ?_
        refine lv_iconst (v := I 2) hx hb dX11_atom_37 (by decide) ?_
        obtain ⟨_, hc_99⟩ := hO.cell h_a (by decide) (ci := 11) rfl
        refine th_callv (va_runV (As := [.int (I 2)]) (rest := []) ⟨hx, hb, hml, hown, hts⟩ (m_wrong l G y b0 σ E hO a h_a 2 (show rng 2 from (show rng 2 from ⟨by decide, by decide⟩)) (by omega) (by omega)) (cwV 1 hts gX11_atom_X11_wrong rfl rfl rfl (by decide +kernel) ⟨(by first | (simp only [headSpec]; omega) | omega | (dsimp only; omega)), (by first | (simp only [headSpec]; omega) | omega | (dsimp only; omega))⟩) (th_PV hK hH rfl hc_99) rfl rfl hl.1 rfl (lv_room (Nat.le_of_ble_eq_true rfl)) dX11_atom_38 ⟨(by first | (simp only [headSpec]; omega) | omega | (dsimp only; omega)), (by first | (simp only [headSpec]; omega) | omega | (dsimp only; omega))⟩) hS (fun σ_s_101 H locs hw_100 hH hS => ?_)
        obtain ⟨hO9, hF9, hM9, hw_100⟩ := hw_100
        replace hM := hM.tu hM9 (by decide)
        replace hF := hF.tu hF9 (by decide)
        have e_102 : aF σ_s_101 (ad E a 1) = f1 := (hM9.a (by decide) (by decide)).trans ef1
        have e_103 : gI σ_s_101 a 11 = a110 := (hM9.i (by decide)).trans ea110
        have e_104 : gI σ_s_101 a 13 = a130 := (hM9.i (by decide)).trans ea130
        have e_105 : gI σ_s_101 a 14 = a140 := (hM9.i (by decide)).trans ea140
        have e_106 : gI σ_s_101 a 17 = a170 := (hM9.i (by decide)).trans ea170
        have e_107 : gI σ_s_101 a 28 = a280 := (hM9.i (by decide)).trans ea280
        have e_108 : gI σ_s_101 a 30 = a300 := (hM9.i (by decide)).trans ea300
        replace hsr := hsr.mv hM9 (by decide) (by decide) (by decide) (by decide) (by decide)
        replace hO := hO9
        have hw_100 : ¬ gI σ_s_101 a 19 = 0 ∧ (gI σ a 19 = 0 ∨ gI σ_s_101 a 19 = gI σ a 19) := hw_100
        refine lv_aload_n hx hb dX11_atom_41 rfl (lv_at hl 1 rfl) ?_
        refine lv_bipush (v := I 33) hx hb dX11_atom_42 (by decide) ?_
        obtain ⟨_, hc_109⟩ := hO.cell h_a (by decide) (ci := 11) rfl
        refine th_calli (va_runV (As := [.int (I 33)]) (rest := []) ⟨hx, hb, hml, hown, hts⟩ (m_isMarkedX l G y b0 σ_s_101 E hO a h_a 33 (show rng 33 from (show rng 33 from ⟨by decide, by decide⟩)) Bf hsr (by omega)) (cwV 1 hts gX11_atom_X11_isMarked rfl rfl rfl (by decide +kernel) ⟨(by first | (simp only [headSpec]; omega) | omega | (dsimp only; omega)), (by first | (simp only [headSpec]; omega) | omega | (dsimp only; omega))⟩) (th_PV hK hH rfl hc_109) rfl rfl hl.1 rfl (lv_room (Nat.le_of_ble_eq_true rfl)) dX11_atom_44 ⟨(by first | (simp only [headSpec]; omega) | omega | (dsimp only; omega)), (by first | (simp only [headSpec]; omega) | omega | (dsimp only; omega))⟩) hS (fun z_112 σ_s_111 H locs rz_112 hw_110 hH hS => ?_)
        obtain ⟨e9, bhw_110, hw_110⟩ := hw_110
        replace e9 := e9.symm
        subst e9
        have hw_110 : (z_112 = 1 ∧ mkd (gI σ_s_101 a 19) (gI σ_s_101 a 14) (Bf (gI σ_s_101 a 17)) 33) ∨ (z_112 = 0 ∧ ¬ mkd (gI σ_s_101 a 19) (gI σ_s_101 a 14) (Bf (gI σ_s_101 a 17)) 33) := hw_110
        refine lv_if_eq (tgt := 89) hx hb dX11_atom_47 (by decide) (fun c_113 => ?_) (fun c_113 => ?_)
        · replace c_113 := (I_eq (a := z_112) (b := 0) rz_112 (show rng 0 from ⟨by decide, by decide⟩)).mp c_113
          replace hw_110 := (hw_110.resolve_left (fun h9 => absurd h9.1 (by omega))).2
          refine lv_aload_n hx hb dX11_atom_89 rfl (lv_at hl 1 rfl) ?_
          refine lv_bipush (v := I 40) hx hb dX11_atom_90 (by decide) ?_
          obtain ⟨_, hc_114⟩ := hO.cell h_a (by decide) (ci := 11) rfl
          refine th_calli (va_runV (As := [.int (I 40)]) (rest := []) ⟨hx, hb, hml, hown, hts⟩ (m_isMarkedX l G y b0 σ_s_101 E hO a h_a 40 (show rng 40 from (show rng 40 from ⟨by decide, by decide⟩)) Bf hsr (by omega)) (cwV 1 hts gX11_atom_X11_isMarked rfl rfl rfl (by decide +kernel) ⟨(by first | (simp only [headSpec]; omega) | omega | (dsimp only; omega)), (by first | (simp only [headSpec]; omega) | omega | (dsimp only; omega))⟩) (th_PV hK hH rfl hc_114) rfl rfl hl.1 rfl (lv_room (Nat.le_of_ble_eq_true rfl)) dX11_atom_92 ⟨(by first | (simp only [headSpec]; omega) | omega | (dsimp only; omega)), (by first | (simp only [headSpec]; omega) | omega | (dsimp only; omega))⟩) hS (fun z_117 σ_s_116 H locs rz_117 hw_115 hH hS => ?_)
          obtain ⟨e9, bhw_115, hw_115⟩ := hw_115
          replace e9 := e9.symm
          subst e9
          have hw_115 : (z_117 = 1 ∧ mkd (gI σ_s_101 a 19) (gI σ_s_101 a 14) (Bf (gI σ_s_101 a 17)) 40) ∨ (z_117 = 0 ∧ ¬ mkd (gI σ_s_101 a 19) (gI σ_s_101 a 14) (Bf (gI σ_s_101 a 17)) 40) := hw_115
          refine lv_if_eq (tgt := 135) hx hb dX11_atom_95 (by decide) (fun c_118 => ?_) (fun c_118 => ?_)
          · replace c_118 := (I_eq (a := z_117) (b := 0) rz_117 (show rng 0 from ⟨by decide, by decide⟩)).mp c_118
            replace hw_115 := (hw_115.resolve_left (fun h9 => absurd h9.1 (by omega))).2
            refine lv_aload_n hx hb dX11_atom_135 rfl (lv_at hl 1 rfl) ?_
            obtain ⟨_, hc_119⟩ := hO.cell h_a (by decide) (ci := 11) rfl
            refine th_calli (va_runV (As := []) (rest := []) ⟨hx, hb, hml, hown, hts⟩ (m_little l G y b0 σ_s_101 E hO a h_a f1 e_102 Bf hsr (hy0) (by omega) (by omega) (by omega)) (cwV 0 hts gX11_atom_X11_little rfl rfl rfl (by decide +kernel) ⟨(by first | (simp only [headSpec]; omega) | omega | (dsimp only; omega)), (by first | (simp only [headSpec]; omega) | omega | (dsimp only; omega))⟩) (th_PV hK hH rfl hc_119) rfl rfl hl.1 rfl (lv_room (Nat.le_of_ble_eq_true rfl)) dX11_atom_136 ⟨(by first | (simp only [headSpec]; omega) | omega | (dsimp only; omega)), (by first | (simp only [headSpec]; omega) | omega | (dsimp only; omega))⟩) hS (fun z_122 σ_s_121 H locs rz_122 hw_120 hH hS => ?_)
            obtain ⟨hO9, hF9, hM9, bhw_120, hw_120⟩ := hw_120
            replace hM := hM.tu hM9 (by decide)
            replace hF := hF.tu hF9 (by decide)
            have e_123 : aF σ_s_121 (ad E a 1) = f1 := (hM9.a (by decide) (by decide)).trans e_102
            have e_124 : gI σ_s_121 a 11 = a110 := (hM9.i (by decide)).trans e_103
            have e_125 : gI σ_s_121 a 28 = a280 := (hM9.i (by decide)).trans e_107
            have e_126 : gI σ_s_121 a 30 = a300 := (hM9.i (by decide)).trans e_108
            replace hsr := hsr.mv hM9 (by decide) (by decide) (by decide) (by decide) (by decide)
            replace hO := hO9
            have hw_120 : gI σ_s_101 a 13 ≤ gI σ_s_121 a 13 ∧ gI σ_s_121 a 13 ≤ gI σ_s_101 a 11 ∧ 0 ≤ gI σ_s_121 a 17 ∧ gI σ_s_121 a 17 ≤ gI σ_s_121 a 13 ∧ pgo (gI σ_s_121 a 19) (gI σ_s_121 a 14) (gI σ_s_101 a 13) (gI σ_s_121 a 13) := hw_120
            exact th_zret hx hb hr hlocks hH hS (z := z_122) (by omega) ⟨hO, hF, hM, ⟨by omega, by omega⟩, ⟨⟨by omega, hw_120.2.is (by first | (dsimp only; omega) | omega) (by first | (dsimp only; omega) | omega) (by first | (dsimp only; omega) | omega) (by first | (dsimp only; omega) | omega)⟩, by omega⟩⟩ dX11_atom_139
          · replace c_118 := mt (I_eq (a := z_117) (b := 0) rz_117 (show rng 0 from ⟨by decide, by decide⟩)).mpr c_118
            replace hw_115 := (hw_115.resolve_right (fun h9 => absurd h9.1 (by omega))).2
            exact absurd hw_115.1 (by omega)
        · replace c_113 := mt (I_eq (a := z_112) (b := 0) rz_112 (show rng 0 from ⟨by decide, by decide⟩)).mpr c_113
          replace hw_110 := (hw_110.resolve_right (fun h9 => absurd h9.1 (by omega))).2
          exact absurd hw_110.1 (by omega)
    · replace c_5 := (I_eq (a := z_4) (b := 0) rz_4 (show rng 0 from ⟨by decide, by decide⟩)).mp c_5
      replace hw_2 := (hw_2.resolve_left (fun h9 => absurd h9.1 (by omega))).2
      refine lv_aload_n hx hb dX11_atom_9 rfl (lv_at hl 0 rfl) ?_
      refine lv_bipush (v := I 40) hx hb dX11_atom_10 (by decide) ?_
      obtain ⟨_, hc_127⟩ := hO.cell h_a (by decide) (ci := 11) rfl
      refine th_calli (va_runV (As := [.int (I 40)]) (rest := []) ⟨hx, hb, hml, hown, hts⟩ (m_isMarkedX l G y b0 σ E hO a h_a 40 (show rng 40 from (show rng 40 from ⟨by decide, by decide⟩)) Bf hsr (by omega)) (cwV 1 hts gX11_atom_X11_isMarked rfl rfl rfl (by decide +kernel) ⟨(by first | (simp only [headSpec]; omega) | omega | (dsimp only; omega)), (by first | (simp only [headSpec]; omega) | omega | (dsimp only; omega))⟩) (th_PV hK hH rfl hc_127) rfl rfl hl.1 rfl (lv_room (Nat.le_of_ble_eq_true rfl)) dX11_atom_12 ⟨(by first | (simp only [headSpec]; omega) | omega | (dsimp only; omega)), (by first | (simp only [headSpec]; omega) | omega | (dsimp only; omega))⟩) hS (fun z_130 σ_s_129 H locs rz_130 hw_128 hH hS => ?_)
      obtain ⟨e9, bhw_128, hw_128⟩ := hw_128
      replace e9 := e9.symm
      subst e9
      have hw_128 : (z_130 = 1 ∧ mkd (gI σ a 19) (gI σ a 14) (Bf (gI σ a 17)) 40) ∨ (z_130 = 0 ∧ ¬ mkd (gI σ a 19) (gI σ a 14) (Bf (gI σ a 17)) 40) := hw_128
      refine lv_if_eq (tgt := 22) hx hb dX11_atom_15 (by decide) (fun c_131 => ?_) (fun c_131 => ?_)
      · replace c_131 := (I_eq (a := z_130) (b := 0) rz_130 (show rng 0 from ⟨by decide, by decide⟩)).mp c_131
        replace hw_128 := (hw_128.resolve_left (fun h9 => absurd h9.1 (by omega))).2
        refine lv_iconst (v := I 0) hx hb dX11_atom_22 (by decide) ?_
        refine lv_istore_n (lv' := [(1, .int (I 0)), (0, .ref a)]) hx hb dX11_atom_23 rfl hl (by decide) rfl (fun ls hl => ?_)
        refine lv_iload_n hx hb dX11_atom_24 rfl (lv_at hl 0 rfl) ?_
        refine lv_if_eq (tgt := 41) hx hb dX11_atom_25 (by decide) (fun _ => ?_) (fun c_132 => absurd (by decide) c_132)
        refine lv_aload_n hx hb dX11_atom_41 rfl (lv_at hl 1 rfl) ?_
        refine lv_bipush (v := I 33) hx hb dX11_atom_42 (by decide) ?_
        obtain ⟨_, hc_133⟩ := hO.cell h_a (by decide) (ci := 11) rfl
        refine th_calli (va_runV (As := [.int (I 33)]) (rest := []) ⟨hx, hb, hml, hown, hts⟩ (m_isMarkedX l G y b0 σ E hO a h_a 33 (show rng 33 from (show rng 33 from ⟨by decide, by decide⟩)) Bf hsr (by omega)) (cwV 1 hts gX11_atom_X11_isMarked rfl rfl rfl (by decide +kernel) ⟨(by first | (simp only [headSpec]; omega) | omega | (dsimp only; omega)), (by first | (simp only [headSpec]; omega) | omega | (dsimp only; omega))⟩) (th_PV hK hH rfl hc_133) rfl rfl hl.1 rfl (lv_room (Nat.le_of_ble_eq_true rfl)) dX11_atom_44 ⟨(by first | (simp only [headSpec]; omega) | omega | (dsimp only; omega)), (by first | (simp only [headSpec]; omega) | omega | (dsimp only; omega))⟩) hS (fun z_136 σ_s_135 H locs rz_136 hw_134 hH hS => ?_)
        obtain ⟨e9, bhw_134, hw_134⟩ := hw_134
        replace e9 := e9.symm
        subst e9
        have hw_134 : (z_136 = 1 ∧ mkd (gI σ a 19) (gI σ a 14) (Bf (gI σ a 17)) 33) ∨ (z_136 = 0 ∧ ¬ mkd (gI σ a 19) (gI σ a 14) (Bf (gI σ a 17)) 33) := hw_134
        refine lv_if_eq (tgt := 89) hx hb dX11_atom_47 (by decide) (fun c_137 => ?_) (fun c_137 => ?_)
        · replace c_137 := (I_eq (a := z_136) (b := 0) rz_136 (show rng 0 from ⟨by decide, by decide⟩)).mp c_137
          replace hw_134 := (hw_134.resolve_left (fun h9 => absurd h9.1 (by omega))).2
          refine lv_aload_n hx hb dX11_atom_89 rfl (lv_at hl 1 rfl) ?_
          refine lv_bipush (v := I 40) hx hb dX11_atom_90 (by decide) ?_
          obtain ⟨_, hc_138⟩ := hO.cell h_a (by decide) (ci := 11) rfl
          refine th_calli (va_runV (As := [.int (I 40)]) (rest := []) ⟨hx, hb, hml, hown, hts⟩ (m_isMarkedX l G y b0 σ E hO a h_a 40 (show rng 40 from (show rng 40 from ⟨by decide, by decide⟩)) Bf hsr (by omega)) (cwV 1 hts gX11_atom_X11_isMarked rfl rfl rfl (by decide +kernel) ⟨(by first | (simp only [headSpec]; omega) | omega | (dsimp only; omega)), (by first | (simp only [headSpec]; omega) | omega | (dsimp only; omega))⟩) (th_PV hK hH rfl hc_138) rfl rfl hl.1 rfl (lv_room (Nat.le_of_ble_eq_true rfl)) dX11_atom_92 ⟨(by first | (simp only [headSpec]; omega) | omega | (dsimp only; omega)), (by first | (simp only [headSpec]; omega) | omega | (dsimp only; omega))⟩) hS (fun z_141 σ_s_140 H locs rz_141 hw_139 hH hS => ?_)
          obtain ⟨e9, bhw_139, hw_139⟩ := hw_139
          replace e9 := e9.symm
          subst e9
          have hw_139 : (z_141 = 1 ∧ mkd (gI σ a 19) (gI σ a 14) (Bf (gI σ a 17)) 40) ∨ (z_141 = 0 ∧ ¬ mkd (gI σ a 19) (gI σ a 14) (Bf (gI σ a 17)) 40) := hw_139
          refine lv_if_eq (tgt := 135) hx hb dX11_atom_95 (by decide) (fun c_142 => ?_) (fun c_142 => ?_)
          · replace c_142 := (I_eq (a := z_141) (b := 0) rz_141 (show rng 0 from ⟨by decide, by decide⟩)).mp c_142
            replace hw_139 := (hw_139.resolve_left (fun h9 => absurd h9.1 (by omega))).2
            refine lv_aload_n hx hb dX11_atom_135 rfl (lv_at hl 1 rfl) ?_
            obtain ⟨_, hc_143⟩ := hO.cell h_a (by decide) (ci := 11) rfl
            refine th_calli (va_runV (As := []) (rest := []) ⟨hx, hb, hml, hown, hts⟩ (m_little l G y b0 σ E hO a h_a f1 ef1 Bf hsr (hy0) (by omega) (by omega) (by omega)) (cwV 0 hts gX11_atom_X11_little rfl rfl rfl (by decide +kernel) ⟨(by first | (simp only [headSpec]; omega) | omega | (dsimp only; omega)), (by first | (simp only [headSpec]; omega) | omega | (dsimp only; omega))⟩) (th_PV hK hH rfl hc_143) rfl rfl hl.1 rfl (lv_room (Nat.le_of_ble_eq_true rfl)) dX11_atom_136 ⟨(by first | (simp only [headSpec]; omega) | omega | (dsimp only; omega)), (by first | (simp only [headSpec]; omega) | omega | (dsimp only; omega))⟩) hS (fun z_146 σ_s_145 H locs rz_146 hw_144 hH hS => ?_)
            obtain ⟨hO9, hF9, hM9, bhw_144, hw_144⟩ := hw_144
            replace hM := hM.tu hM9 (by decide)
            replace hF := hF.tu hF9 (by decide)
            have e_147 : aF σ_s_145 (ad E a 1) = f1 := (hM9.a (by decide) (by decide)).trans ef1
            have e_148 : gI σ_s_145 a 11 = a110 := (hM9.i (by decide)).trans ea110
            have e_149 : gI σ_s_145 a 28 = a280 := (hM9.i (by decide)).trans ea280
            have e_150 : gI σ_s_145 a 30 = a300 := (hM9.i (by decide)).trans ea300
            replace hsr := hsr.mv hM9 (by decide) (by decide) (by decide) (by decide) (by decide)
            replace hO := hO9
            have hw_144 : gI σ a 13 ≤ gI σ_s_145 a 13 ∧ gI σ_s_145 a 13 ≤ gI σ a 11 ∧ 0 ≤ gI σ_s_145 a 17 ∧ gI σ_s_145 a 17 ≤ gI σ_s_145 a 13 ∧ pgo (gI σ_s_145 a 19) (gI σ_s_145 a 14) (gI σ a 13) (gI σ_s_145 a 13) := hw_144
            exact th_zret hx hb hr hlocks hH hS (z := z_146) (by omega) ⟨hO, hF, hM, ⟨by omega, by omega⟩, ⟨⟨by omega, hw_144.2.is (by first | (dsimp only; omega) | omega) (by first | (dsimp only; omega) | omega) (by first | (dsimp only; omega) | omega) (by first | (dsimp only; omega) | omega)⟩, by omega⟩⟩ dX11_atom_139
          · replace c_142 := mt (I_eq (a := z_141) (b := 0) rz_141 (show rng 0 from ⟨by decide, by decide⟩)).mpr c_142
            replace hw_139 := (hw_139.resolve_right (fun h9 => absurd h9.1 (by omega))).2
            first | exact absurd hw_139 hw_2 | exact absurd hw_139 hw_128
        · replace c_137 := mt (I_eq (a := z_136) (b := 0) rz_136 (show rng 0 from ⟨by decide, by decide⟩)).mpr c_137
          replace hw_134 := (hw_134.resolve_right (fun h9 => absurd h9.1 (by omega))).2
          first | exact absurd hw_134 hw_2 | exact absurd hw_134 hw_128
      · replace c_131 := mt (I_eq (a := z_130) (b := 0) rz_130 (show rng 0 from ⟨by decide, by decide⟩)).mpr c_131
        replace hw_128 := (hw_128.resolve_right (fun h9 => absurd h9.1 (by omega))).2
        refine lv_iconst (v := I 1) hx hb dX11_atom_18 (by decide) ?_
        refine lv_goto (tgt := 23) hx hb dX11_atom_19 (by decide) ?_
        refine lv_istore_n (lv' := [(1, .int (I 1)), (0, .ref a)]) hx hb dX11_atom_23 rfl hl (by decide) rfl (fun ls hl => ?_)
        refine lv_iload_n hx hb dX11_atom_24 rfl (lv_at hl 0 rfl) ?_
        refine lv_if_eq (tgt := 41) hx hb dX11_atom_25 (by decide) (fun c_151 => absurd c_151 (by decide)) (fun _ => ?_)
        refine lv_aload_n hx hb dX11_atom_28 rfl (lv_at hl 1 rfl) ?_
        refine ok.getIc hO h_a (by decide) k13_28 ea280 (fun _ _ he hv kk => th_get (ci := 11) (C := RX11) (T := TX11) (N := 66) hx hb hts inX11 hown hK hH he rfl 28 (by decide) fl0 hv dX11_atom_29 kk) ?_
        refine lv_iconst (v := I 5) hx hb dX11_atom_32 (by decide) ?_
        refine lv_icmp_ne (tgt := 41) hx hb dX11_atom_33 (by decide) (fun c_152 => ?_) (fun c_152 => ?_)
        · replace c_152 := mt (I_eq (a := a280) (b := 5) ra280 (show rng 5 from ⟨by decide, by decide⟩)).mpr c_152
          refine lv_aload_n hx hb dX11_atom_41 rfl (lv_at hl 1 rfl) ?_
          refine lv_bipush (v := I 33) hx hb dX11_atom_42 (by decide) ?_
          obtain ⟨_, hc_153⟩ := hO.cell h_a (by decide) (ci := 11) rfl
          refine th_calli (va_runV (As := [.int (I 33)]) (rest := []) ⟨hx, hb, hml, hown, hts⟩ (m_isMarkedX l G y b0 σ E hO a h_a 33 (show rng 33 from (show rng 33 from ⟨by decide, by decide⟩)) Bf hsr (by omega)) (cwV 1 hts gX11_atom_X11_isMarked rfl rfl rfl (by decide +kernel) ⟨(by first | (simp only [headSpec]; omega) | omega | (dsimp only; omega)), (by first | (simp only [headSpec]; omega) | omega | (dsimp only; omega))⟩) (th_PV hK hH rfl hc_153) rfl rfl hl.1 rfl (lv_room (Nat.le_of_ble_eq_true rfl)) dX11_atom_44 ⟨(by first | (simp only [headSpec]; omega) | omega | (dsimp only; omega)), (by first | (simp only [headSpec]; omega) | omega | (dsimp only; omega))⟩) hS (fun z_156 σ_s_155 H locs rz_156 hw_154 hH hS => ?_)
          obtain ⟨e9, bhw_154, hw_154⟩ := hw_154
          replace e9 := e9.symm
          subst e9
          have hw_154 : (z_156 = 1 ∧ mkd (gI σ a 19) (gI σ a 14) (Bf (gI σ a 17)) 33) ∨ (z_156 = 0 ∧ ¬ mkd (gI σ a 19) (gI σ a 14) (Bf (gI σ a 17)) 33) := hw_154
          refine lv_if_eq (tgt := 89) hx hb dX11_atom_47 (by decide) (fun c_157 => ?_) (fun c_157 => ?_)
          · replace c_157 := (I_eq (a := z_156) (b := 0) rz_156 (show rng 0 from ⟨by decide, by decide⟩)).mp c_157
            replace hw_154 := (hw_154.resolve_left (fun h9 => absurd h9.1 (by omega))).2
            refine lv_aload_n hx hb dX11_atom_89 rfl (lv_at hl 1 rfl) ?_
            refine lv_bipush (v := I 40) hx hb dX11_atom_90 (by decide) ?_
            obtain ⟨_, hc_158⟩ := hO.cell h_a (by decide) (ci := 11) rfl
            refine th_calli (va_runV (As := [.int (I 40)]) (rest := []) ⟨hx, hb, hml, hown, hts⟩ (m_isMarkedX l G y b0 σ E hO a h_a 40 (show rng 40 from (show rng 40 from ⟨by decide, by decide⟩)) Bf hsr (by omega)) (cwV 1 hts gX11_atom_X11_isMarked rfl rfl rfl (by decide +kernel) ⟨(by first | (simp only [headSpec]; omega) | omega | (dsimp only; omega)), (by first | (simp only [headSpec]; omega) | omega | (dsimp only; omega))⟩) (th_PV hK hH rfl hc_158) rfl rfl hl.1 rfl (lv_room (Nat.le_of_ble_eq_true rfl)) dX11_atom_92 ⟨(by first | (simp only [headSpec]; omega) | omega | (dsimp only; omega)), (by first | (simp only [headSpec]; omega) | omega | (dsimp only; omega))⟩) hS (fun z_161 σ_s_160 H locs rz_161 hw_159 hH hS => ?_)
            obtain ⟨e9, bhw_159, hw_159⟩ := hw_159
            replace e9 := e9.symm
            subst e9
            have hw_159 : (z_161 = 1 ∧ mkd (gI σ a 19) (gI σ a 14) (Bf (gI σ a 17)) 40) ∨ (z_161 = 0 ∧ ¬ mkd (gI σ a 19) (gI σ a 14) (Bf (gI σ a 17)) 40) := hw_159
            refine lv_if_eq (tgt := 135) hx hb dX11_atom_95 (by decide) (fun c_162 => ?_) (fun c_162 => ?_)
            · replace c_162 := (I_eq (a := z_161) (b := 0) rz_161 (show rng 0 from ⟨by decide, by decide⟩)).mp c_162
              replace hw_159 := (hw_159.resolve_left (fun h9 => absurd h9.1 (by omega))).2
              refine lv_aload_n hx hb dX11_atom_135 rfl (lv_at hl 1 rfl) ?_
              obtain ⟨_, hc_163⟩ := hO.cell h_a (by decide) (ci := 11) rfl
              refine th_calli (va_runV (As := []) (rest := []) ⟨hx, hb, hml, hown, hts⟩ (m_little l G y b0 σ E hO a h_a f1 ef1 Bf hsr (hy0) (by omega) (by omega) (by omega)) (cwV 0 hts gX11_atom_X11_little rfl rfl rfl (by decide +kernel) ⟨(by first | (simp only [headSpec]; omega) | omega | (dsimp only; omega)), (by first | (simp only [headSpec]; omega) | omega | (dsimp only; omega))⟩) (th_PV hK hH rfl hc_163) rfl rfl hl.1 rfl (lv_room (Nat.le_of_ble_eq_true rfl)) dX11_atom_136 ⟨(by first | (simp only [headSpec]; omega) | omega | (dsimp only; omega)), (by first | (simp only [headSpec]; omega) | omega | (dsimp only; omega))⟩) hS (fun z_166 σ_s_165 H locs rz_166 hw_164 hH hS => ?_)
              obtain ⟨hO9, hF9, hM9, bhw_164, hw_164⟩ := hw_164
              replace hM := hM.tu hM9 (by decide)
              replace hF := hF.tu hF9 (by decide)
              have e_167 : aF σ_s_165 (ad E a 1) = f1 := (hM9.a (by decide) (by decide)).trans ef1
              have e_168 : gI σ_s_165 a 11 = a110 := (hM9.i (by decide)).trans ea110
              have e_169 : gI σ_s_165 a 28 = a280 := (hM9.i (by decide)).trans ea280
              have e_170 : gI σ_s_165 a 30 = a300 := (hM9.i (by decide)).trans ea300
              replace hsr := hsr.mv hM9 (by decide) (by decide) (by decide) (by decide) (by decide)
              replace hO := hO9
              have hw_164 : gI σ a 13 ≤ gI σ_s_165 a 13 ∧ gI σ_s_165 a 13 ≤ gI σ a 11 ∧ 0 ≤ gI σ_s_165 a 17 ∧ gI σ_s_165 a 17 ≤ gI σ_s_165 a 13 ∧ pgo (gI σ_s_165 a 19) (gI σ_s_165 a 14) (gI σ a 13) (gI σ_s_165 a 13) := hw_164
              exact th_zret hx hb hr hlocks hH hS (z := z_166) (by omega) ⟨hO, hF, hM, ⟨by omega, by omega⟩, ⟨⟨by omega, hw_164.2.is (by first | (dsimp only; omega) | omega) (by first | (dsimp only; omega) | omega) (by first | (dsimp only; omega) | omega) (by first | (dsimp only; omega) | omega)⟩, by omega⟩⟩ dX11_atom_139
            · replace c_162 := mt (I_eq (a := z_161) (b := 0) rz_161 (show rng 0 from ⟨by decide, by decide⟩)).mpr c_162
              replace hw_159 := (hw_159.resolve_right (fun h9 => absurd h9.1 (by omega))).2
              have hz9 : gI σ a 28 ≤ 4 := by omega
              refine lv_aload_n hx hb dX11_atom_98 rfl (lv_at hl 1 rfl) ?_
              refine lv_dup hx hb dX11_atom_99 rfl ?_
              refine ok.getIc hO h_a (by decide) k13_28 ea280 (fun _ _ he hv kk => th_get (ci := 11) (C := RX11) (T := TX11) (N := 66) hx hb hts inX11 hown hK hH he rfl 28 (by decide) fl0 hv dX11_atom_100 kk) ?_
              refine lv_iconst (v := I 1) hx hb dX11_atom_103 (by decide) ?_
              refine lv_iadd hx hb dX11_atom_104 ?_
              refine th_addo (fun z_171 rz_171 hz_171 => ?_)
              refine ok.putJ hO h_a k13_28 rz_171 (by omega) (by omega) (fun _ he hl9 kk => th_put (ci := 11) (v := .int (I z_171)) (ty := .int) (C := RX11) (T := TX11) (N := 66) hx hb hts inX11 tyX11 tyX11_ok nmX11 hown hK hH hS h00 he rfl 28 (by decide) fl0 rfl (by decide +kernel) rfl rfl hl9 dX11_atom_105 kk) (fun σ_s_172 H locs hO hF9 hM9 hg9 ha9 hH hS => ?_)
              replace hM := hM.tu hM9 (by decide)
              replace hF := hF.tu hF9 (by decide)
              have e_173 : aF σ_s_172 (ad E a 1) = f1 := (hM9.a (by decide) (by decide)).trans ef1
              have e_174 : gI σ_s_172 a 11 = a110 := (hM9.i (by decide)).trans ea110
              have e_175 : gI σ_s_172 a 13 = a130 := (hM9.i (by decide)).trans ea130
              have e_176 : gI σ_s_172 a 14 = a140 := (hM9.i (by decide)).trans ea140
              have e_177 : gI σ_s_172 a 17 = a170 := (hM9.i (by decide)).trans ea170
              have e_178 : gI σ_s_172 a 19 = a190 := (hM9.i (by decide)).trans ea190
              have e_179 : gI σ_s_172 a 30 = a300 := (hM9.i (by decide)).trans ea300
              replace hsr := hsr.mv hM9 (by decide) (by decide) (by decide) (by decide) (by decide)
              have e_180 := hg9
              refine lv_aload_n hx hb dX11_atom_108 rfl (lv_at hl 1 rfl) ?_
              obtain ⟨_, hc_181⟩ := hO.cell h_a (by decide) (ci := 11) rfl
              refine th_callv (va_runV (As := []) (rest := []) ⟨hx, hb, hml, hown, hts⟩ (m_pass l G y b0 σ_s_172 E hO a h_a Bf hsr (by omega)) (cwV 0 hts gX11_atom_X11_pass rfl rfl rfl (by decide +kernel) ⟨(by first | (simp only [headSpec]; omega) | omega | (dsimp only; omega)), (by first | (simp only [headSpec]; omega) | omega | (dsimp only; omega))⟩) (th_PV hK hH rfl hc_181) rfl rfl hl.1 rfl (lv_room (Nat.le_of_ble_eq_true rfl)) dX11_atom_109 ⟨(by first | (simp only [headSpec]; omega) | omega | (dsimp only; omega)), (by first | (simp only [headSpec]; omega) | omega | (dsimp only; omega))⟩) hS (fun σ_s_183 H locs hw_182 hH hS => ?_)
              obtain ⟨hO9, hF9, hM9, hw_182⟩ := hw_182
              replace hM := hM.tu hM9 (by decide)
              replace hF := hF.tu hF9 (by decide)
              have e_184 : aF σ_s_183 (ad E a 1) = f1 := (hM9.a (by decide) (by decide)).trans e_173
              have e_185 : gI σ_s_183 a 11 = a110 := (hM9.i (by decide)).trans e_174
              have e_186 : gI σ_s_183 a 19 = a190 := (hM9.i (by decide)).trans e_178
              have e_187 : gI σ_s_183 a 30 = a300 := (hM9.i (by decide)).trans e_179
              have e_188 : gI σ_s_183 a 28 = z_171 := (hM9.i (by decide)).trans e_180
              replace hsr := hsr.mv hM9 (by decide) (by decide) (by decide) (by decide) (by decide)
              replace hO := hO9
              have hw_182 : (gI σ_s_172 a 13 ≤ gI σ_s_183 a 13 ∧ gI σ_s_183 a 13 ≤ gI σ_s_172 a 11 ∧ 0 ≤ gI σ_s_183 a 17 ∧ gI σ_s_183 a 17 ≤ gI σ_s_183 a 13) ∧ pgo (gI σ_s_183 a 19) (gI σ_s_183 a 14) (gI σ_s_172 a 13) (gI σ_s_183 a 13) ∧ gI σ_s_183 a 19 = gI σ_s_172 a 19 := hw_182
              refine lv_aload_n hx hb dX11_atom_112 rfl (lv_at hl 1 rfl) ?_
              obtain ⟨_, hc_189⟩ := hO.cell h_a (by decide) (ci := 11) rfl
              refine th_calli (va_runV (As := []) (rest := []) ⟨hx, hb, hml, hown, hts⟩ (m_cond n ih l G y b0 σ_s_183 E hO a h_a f1 e_184 Bf hsr (hy0) (by omega) (by omega) (by omega) (by omega) (by omega)) (cwV 0 hts gX11_atom_X11_cond rfl rfl rfl (by decide +kernel) ⟨(by first | (simp only [headSpec]; omega) | omega | (dsimp only; omega)), (by first | (simp only [headSpec]; omega) | omega | (dsimp only; omega))⟩) (th_PV hK hH rfl hc_189) rfl rfl hl.1 rfl (lv_room (Nat.le_of_ble_eq_true rfl)) dX11_atom_113 ⟨(by first | (simp only [headSpec]; omega) | omega | (dsimp only; omega)), (by first | (simp only [headSpec]; omega) | omega | (dsimp only; omega))⟩) hS (fun z_192 σ_s_191 H locs rz_192 hw_190 hH hS => ?_)
              obtain ⟨hO9, hF9, hM9, bhw_190, hw_190⟩ := hw_190
              replace hM := hM.tu hM9 (by decide)
              replace hF := hF.tu hF9 (by decide)
              have e_193 : aF σ_s_191 (ad E a 1) = f1 := (hM9.a (by decide) (by decide)).trans e_184
              have e_194 : gI σ_s_191 a 11 = a110 := (hM9.i (by decide)).trans e_185
              have e_195 : gI σ_s_191 a 30 = a300 := (hM9.i (by decide)).trans e_187
              replace hsr := hsr.mv hM9 (by decide) (by decide) (by decide) (by decide) (by decide)
              replace hO := hO9
              have hw_190 : (gI σ_s_183 a 13 ≤ gI σ_s_191 a 13 ∧ gI σ_s_191 a 13 ≤ gI σ_s_183 a 11 ∧ 0 ≤ gI σ_s_191 a 17 ∧ gI σ_s_191 a 17 ≤ gI σ_s_191 a 13 ∧ pgo (gI σ_s_191 a 19) (gI σ_s_191 a 14) (gI σ_s_183 a 13) (gI σ_s_191 a 13)) ∧ gI σ_s_191 a 28 = gI σ_s_183 a 28 := hw_190
              refine lv_istore_n (lv' := [(2, .int (I z_192)), (1, .int (I 1)), (0, .ref a)]) hx hb dX11_atom_116 rfl hl (by decide) rfl (fun ls hl => ?_)
              refine lv_aload_n hx hb dX11_atom_117 rfl (lv_at hl 2 rfl) ?_
              refine lv_bipush (v := I 41) hx hb dX11_atom_118 (by decide) ?_
              obtain ⟨_, hc_196⟩ := hO.cell h_a (by decide) (ci := 11) rfl
              refine th_callv (va_runV (As := [.int (I 41)]) (rest := []) ⟨hx, hb, hml, hown, hts⟩ (m_need l G y b0 σ_s_191 E hO a h_a 41 (show rng 41 from (show rng 41 from ⟨by decide, by decide⟩)) Bf hsr (by omega)) (cwV 1 hts gX11_atom_X11_need rfl rfl rfl (by decide +kernel) ⟨(by first | (simp only [headSpec]; omega) | omega | (dsimp only; omega)), (by first | (simp only [headSpec]; omega) | omega | (dsimp only; omega))⟩) (th_PV hK hH rfl hc_196) rfl rfl hl.1 rfl (lv_room (Nat.le_of_ble_eq_true rfl)) dX11_atom_120 ⟨(by first | (simp only [headSpec]; omega) | omega | (dsimp only; omega)), (by first | (simp only [headSpec]; omega) | omega | (dsimp only; omega))⟩) hS (fun σ_s_198 H locs hw_197 hH hS => ?_)
              obtain ⟨hO9, hF9, hM9, hw_197⟩ := hw_197
              replace hM := hM.tu hM9 (by decide)
              replace hF := hF.tu hF9 (by decide)
              have e_199 : aF σ_s_198 (ad E a 1) = f1 := (hM9.a (by decide) (by decide)).trans e_193
              have e_200 : gI σ_s_198 a 11 = a110 := (hM9.i (by decide)).trans e_194
              have e_201 : gI σ_s_198 a 30 = a300 := (hM9.i (by decide)).trans e_195
              replace hsr := hsr.mv hM9 (by decide) (by decide) (by decide) (by decide) (by decide)
              replace hO := hO9
              have hw_197 : (gI σ_s_191 a 13 ≤ gI σ_s_198 a 13 ∧ gI σ_s_198 a 13 ≤ gI σ_s_191 a 11 ∧ 0 ≤ gI σ_s_198 a 17 ∧ gI σ_s_198 a 17 ≤ gI σ_s_198 a 13) ∧ pgo (gI σ_s_198 a 19) (gI σ_s_198 a 14) (gI σ_s_191 a 13) (gI σ_s_198 a 13) ∧ bdo (gI σ_s_191 a 19) (gI σ_s_198 a 19) := hw_197
              refine lv_aload_n hx hb dX11_atom_123 rfl (lv_at hl 2 rfl) ?_
              refine lv_dup hx hb dX11_atom_124 rfl ?_
              refine ok.getI hO h_a (by decide) k13_28 (fun _ _ he hv kk => th_get (ci := 11) (C := RX11) (T := TX11) (N := 66) hx hb hts inX11 hown hK hH he rfl 28 (by decide) fl0 hv dX11_atom_125 kk) (fun z_202 e_203 rz_202 lz_202 uz_202 => ?_)
              refine lv_iconst (v := I 1) hx hb dX11_atom_128 (by decide) ?_
              refine lv_isub hx hb dX11_atom_129 ?_
              refine th_subo (fun z_204 rz_204 hz_204 => ?_)
              refine ok.putJ hO h_a k13_28 rz_204 (by omega) (by omega) (fun _ he hl9 kk => th_put (ci := 11) (v := .int (I z_204)) (ty := .int) (C := RX11) (T := TX11) (N := 66) hx hb hts inX11 tyX11 tyX11_ok nmX11 hown hK hH hS h00 he rfl 28 (by decide) fl0 rfl (by decide +kernel) rfl rfl hl9 dX11_atom_130 kk) (fun σ_s_205 H locs hO hF9 hM9 hg9 ha9 hH hS => ?_)
              replace hM := hM.tu hM9 (by decide)
              replace hF := hF.tu hF9 (by decide)
              have e_206 : aF σ_s_205 (ad E a 1) = f1 := (hM9.a (by decide) (by decide)).trans e_199
              have e_207 : gI σ_s_205 a 11 = a110 := (hM9.i (by decide)).trans e_200
              have e_208 : gI σ_s_205 a 30 = a300 := (hM9.i (by decide)).trans e_201
              replace hsr := hsr.mv hM9 (by decide) (by decide) (by decide) (by decide) (by decide)
              have e_209 := hg9
              refine lv_iload_n hx hb dX11_atom_133 rfl (lv_at hl 0 rfl) ?_
              exact th_zret hx hb hr hlocks hH hS (z := z_192) (by omega) ⟨hO, hF, hM, ⟨by omega, by omega⟩, ⟨⟨by omega, hw_197.1.2.is (by first | (dsimp only; omega) | omega) (by first | (dsimp only; omega) | omega) (by first | (dsimp only; omega) | omega) (by first | (dsimp only; omega) | omega)⟩, by omega⟩⟩ dX11_atom_134
          · replace c_157 := mt (I_eq (a := z_156) (b := 0) rz_156 (show rng 0 from ⟨by decide, by decide⟩)).mpr c_157
            replace hw_154 := (hw_154.resolve_right (fun h9 => absurd h9.1 (by omega))).2
            have hz9 : gI σ a 28 ≤ 4 := by omega
            refine lv_aload_n hx hb dX11_atom_50 rfl (lv_at hl 1 rfl) ?_
            refine lv_dup hx hb dX11_atom_51 rfl ?_
            refine ok.getIc hO h_a (by decide) k13_28 ea280 (fun _ _ he hv kk => th_get (ci := 11) (C := RX11) (T := TX11) (N := 66) hx hb hts inX11 hown hK hH he rfl 28 (by decide) fl0 hv dX11_atom_52 kk) ?_
            refine lv_iconst (v := I 1) hx hb dX11_atom_55 (by decide) ?_
            refine lv_iadd hx hb dX11_atom_56 ?_
            refine th_addo (fun z_210 rz_210 hz_210 => ?_)
            refine ok.putJ hO h_a k13_28 rz_210 (by omega) (by omega) (fun _ he hl9 kk => th_put (ci := 11) (v := .int (I z_210)) (ty := .int) (C := RX11) (T := TX11) (N := 66) hx hb hts inX11 tyX11 tyX11_ok nmX11 hown hK hH hS h00 he rfl 28 (by decide) fl0 rfl (by decide +kernel) rfl rfl hl9 dX11_atom_57 kk) (fun σ_s_211 H locs hO hF9 hM9 hg9 ha9 hH hS => ?_)
            replace hM := hM.tu hM9 (by decide)
            replace hF := hF.tu hF9 (by decide)
            have e_212 : aF σ_s_211 (ad E a 1) = f1 := (hM9.a (by decide) (by decide)).trans ef1
            have e_213 : gI σ_s_211 a 11 = a110 := (hM9.i (by decide)).trans ea110
            have e_214 : gI σ_s_211 a 13 = a130 := (hM9.i (by decide)).trans ea130
            have e_215 : gI σ_s_211 a 14 = a140 := (hM9.i (by decide)).trans ea140
            have e_216 : gI σ_s_211 a 17 = a170 := (hM9.i (by decide)).trans ea170
            have e_217 : gI σ_s_211 a 19 = a190 := (hM9.i (by decide)).trans ea190
            have e_218 : gI σ_s_211 a 30 = a300 := (hM9.i (by decide)).trans ea300
            replace hsr := hsr.mv hM9 (by decide) (by decide) (by decide) (by decide) (by decide)
            have e_219 := hg9
            refine lv_aload_n hx hb dX11_atom_60 rfl (lv_at hl 1 rfl) ?_
            obtain ⟨_, hc_220⟩ := hO.cell h_a (by decide) (ci := 11) rfl
            refine th_callv (va_runV (As := []) (rest := []) ⟨hx, hb, hml, hown, hts⟩ (m_pass l G y b0 σ_s_211 E hO a h_a Bf hsr (by omega)) (cwV 0 hts gX11_atom_X11_pass rfl rfl rfl (by decide +kernel) ⟨(by first | (simp only [headSpec]; omega) | omega | (dsimp only; omega)), (by first | (simp only [headSpec]; omega) | omega | (dsimp only; omega))⟩) (th_PV hK hH rfl hc_220) rfl rfl hl.1 rfl (lv_room (Nat.le_of_ble_eq_true rfl)) dX11_atom_61 ⟨(by first | (simp only [headSpec]; omega) | omega | (dsimp only; omega)), (by first | (simp only [headSpec]; omega) | omega | (dsimp only; omega))⟩) hS (fun σ_s_222 H locs hw_221 hH hS => ?_)
            obtain ⟨hO9, hF9, hM9, hw_221⟩ := hw_221
            replace hM := hM.tu hM9 (by decide)
            replace hF := hF.tu hF9 (by decide)
            have e_223 : aF σ_s_222 (ad E a 1) = f1 := (hM9.a (by decide) (by decide)).trans e_212
            have e_224 : gI σ_s_222 a 11 = a110 := (hM9.i (by decide)).trans e_213
            have e_225 : gI σ_s_222 a 19 = a190 := (hM9.i (by decide)).trans e_217
            have e_226 : gI σ_s_222 a 30 = a300 := (hM9.i (by decide)).trans e_218
            have e_227 : gI σ_s_222 a 28 = z_210 := (hM9.i (by decide)).trans e_219
            replace hsr := hsr.mv hM9 (by decide) (by decide) (by decide) (by decide) (by decide)
            replace hO := hO9
            have hw_221 : (gI σ_s_211 a 13 ≤ gI σ_s_222 a 13 ∧ gI σ_s_222 a 13 ≤ gI σ_s_211 a 11 ∧ 0 ≤ gI σ_s_222 a 17 ∧ gI σ_s_222 a 17 ≤ gI σ_s_222 a 13) ∧ pgo (gI σ_s_222 a 19) (gI σ_s_222 a 14) (gI σ_s_211 a 13) (gI σ_s_222 a 13) ∧ gI σ_s_222 a 19 = gI σ_s_211 a 19 := hw_221
            refine lv_aload_n hx hb dX11_atom_64 rfl (lv_at hl 1 rfl) ?_
            obtain ⟨_, hc_228⟩ := hO.cell h_a (by decide) (ci := 11) rfl
            refine th_calli (va_runV (As := []) (rest := []) ⟨hx, hb, hml, hown, hts⟩ (ih l G y b0 σ_s_222 E hO a h_a f1 e_223 Bf hsr (hy0) (by omega) (by omega) (by omega) (by omega) (by omega)) (cwV 0 hts gX11_atom_X11_atom rfl rfl rfl (by decide +kernel) ⟨(by first | (simp only [headSpec]; omega) | omega | (dsimp only; omega)), (by first | (simp only [headSpec]; omega) | omega | (dsimp only; omega))⟩) (th_PV hK hH rfl hc_228) rfl rfl hl.1 rfl (lv_room (Nat.le_of_ble_eq_true rfl)) dX11_atom_65 ⟨(by first | (simp only [headSpec]; omega) | omega | (dsimp only; omega)), (by first | (simp only [headSpec]; omega) | omega | (dsimp only; omega))⟩) hS (fun z_231 σ_s_230 H locs rz_231 hw_229 hH hS => ?_)
            obtain ⟨hO9, hF9, hM9, bhw_229, hw_229⟩ := hw_229
            replace hM := hM.tu hM9 (by decide)
            replace hF := hF.tu hF9 (by decide)
            have e_232 : aF σ_s_230 (ad E a 1) = f1 := (hM9.a (by decide) (by decide)).trans e_223
            have e_233 : gI σ_s_230 a 11 = a110 := (hM9.i (by decide)).trans e_224
            have e_234 : gI σ_s_230 a 30 = a300 := (hM9.i (by decide)).trans e_226
            replace hsr := hsr.mv hM9 (by decide) (by decide) (by decide) (by decide) (by decide)
            replace hO := hO9
            have hw_229 : (gI σ_s_222 a 13 ≤ gI σ_s_230 a 13 ∧ gI σ_s_230 a 13 ≤ gI σ_s_222 a 11 ∧ 0 ≤ gI σ_s_230 a 17 ∧ gI σ_s_230 a 17 ≤ gI σ_s_230 a 13 ∧ pgo (gI σ_s_230 a 19) (gI σ_s_230 a 14) (gI σ_s_222 a 13) (gI σ_s_230 a 13)) ∧ gI σ_s_230 a 28 = gI σ_s_222 a 28 := hw_229
            refine lv_istore_n (lv' := [(2, .int (I z_231)), (1, .int (I 1)), (0, .ref a)]) hx hb dX11_atom_68 rfl hl (by decide) rfl (fun ls hl => ?_)
            refine lv_aload_n hx hb dX11_atom_69 rfl (lv_at hl 2 rfl) ?_
            refine lv_dup hx hb dX11_atom_70 rfl ?_
            refine ok.getI hO h_a (by decide) k13_28 (fun _ _ he hv kk => th_get (ci := 11) (C := RX11) (T := TX11) (N := 66) hx hb hts inX11 hown hK hH he rfl 28 (by decide) fl0 hv dX11_atom_71 kk) (fun z_235 e_236 rz_235 lz_235 uz_235 => ?_)
            refine lv_iconst (v := I 1) hx hb dX11_atom_74 (by decide) ?_
            refine lv_isub hx hb dX11_atom_75 ?_
            refine th_subo (fun z_237 rz_237 hz_237 => ?_)
            refine ok.putJ hO h_a k13_28 rz_237 (by omega) (by omega) (fun _ he hl9 kk => th_put (ci := 11) (v := .int (I z_237)) (ty := .int) (C := RX11) (T := TX11) (N := 66) hx hb hts inX11 tyX11 tyX11_ok nmX11 hown hK hH hS h00 he rfl 28 (by decide) fl0 rfl (by decide +kernel) rfl rfl hl9 dX11_atom_76 kk) (fun σ_s_238 H locs hO hF9 hM9 hg9 ha9 hH hS => ?_)
            replace hM := hM.tu hM9 (by decide)
            replace hF := hF.tu hF9 (by decide)
            have e_239 : aF σ_s_238 (ad E a 1) = f1 := (hM9.a (by decide) (by decide)).trans e_232
            have e_240 : gI σ_s_238 a 11 = a110 := (hM9.i (by decide)).trans e_233
            have e_241 : gI σ_s_238 a 30 = a300 := (hM9.i (by decide)).trans e_234
            replace hsr := hsr.mv hM9 (by decide) (by decide) (by decide) (by decide) (by decide)
            have e_242 := hg9
            refine lv_iload_n hx hb dX11_atom_79 rfl (lv_at hl 0 rfl) ?_
            refine lv_if_ne (tgt := 87) hx hb dX11_atom_80 (by decide) (fun c_243 => ?_) (fun c_243 => ?_)
            · replace c_243 := mt (I_eq (a := z_231) (b := 0) rz_231 (show rng 0 from ⟨by decide, by decide⟩)).mpr c_243
              refine lv_iconst (v := I 0) hx hb dX11_atom_87 (by decide) ?_
              exact th_zret hx hb hr hlocks hH hS (z := 0) (by omega) ⟨hO, hF, hM, ⟨by omega, by omega⟩, ⟨⟨by omega, hw_229.1.2.is (by first | (dsimp only; omega) | omega) (by first | (dsimp only; omega) | omega) (by first | (dsimp only; omega) | omega) (by first | (dsimp only; omega) | omega)⟩, by omega⟩⟩ dX11_atom_88
            · replace c_243 := (I_eq (a := z_231) (b := 0) rz_231 (show rng 0 from ⟨by decide, by decide⟩)).mp c_243
              refine lv_iconst (v := I 1) hx hb dX11_atom_83 (by decide) ?_
              refine lv_goto (tgt := 88) hx hb dX11_atom_84 (by decide) ?_
              exact th_zret hx hb hr hlocks hH hS (z := 1) (by omega) ⟨hO, hF, hM, ⟨by omega, by omega⟩, ⟨⟨by omega, hw_229.1.2.is (by first | (dsimp only; omega) | omega) (by first | (dsimp only; omega) | omega) (by first | (dsimp only; omega) | omega) (by first | (dsimp only; omega) | omega)⟩, by omega⟩⟩ dX11_atom_88
        · replace c_152 := (I_eq (a := a280) (b := 5) ra280 (show rng 5 from ⟨by decide, by decide⟩)).mp c_152
          refine lv_aload_n hx hb dX11_atom_36 rfl (lv_at hl 1 rfl) ?_
          refine lv_iconst (v := I 2) hx hb dX11_atom_37 (by decide) ?_
          obtain ⟨_, hc_244⟩ := hO.cell h_a (by decide) (ci := 11) rfl
          refine th_callv (va_runV (As := [.int (I 2)]) (rest := []) ⟨hx, hb, hml, hown, hts⟩ (m_wrong l G y b0 σ E hO a h_a 2 (show rng 2 from (show rng 2 from ⟨by decide, by decide⟩)) (by omega) (by omega)) (cwV 1 hts gX11_atom_X11_wrong rfl rfl rfl (by decide +kernel) ⟨(by first | (simp only [headSpec]; omega) | omega | (dsimp only; omega)), (by first | (simp only [headSpec]; omega) | omega | (dsimp only; omega))⟩) (th_PV hK hH rfl hc_244) rfl rfl hl.1 rfl (lv_room (Nat.le_of_ble_eq_true rfl)) dX11_atom_38 ⟨(by first | (simp only [headSpec]; omega) | omega | (dsimp only; omega)), (by first | (simp only [headSpec]; omega) | omega | (dsimp only; omega))⟩) hS (fun σ_s_246 H locs hw_245 hH hS => ?_)
          obtain ⟨hO9, hF9, hM9, hw_245⟩ := hw_245
          replace hM := hM.tu hM9 (by decide)
          replace hF := hF.tu hF9 (by decide)
          have e_247 : aF σ_s_246 (ad E a 1) = f1 := (hM9.a (by decide) (by decide)).trans ef1
          have e_248 : gI σ_s_246 a 11 = a110 := (hM9.i (by decide)).trans ea110
          have e_249 : gI σ_s_246 a 13 = a130 := (hM9.i (by decide)).trans ea130
          have e_250 : gI σ_s_246 a 14 = a140 := (hM9.i (by decide)).trans ea140
          have e_251 : gI σ_s_246 a 17 = a170 := (hM9.i (by decide)).trans ea170
          have e_252 : gI σ_s_246 a 28 = a280 := (hM9.i (by decide)).trans ea280
          have e_253 : gI σ_s_246 a 30 = a300 := (hM9.i (by decide)).trans ea300
          replace hsr := hsr.mv hM9 (by decide) (by decide) (by decide) (by decide) (by decide)
          replace hO := hO9
          have hw_245 : ¬ gI σ_s_246 a 19 = 0 ∧ (gI σ a 19 = 0 ∨ gI σ_s_246 a 19 = gI σ a 19) := hw_245
          refine lv_aload_n hx hb dX11_atom_41 rfl (lv_at hl 1 rfl) ?_
          refine lv_bipush (v := I 33) hx hb dX11_atom_42 (by decide) ?_
          obtain ⟨_, hc_254⟩ := hO.cell h_a (by decide) (ci := 11) rfl
          refine th_calli (va_runV (As := [.int (I 33)]) (rest := []) ⟨hx, hb, hml, hown, hts⟩ (m_isMarkedX l G y b0 σ_s_246 E hO a h_a 33 (show rng 33 from (show rng 33 from ⟨by decide, by decide⟩)) Bf hsr (by omega)) (cwV 1 hts gX11_atom_X11_isMarked rfl rfl rfl (by decide +kernel) ⟨(by first | (simp only [headSpec]; omega) | omega | (dsimp only; omega)), (by first | (simp only [headSpec]; omega) | omega | (dsimp only; omega))⟩) (th_PV hK hH rfl hc_254) rfl rfl hl.1 rfl (lv_room (Nat.le_of_ble_eq_true rfl)) dX11_atom_44 ⟨(by first | (simp only [headSpec]; omega) | omega | (dsimp only; omega)), (by first | (simp only [headSpec]; omega) | omega | (dsimp only; omega))⟩) hS (fun z_257 σ_s_256 H locs rz_257 hw_255 hH hS => ?_)
          obtain ⟨e9, bhw_255, hw_255⟩ := hw_255
          replace e9 := e9.symm
          subst e9
          have hw_255 : (z_257 = 1 ∧ mkd (gI σ_s_246 a 19) (gI σ_s_246 a 14) (Bf (gI σ_s_246 a 17)) 33) ∨ (z_257 = 0 ∧ ¬ mkd (gI σ_s_246 a 19) (gI σ_s_246 a 14) (Bf (gI σ_s_246 a 17)) 33) := hw_255
          refine lv_if_eq (tgt := 89) hx hb dX11_atom_47 (by decide) (fun c_258 => ?_) (fun c_258 => ?_)
          · replace c_258 := (I_eq (a := z_257) (b := 0) rz_257 (show rng 0 from ⟨by decide, by decide⟩)).mp c_258
            replace hw_255 := (hw_255.resolve_left (fun h9 => absurd h9.1 (by omega))).2
            refine lv_aload_n hx hb dX11_atom_89 rfl (lv_at hl 1 rfl) ?_
            refine lv_bipush (v := I 40) hx hb dX11_atom_90 (by decide) ?_
            obtain ⟨_, hc_259⟩ := hO.cell h_a (by decide) (ci := 11) rfl
            refine th_calli (va_runV (As := [.int (I 40)]) (rest := []) ⟨hx, hb, hml, hown, hts⟩ (m_isMarkedX l G y b0 σ_s_246 E hO a h_a 40 (show rng 40 from (show rng 40 from ⟨by decide, by decide⟩)) Bf hsr (by omega)) (cwV 1 hts gX11_atom_X11_isMarked rfl rfl rfl (by decide +kernel) ⟨(by first | (simp only [headSpec]; omega) | omega | (dsimp only; omega)), (by first | (simp only [headSpec]; omega) | omega | (dsimp only; omega))⟩) (th_PV hK hH rfl hc_259) rfl rfl hl.1 rfl (lv_room (Nat.le_of_ble_eq_true rfl)) dX11_atom_92 ⟨(by first | (simp only [headSpec]; omega) | omega | (dsimp only; omega)), (by first | (simp only [headSpec]; omega) | omega | (dsimp only; omega))⟩) hS (fun z_262 σ_s_261 H locs rz_262 hw_260 hH hS => ?_)
            obtain ⟨e9, bhw_260, hw_260⟩ := hw_260
            replace e9 := e9.symm
            subst e9
            have hw_260 : (z_262 = 1 ∧ mkd (gI σ_s_246 a 19) (gI σ_s_246 a 14) (Bf (gI σ_s_246 a 17)) 40) ∨ (z_262 = 0 ∧ ¬ mkd (gI σ_s_246 a 19) (gI σ_s_246 a 14) (Bf (gI σ_s_246 a 17)) 40) := hw_260
            refine lv_if_eq (tgt := 135) hx hb dX11_atom_95 (by decide) (fun c_263 => ?_) (fun c_263 => ?_)
            · replace c_263 := (I_eq (a := z_262) (b := 0) rz_262 (show rng 0 from ⟨by decide, by decide⟩)).mp c_263
              replace hw_260 := (hw_260.resolve_left (fun h9 => absurd h9.1 (by omega))).2
              refine lv_aload_n hx hb dX11_atom_135 rfl (lv_at hl 1 rfl) ?_
              obtain ⟨_, hc_264⟩ := hO.cell h_a (by decide) (ci := 11) rfl
              refine th_calli (va_runV (As := []) (rest := []) ⟨hx, hb, hml, hown, hts⟩ (m_little l G y b0 σ_s_246 E hO a h_a f1 e_247 Bf hsr (hy0) (by omega) (by omega) (by omega)) (cwV 0 hts gX11_atom_X11_little rfl rfl rfl (by decide +kernel) ⟨(by first | (simp only [headSpec]; omega) | omega | (dsimp only; omega)), (by first | (simp only [headSpec]; omega) | omega | (dsimp only; omega))⟩) (th_PV hK hH rfl hc_264) rfl rfl hl.1 rfl (lv_room (Nat.le_of_ble_eq_true rfl)) dX11_atom_136 ⟨(by first | (simp only [headSpec]; omega) | omega | (dsimp only; omega)), (by first | (simp only [headSpec]; omega) | omega | (dsimp only; omega))⟩) hS (fun z_267 σ_s_266 H locs rz_267 hw_265 hH hS => ?_)
              obtain ⟨hO9, hF9, hM9, bhw_265, hw_265⟩ := hw_265
              replace hM := hM.tu hM9 (by decide)
              replace hF := hF.tu hF9 (by decide)
              have e_268 : aF σ_s_266 (ad E a 1) = f1 := (hM9.a (by decide) (by decide)).trans e_247
              have e_269 : gI σ_s_266 a 11 = a110 := (hM9.i (by decide)).trans e_248
              have e_270 : gI σ_s_266 a 28 = a280 := (hM9.i (by decide)).trans e_252
              have e_271 : gI σ_s_266 a 30 = a300 := (hM9.i (by decide)).trans e_253
              replace hsr := hsr.mv hM9 (by decide) (by decide) (by decide) (by decide) (by decide)
              replace hO := hO9
              have hw_265 : gI σ_s_246 a 13 ≤ gI σ_s_266 a 13 ∧ gI σ_s_266 a 13 ≤ gI σ_s_246 a 11 ∧ 0 ≤ gI σ_s_266 a 17 ∧ gI σ_s_266 a 17 ≤ gI σ_s_266 a 13 ∧ pgo (gI σ_s_266 a 19) (gI σ_s_266 a 14) (gI σ_s_246 a 13) (gI σ_s_266 a 13) := hw_265
              exact th_zret hx hb hr hlocks hH hS (z := z_267) (by omega) ⟨hO, hF, hM, ⟨by omega, by omega⟩, ⟨⟨by omega, hw_265.2.is (by first | (dsimp only; omega) | omega) (by first | (dsimp only; omega) | omega) (by first | (dsimp only; omega) | omega) (by first | (dsimp only; omega) | omega)⟩, by omega⟩⟩ dX11_atom_139
            · replace c_263 := mt (I_eq (a := z_262) (b := 0) rz_262 (show rng 0 from ⟨by decide, by decide⟩)).mpr c_263
              replace hw_260 := (hw_260.resolve_right (fun h9 => absurd h9.1 (by omega))).2
              exact absurd hw_260.1 (by omega)
          · replace c_258 := mt (I_eq (a := z_257) (b := 0) rz_257 (show rng 0 from ⟨by decide, by decide⟩)).mpr c_258
            replace hw_255 := (hw_255.resolve_right (fun h9 => absurd h9.1 (by omega))).2
            exact absurd hw_255.1 (by omega)
