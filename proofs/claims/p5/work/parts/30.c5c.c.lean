set_option maxHeartbeats 4000000 in
set_option maxRecDepth 100000 in
theorem m_cut (l : Launch) (G : va_G) (y : Nat → ClassId) (b0 : Nat) (σ : th_M) (E : th_E) (hO : ok y E σ) (a : Nat) (h_a : kd E a = 13) (t : Int) (rt : rng t) (l_t : 1 ≤ t) (u_t : t ≤ 3999) (f3 : Nat → Int32) (ef3 : aF σ (ad E a 3) = f3) (hy0 : mT f3 0 (gI σ a 5)) (hy1 : t < gI σ a 5 ∧ gI σ a 5 ≤ 4000) : Met l yX11_cut wsX11_cut ({ frames := 1, cells := 0, slots := 0, locals := 25 }) (th_P G y b0 σ [.ref a, .int (I t)]) (th_Qv G b0 (fun σ1 => ok y E σ1 ∧ fr [13] E σ σ1 ∧ fm [3, 5] E σ σ1 a ∧ (cutr f3 (aF σ1 (ad E a 3)) t (mS f3 t) (gI σ a 5) ∧ gI σ1 a 5 = gI σ a 5 - mS f3 t))) 0 0 (th_A b0) := by
  refine Met.ofW (cc := cX11_cut) (maxL := 4) (ret := none) (by decide) rfl ?_
  intro p e s m args below meth c s₁ B hml hv
  obtain ⟨rfl, hH, hK⟩ := hv
  have hx := B.exec
  have hb := B.bytes
  have hr := B.returns
  have hts := atoms_spec (ws := wsX11_cut) B.pre
  have hown : s.vm.findClass RX11 = some m.cls := findClass_of_methodNamed B.named
  have hlocks := B.notSynchronized
  have h00 : b0 ≤ s.heap.size := hH.1
  have hS : va_S (th_A b0) s.heap s.heap [] := va_S.rf
  have hF : fr [13] E σ σ := fr.rf
  have hM : fm [3, 5] E σ σ a := fm.rf
  have inX11 : ∀ w ∈ wsX110, w ∈ wsX11_cut := by decide +kernel
  have fl0 := hts (.fieldLink RX11 16 "NestQueryModel" "made" "[I") (by decide +kernel)
  have fl1 := hts (.fieldLink RX11 353 "NestQueryModel" "madeMany" "I") (by decide +kernel)
  have hl := lv_entry ([.ref a, .int (I t)]) (n := 4) (Nat.le_of_ble_eq_true rfl)
  rw [lg_entry_eq]
  generalize (lg_sl ([.ref a, .int (I t)]) ++ List.replicate (4 - (lg_sl ([.ref a, .int (I t)])).length) Slot.unset).toArray = ls at hl ⊢
  have hl : lv_has ls 4 [(0, .ref a), (1, .int (I t))] := hl
  obtain ⟨a50, ea50, ra50, la50, ua50⟩ := hO.gi h_a (by decide) k13_5
  refine lv_aload_n hx hb dX11_cut_0 rfl (lv_at hl 0 rfl) ?_
  refine ok.getR hO h_a (by decide) k13_3 (by decide) (fun _ _ he hv kk => th_get (ci := 11) (C := RX11) (T := TX11) (N := 66) hx hb hts inX11 hown hK hH he rfl 3 (by decide) fl0 hv dX11_cut_1 kk) ?_
  refine lv_iload_n hx hb dX11_cut_4 rfl (lv_at hl 1 rfl) ?_
  refine th_calli (va_runS (As := [.ref (ad E a 3), .int (I t)]) (rest := []) ⟨hx, hb, hml, hown, hts⟩ (w_size l G y b0 σ E hO (ad E a 3) 16000 f3 (hO.roww h_a k13_3 isA1 ef3 rfl) t (show rng t from rt) (by omega) (by omega) (by omega)) (va_cwS 2 hts gX11_cut_X11_size rfl rfl rfl (by decide +kernel) ⟨Nat.le_of_ble_eq_true rfl, Nat.le_of_ble_eq_true rfl⟩) (th_PS hK hH) rfl rfl hl.1 rfl (lv_room (Nat.le_of_ble_eq_true rfl)) dX11_cut_5 ⟨Nat.le_of_ble_eq_true rfl, Nat.le_of_ble_eq_true rfl⟩) hS (fun z_3 σ_s_2 H locs rz_3 hw_1 hH hS => ?_)
  obtain ⟨e9, hw_1⟩ := hw_1
  replace e9 := e9.symm
  subst e9
  have hw_1 : z_3 = mS f3 t := hw_1
  refine lv_istore_n (lv' := [(2, .int (I z_3)), (0, .ref a), (1, .int (I t))]) hx hb dX11_cut_8 rfl hl (by decide) rfl (fun ls hl => ?_)
  have hk7 := hy0.1 t (by omega) (by omega)
  refine lv_iconst (v := I 0) hx hb dX11_cut_9 (by decide) ?_
  refine lv_istore_n (lv' := [(3, .int (I 0)), (2, .int (I z_3)), (0, .ref a), (1, .int (I t))]) hx hb dX11_cut_10 rfl hl (by decide) rfl (fun ls hl => ?_)
  refine th_loop (α := Int × (Nat → Int32)) (pc := 11) (fun x9 => (t - x9.1).toNat) (fun x9 σ9 H9 l9 ls9 => ok y E σ9 ∧ fr [13] E σ σ9 ∧ fm [3, 5] E σ σ9 a ∧ th_H G b0 σ9 H9 ∧ va_S (th_A b0) s.heap H9 l9 ∧ lv_has ls9 4 [(0, .ref a), (1, .int (I t)), (2, .int (I z_3)), (3, .int (I x9.1))] ∧ rng x9.1 ∧ (0 ≤ x9.1) ∧ (x9.1 ≤ t) ∧ (x9.1 ≤ 4000) ∧ (ct1 f3 x9.2 t (mS f3 t) x9.1) ∧ (gI σ9 a 5 = a50) ∧ (aF σ9 (ad E a 3) = x9.2)) ?_ (0, f3) σ _ _ _ ⟨hO, hF, hM, hH, hS, lv_sub hl [2, 3, 1, 0] rfl, (show rng 0 from ⟨by decide, by decide⟩), by first | (dsimp only; omega) | omega, by first | (dsimp only; omega) | omega, by first | (dsimp only; omega) | omega, ct1.zero, ea50, ef3⟩
  intro x9 σ_J_34 H locs ls hI9 ihJ_34
  obtain ⟨v3q33, F3q32⟩ := x9
  obtain ⟨hO, hF, hM, hH, hS, hl, rv3q33, J_34_0, J_34_1, J_34_2, J_34_3, J_34_4, J_34_5⟩ := hI9
  have hl : lv_has ls 4 [(0, .ref a), (1, .int (I t)), (2, .int (I z_3)), (3, .int (I v3q33))] := hl
  have rv3q33 : rng v3q33 := rv3q33
  have J_34_0 : 0 ≤ v3q33 := J_34_0
  have J_34_1 : v3q33 ≤ t := J_34_1
  have J_34_2 : v3q33 ≤ 4000 := J_34_2
  have J_34_3 : ct1 f3 F3q32 t (mS f3 t) v3q33 := J_34_3
  have J_34_4 : gI σ_J_34 a 5 = a50 := J_34_4
  have J_34_5 : aF σ_J_34 (ad E a 3) = F3q32 := J_34_5
  refine lv_iload_n hx hb dX11_cut_11 rfl (lv_at hl 3 rfl) ?_
  refine lv_iload_n hx hb dX11_cut_12 rfl (lv_at hl 1 rfl) ?_
  refine lv_icmp_ge (tgt := 50) hx hb dX11_cut_13 (by decide) (fun c_35 => ?_) (fun c_35 => ?_)
  · replace c_35 := (I_le (a := t) (b := v3q33) rt rv3q33).mp c_35
    refine lv_iconst (v := I 4) hx hb dX11_cut_50 (by decide) ?_
    refine lv_iload_n hx hb dX11_cut_51 rfl (lv_at hl 1 rfl) ?_
    refine lv_imul hx hb dX11_cut_52 ?_
    refine nq_top (I_mul _ _) ?_
    refine lv_istore_n (lv' := [(3, .int (I (4 * t))), (0, .ref a), (1, .int (I t)), (2, .int (I z_3))]) hx hb dX11_cut_53 rfl hl (by decide) rfl (fun ls hl => ?_)
    replace hl : lv_has ls 4 [(3, .int (I (4 * t))), (0, .ref a), (2, .int (I z_3))] := lv_sub hl [0, 1, 3] rfl
    refine th_loop (α := Int × (Nat → Int32)) (pc := 54) (fun x9 => (4 * (gI σ a 5 - mS f3 t) - x9.1).toNat) (fun x9 σ9 H9 l9 ls9 => ok y E σ9 ∧ fr [13] E σ σ9 ∧ fm [3, 5] E σ σ9 a ∧ th_H G b0 σ9 H9 ∧ va_S (th_A b0) s.heap H9 l9 ∧ lv_has ls9 4 [(0, .ref a), (2, .int (I z_3)), (3, .int (I x9.1))] ∧ rng x9.1 ∧ (4 * t ≤ x9.1) ∧ (0 ≤ x9.1) ∧ (x9.1 ≤ 16000) ∧ (x9.1 ≤ 4 * (gI σ a 5 - mS f3 t)) ∧ (ct2 F3q32 x9.2 t (mS f3 t) x9.1) ∧ (gI σ9 a 5 = a50) ∧ (aF σ9 (ad E a 3) = x9.2)) ?_ (4 * t, F3q32) σ_J_34 _ _ _ ⟨hO, hF, hM, hH, hS, lv_sub hl [1, 2, 0] rfl, ⟨by first | (dsimp only; omega) | omega, by first | (dsimp only; omega) | omega⟩, by first | (dsimp only; omega) | omega, by first | (dsimp only; omega) | omega, by first | (dsimp only; omega) | omega, by first | (dsimp only; omega) | omega, (ct2.zero (by first | (dsimp only; omega) | omega)), J_34_4, J_34_5⟩
    intro x9 σ_J_56 H locs ls hI9 ihJ_56
    obtain ⟨v3q55, F3q54⟩ := x9
    obtain ⟨hO, hF, hM, hH, hS, hl, rv3q55, J_56_0, J_56_1, J_56_2, J_56_3, J_56_4, J_56_5, J_56_6⟩ := hI9
    have hl : lv_has ls 4 [(0, .ref a), (2, .int (I z_3)), (3, .int (I v3q55))] := hl
    have rv3q55 : rng v3q55 := rv3q55
    have J_56_0 : 4 * t ≤ v3q55 := J_56_0
    have J_56_1 : 0 ≤ v3q55 := J_56_1
    have J_56_2 : v3q55 ≤ 16000 := J_56_2
    have J_56_3 : v3q55 ≤ 4 * (gI σ a 5 - mS f3 t) := J_56_3
    have J_56_4 : ct2 F3q32 F3q54 t (mS f3 t) v3q55 := J_56_4
    have J_56_5 : gI σ_J_56 a 5 = a50 := J_56_5
    have J_56_6 : aF σ_J_56 (ad E a 3) = F3q54 := J_56_6
    refine lv_iload_n hx hb dX11_cut_54 rfl (lv_at hl 2 rfl) ?_
    refine lv_iconst (v := I 4) hx hb dX11_cut_55 (by decide) ?_
    refine lv_aload_n hx hb dX11_cut_56 rfl (lv_at hl 0 rfl) ?_
    refine ok.getIc hO h_a (by decide) k13_5 J_56_5 (fun _ _ he hv kk => th_get (ci := 11) (C := RX11) (T := TX11) (N := 66) hx hb hts inX11 hown hK hH he rfl 5 (by decide) fl1 hv dX11_cut_57 kk) ?_
    refine lv_iload_n hx hb dX11_cut_60 rfl (lv_at hl 1 rfl) ?_
    refine lv_isub hx hb dX11_cut_61 ?_
    refine nq_top (I_sub _ _) ?_
    refine lv_imul hx hb dX11_cut_62 ?_
    refine nq_top (I_mul _ _) ?_
    refine lv_icmp_ge (tgt := 88) hx hb dX11_cut_63 (by decide) (fun c_57 => ?_) (fun c_57 => ?_)
    · replace c_57 := (I_le (a := 4 * (a50 - z_3)) (b := v3q55) ⟨by omega, by omega⟩ rv3q55).mp c_57
      refine lv_aload_n hx hb dX11_cut_88 rfl (lv_at hl 0 rfl) ?_
      refine lv_dup hx hb dX11_cut_89 rfl ?_
      refine ok.getIc hO h_a (by decide) k13_5 J_56_5 (fun _ _ he hv kk => th_get (ci := 11) (C := RX11) (T := TX11) (N := 66) hx hb hts inX11 hown hK hH he rfl 5 (by decide) fl1 hv dX11_cut_90 kk) ?_
      refine lv_iload_n hx hb dX11_cut_93 rfl (lv_at hl 1 rfl) ?_
      refine lv_isub hx hb dX11_cut_94 ?_
      refine th_subo (fun z_58 rz_58 hz_58 => ?_)
      refine ok.putJ hO h_a k13_5 rz_58 (by omega) (by omega) (fun _ he hl9 kk => th_put (ci := 11) (v := .int (I z_58)) (ty := .int) (C := RX11) (T := TX11) (N := 66) hx hb hts inX11 tyX11 tyX11_ok nmX11 hown hK hH hS h00 he rfl 5 (by decide) fl1 rfl (by decide +kernel) rfl rfl hl9 dX11_cut_95 kk) (fun σ_s_59 H locs hO hF9 hM9 hg9 ha9 hH hS => ?_)
      replace hM := hM.tu hM9 (by decide)
      replace hF := hF.tu hF9 (by decide)
      have e_60 : aF σ_s_59 (ad E a 3) = F3q54 := (hM9.a (by decide) (by decide)).trans J_56_6
      have e_61 := hg9
      exact th_vret hx hb hr hlocks hH hS ⟨hO, hF, hM, by rw [show aF σ_s_59 (ad E a 3) = F3q54 from e_60]; exact ⟨cut_fin (J_34_3.to (by omega)) J_56_4 (by omega) (by omega) (by omega), by omega⟩⟩ dX11_cut_98
    · replace c_57 := mt (I_le (a := 4 * (a50 - z_3)) (b := v3q55) ⟨by omega, by omega⟩ rv3q55).mpr c_57
      refine lv_aload_n hx hb dX11_cut_66 rfl (lv_at hl 0 rfl) ?_
      refine ok.getR hO h_a (by decide) k13_3 (by decide) (fun _ _ he hv kk => th_get (ci := 11) (C := RX11) (T := TX11) (N := 66) hx hb hts inX11 hown hK hH he rfl 3 (by decide) fl0 hv dX11_cut_67 kk) ?_
      refine lv_iload_n hx hb dX11_cut_70 rfl (lv_at hl 2 rfl) ?_
      refine lv_aload_n hx hb dX11_cut_71 rfl (lv_at hl 0 rfl) ?_
      refine ok.getR hO h_a (by decide) k13_3 (by decide) (fun _ _ he hv kk => th_get (ci := 11) (C := RX11) (T := TX11) (N := 66) hx hb hts inX11 hown hK hH he rfl 3 (by decide) fl0 hv dX11_cut_72 kk) ?_
      refine lv_iload_n hx hb dX11_cut_75 rfl (lv_at hl 2 rfl) ?_
      refine lv_iconst (v := I 4) hx hb dX11_cut_76 (by decide) ?_
      refine lv_iload_n hx hb dX11_cut_77 rfl (lv_at hl 1 rfl) ?_
      refine lv_imul hx hb dX11_cut_78 ?_
      refine nq_top (I_mul _ _) ?_
      refine lv_iadd hx hb dX11_cut_79 ?_
      refine nq_top (I_add _ _) ?_
      refine m_iald hx hb hK hH hO h_a k13_3 isA1 J_56_6 ⟨by omega, by omega⟩ (by omega) (by omega) dX11_cut_80 (fun z_62 ez_62 rz_62 elx9 => ?_)
      refine m_iast hx hb hK hH hS h00 hO h_a k13_3 isA1 (by decide) J_56_6 rv3q55 (by omega) (by omega) rz_62 el1 dX11_cut_81 (fun σ_s_63 H locs hO hF9 hM9 ha9 hH hS => ?_)
      replace hM := hM.tu hM9 (by decide)
      replace hF := hF.tu hF9 (by decide)
      have e_64 : gI σ_s_63 a 5 = a50 := (hM9.i (by decide)).trans J_56_5
      obtain ⟨g_65, dg_65⟩ : ∃ g9, g9 = upd F3q54 (v3q55).toNat (I z_62) := ⟨_, rfl⟩
      rw [← dg_65] at ha9
      have ef_66 := ha9
      refine lv_iinc (v := I (v3q55 + 1)) (lv' := [(3, .int (I (v3q55 + 1))), (0, .ref a), (2, .int (I z_3))]) hx hb dX11_cut_82 hl (k := 2) rfl (I_add _ _) (by decide) rfl (fun ls hl => ?_)
      refine lv_goto (tgt := 54) hx hb dX11_cut_85 (by decide) ?_
      exact ihJ_56 (v3q55 + 1, g_65) σ_s_63 _ _ _ (by first | (dsimp only; omega) | omega) ⟨hO, hF, hM, hH, hS, lv_sub hl [1, 2, 0] rfl, ⟨by first | (dsimp only; omega) | omega, by first | (dsimp only; omega) | omega⟩, by first | (dsimp only; omega) | omega, by first | (dsimp only; omega) | omega, by first | (dsimp only; omega) | omega, by first | (dsimp only; omega) | omega, (J_56_4.step (by first | (dsimp only; omega) | omega) (by first | (dsimp only; omega) | omega) (by first | (dsimp only; omega) | omega) dg_65 (by first | (dsimp only; omega) | omega) ez_62 (by first | (dsimp only; omega) | omega)), e_64, ef_66⟩
  · replace c_35 := mt (I_le (a := t) (b := v3q33) rt rv3q33).mpr c_35
    refine lv_iload_n hx hb dX11_cut_16 rfl (lv_at hl 3 rfl) ?_
    refine lv_aload_n hx hb dX11_cut_17 rfl (lv_at hl 0 rfl) ?_
    refine ok.getR hO h_a (by decide) k13_3 (by decide) (fun _ _ he hv kk => th_get (ci := 11) (C := RX11) (T := TX11) (N := 66) hx hb hts inX11 hown hK hH he rfl 3 (by decide) fl0 hv dX11_cut_18 kk) ?_
    refine lv_iload_n hx hb dX11_cut_21 rfl (lv_at hl 3 rfl) ?_
    refine th_calli (va_runS (As := [.ref (ad E a 3), .int (I v3q33)]) (rest := [.int (I v3q33)]) ⟨hx, hb, hml, hown, hts⟩ (w_size l G y b0 σ_J_34 E hO (ad E a 3) 16000 F3q32 (hO.roww h_a k13_3 isA1 J_34_5 rfl) v3q33 (show rng v3q33 from rv3q33) (by omega) (by omega) (by omega)) (va_cwS 2 hts gX11_cut_X11_size rfl rfl rfl (by decide +kernel) ⟨Nat.le_of_ble_eq_true rfl, Nat.le_of_ble_eq_true rfl⟩) (th_PS hK hH) rfl rfl hl.1 rfl (lv_room (Nat.le_of_ble_eq_true rfl)) dX11_cut_22 ⟨Nat.le_of_ble_eq_true rfl, Nat.le_of_ble_eq_true rfl⟩) hS (fun z_69 σ_s_68 H locs rz_69 hw_67 hH hS => ?_)
    obtain ⟨e9, hw_67⟩ := hw_67
    replace e9 := e9.symm
    subst e9
    have hw_67 : z_69 = mS F3q32 v3q33 := hw_67
    have hn9 := J_34_3.now (by omega)
    have hk9 := hy0.1 v3q33 (by omega) (by omega)
    refine lv_iadd hx hb dX11_cut_25 ?_
    refine th_addo (fun z_70 rz_70 hz_70 => ?_)
    refine lv_iload_n hx hb dX11_cut_26 rfl (lv_at hl 1 rfl) ?_
    refine lv_icmp_le (tgt := 44) hx hb dX11_cut_27 (by decide) (fun c_71 => ?_) (fun c_71 => ?_)
    · replace c_71 := (I_le (a := z_70) (b := t) rz_70 rt).mp c_71
      refine lv_iinc (v := I (v3q33 + 1)) (lv' := [(3, .int (I (v3q33 + 1))), (0, .ref a), (1, .int (I t)), (2, .int (I z_3))]) hx hb dX11_cut_44 hl (k := 3) rfl (I_add _ _) (by decide) rfl (fun ls hl => ?_)
      refine lv_goto (tgt := 11) hx hb dX11_cut_47 (by decide) ?_
      exact ihJ_34 (v3q33 + 1, F3q32) σ_J_34 _ _ _ (by first | (dsimp only; omega) | omega) ⟨hO, hF, hM, hH, hS, lv_sub hl [1, 2, 3, 0] rfl, ⟨by first | (dsimp only; omega) | omega, by first | (dsimp only; omega) | omega⟩, by first | (dsimp only; omega) | omega, by first | (dsimp only; omega) | omega, by first | (dsimp only; omega) | omega, (J_34_3.miss (by first | (dsimp only; omega) | omega)), J_34_4, J_34_5⟩
    · replace c_71 := mt (I_le (a := z_70) (b := t) rz_70 rt).mpr c_71
      refine lv_aload_n hx hb dX11_cut_30 rfl (lv_at hl 0 rfl) ?_
      refine ok.getR hO h_a (by decide) k13_3 (by decide) (fun _ _ he hv kk => th_get (ci := 11) (C := RX11) (T := TX11) (N := 66) hx hb hts inX11 hown hK hH he rfl 3 (by decide) fl0 hv dX11_cut_31 kk) ?_
      refine lv_iconst (v := I 4) hx hb dX11_cut_34 (by decide) ?_
      refine lv_iload_n hx hb dX11_cut_35 rfl (lv_at hl 3 rfl) ?_
      refine lv_imul hx hb dX11_cut_36 ?_
      refine nq_top (I_mul _ _) ?_
      refine lv_iconst (v := I 3) hx hb dX11_cut_37 (by decide) ?_
      refine lv_iadd hx hb dX11_cut_38 ?_
      refine nq_top (I_add _ _) ?_
      refine lv_dup2_11 hx hb dX11_cut_39 rfl rfl ?_
      refine m_iald hx hb hK hH hO h_a k13_3 isA1 J_34_5 ⟨by omega, by omega⟩ (by omega) (by omega) dX11_cut_40 (fun z_72 ez_72 rz_72 elx9 => ?_)
      have hS9 : mS F3q32 v3q33 = z_72 := ez_72
      refine lv_iload_n hx hb dX11_cut_41 rfl (lv_at hl 2 rfl) ?_
      refine lv_isub hx hb dX11_cut_42 ?_
      refine nq_top (I_sub _ _) ?_
      refine m_iast hx hb hK hH hS h00 hO h_a k13_3 isA1 (by decide) J_34_5 ⟨by omega, by omega⟩ (by omega) (by omega) ⟨by omega, by omega⟩ el1 dX11_cut_43 (fun σ_s_73 H locs hO hF9 hM9 ha9 hH hS => ?_)
      replace hM := hM.tu hM9 (by decide)
      replace hF := hF.tu hF9 (by decide)
      have e_74 : gI σ_s_73 a 5 = a50 := (hM9.i (by decide)).trans J_34_4
      obtain ⟨g_75, dg_75⟩ : ∃ g9, g9 = upd F3q32 (4 * v3q33 + 3).toNat (I (z_72 - z_3)) := ⟨_, rfl⟩
      rw [← dg_75] at ha9
      have ef_76 := ha9
      refine lv_iinc (v := I (v3q33 + 1)) (lv' := [(3, .int (I (v3q33 + 1))), (0, .ref a), (1, .int (I t)), (2, .int (I z_3))]) hx hb dX11_cut_44 hl (k := 3) rfl (I_add _ _) (by decide) rfl (fun ls hl => ?_)
      refine lv_goto (tgt := 11) hx hb dX11_cut_47 (by decide) ?_
      exact ihJ_34 (v3q33 + 1, g_75) σ_s_73 _ _ _ (by first | (dsimp only; omega) | omega) ⟨hO, hF, hM, hH, hS, lv_sub hl [1, 2, 3, 0] rfl, ⟨by first | (dsimp only; omega) | omega, by first | (dsimp only; omega) | omega⟩, by first | (dsimp only; omega) | omega, by first | (dsimp only; omega) | omega, by first | (dsimp only; omega) | omega, (J_34_3.hit (by first | (dsimp only; omega) | omega) (by first | (dsimp only; omega) | omega) dg_75 (by first | (dsimp only; omega) | omega) (by first | (dsimp only; omega) | omega) ⟨by omega, by omega⟩), e_74, ef_76⟩

set_option maxHeartbeats 4000000 in
set_option maxRecDepth 100000 in
theorem m_layInto (l : Launch) (G : va_G) (y : Nat → ClassId) (b0 : Nat) (σ : th_M) (E : th_E) (hO : ok y E σ) (a : Nat) (h_a : kd E a = 13) (q : Int) (rq : rng q) (l_q : 0 ≤ q) (u_q : q ≤ 3999) (pl : Int) (rpl : rng pl) (l_pl : 1 ≤ pl) (u_pl : pl ≤ 4000) (v : Int) (rv : rng v) (f3 : Nat → Int32) (ef3 : aF σ (ad E a 3) = f3) (f31 : Nat → Int32) (ef31 : aF σ (ad E a 31) = f31) (hy0 : mT f3 0 (gI σ a 5)) (hy1 : spot f3 q pl (gI σ a 5)) (hy2 : 1 ≤ mS f31 0 ∧ mS f31 0 ≤ 60) (hy3 : gI σ a 5 + mS f31 0 ≤ 4000) : Met l yX11_layInto wsX11_layInto ({ frames := 1, cells := 0, slots := 0, locals := 25 }) (th_P G y b0 σ [.ref a, .int (I q), .int (I pl), .int (I v)]) (th_Qv G b0 (fun σ1 => ok y E σ1 ∧ fr [13] E σ σ1 ∧ fm [3, 5] E σ σ1 a ∧ (layr f3 (aF σ1 (ad E a 3)) f31 q pl (mS f31 0) v (gI σ a 5) ∧ gI σ1 a 5 = gI σ a 5 + mS f31 0))) 0 0 (th_A b0) := by
  refine Met.ofW (cc := cX11_layInto) (maxL := 6) (ret := none) (by decide) rfl ?_
  intro p e s m args below meth c s₁ B hml hv
  obtain ⟨rfl, hH, hK⟩ := hv
  have hx := B.exec
  have hb := B.bytes
  have hr := B.returns
  have hts := atoms_spec (ws := wsX11_layInto) B.pre
  have hown : s.vm.findClass RX11 = some m.cls := findClass_of_methodNamed B.named
  have hlocks := B.notSynchronized
  have h00 : b0 ≤ s.heap.size := hH.1
  have hS : va_S (th_A b0) s.heap s.heap [] := va_S.rf
  have hF : fr [13] E σ σ := fr.rf
  have hM : fm [3, 5] E σ σ a := fm.rf
  have hs1 := hy1.2.1
  have hs2 := hy1.2.2.1
  have hs3 := hy1.2.2.2.1
  have hs4 := hy0.1.end (i := q) (by omega) (by omega)
  have inX11 : ∀ w ∈ wsX110, w ∈ wsX11_layInto := by decide +kernel
  have fl0 := hts (.fieldLink RX11 42 "NestQueryModel" "lifted" "[I") (by decide +kernel)
  have fl1 := hts (.fieldLink RX11 353 "NestQueryModel" "madeMany" "I") (by decide +kernel)
  have fl2 := hts (.fieldLink RX11 16 "NestQueryModel" "made" "[I") (by decide +kernel)
  have hl := lv_entry ([.ref a, .int (I q), .int (I pl), .int (I v)]) (n := 6) (Nat.le_of_ble_eq_true rfl)
  rw [lg_entry_eq]
  generalize (lg_sl ([.ref a, .int (I q), .int (I pl), .int (I v)]) ++ List.replicate (6 - (lg_sl ([.ref a, .int (I q), .int (I pl), .int (I v)])).length) Slot.unset).toArray = ls at hl ⊢
  have hl : lv_has ls 6 [(0, .ref a), (1, .int (I q)), (2, .int (I pl)), (3, .int (I v))] := hl
  obtain ⟨a50, ea50, ra50, la50, ua50⟩ := hO.gi h_a (by decide) k13_5
  refine lv_aload_n hx hb dX11_layInto_0 rfl (lv_at hl 0 rfl) ?_
  refine ok.getR hO h_a (by decide) k13_31 (by decide) (fun _ _ he hv kk => th_get (ci := 11) (C := RX11) (T := TX11) (N := 66) hx hb hts inX11 hown hK hH he rfl 31 (by decide) fl0 hv dX11_layInto_1 kk) ?_
  refine lv_iconst (v := I 0) hx hb dX11_layInto_4 (by decide) ?_
  refine th_calli (va_runS (As := [.ref (ad E a 31), .int (I 0)]) (rest := []) ⟨hx, hb, hml, hown, hts⟩ (w_size l G y b0 σ E hO (ad E a 31) 240 f31 (hO.roww h_a k13_31 isA1 ef31 rfl) 0 (show rng 0 from (show rng 0 from ⟨by decide, by decide⟩)) (by omega) (by omega) (by omega)) (va_cwS 2 hts gX11_layInto_X11_size rfl rfl rfl (by decide +kernel) ⟨Nat.le_of_ble_eq_true rfl, Nat.le_of_ble_eq_true rfl⟩) (th_PS hK hH) rfl rfl hl.1 rfl (lv_room (Nat.le_of_ble_eq_true rfl)) dX11_layInto_5 ⟨Nat.le_of_ble_eq_true rfl, Nat.le_of_ble_eq_true rfl⟩) hS (fun z_3 σ_s_2 H locs rz_3 hw_1 hH hS => ?_)
  obtain ⟨e9, hw_1⟩ := hw_1
  replace e9 := e9.symm
  subst e9
  have hw_1 : z_3 = mS f31 0 := hw_1
  refine lv_istore (lv' := [(4, .int (I z_3)), (0, .ref a), (1, .int (I q)), (2, .int (I pl)), (3, .int (I v))]) hx hb dX11_layInto_8 hl (by decide) rfl (fun ls hl => ?_)
  refine lv_iconst (v := I 4) hx hb dX11_layInto_10 (by decide) ?_
  refine lv_aload_n hx hb dX11_layInto_11 rfl (lv_at hl 1 rfl) ?_
  refine ok.getIc hO h_a (by decide) k13_5 ea50 (fun _ _ he hv kk => th_get (ci := 11) (C := RX11) (T := TX11) (N := 66) hx hb hts inX11 hown hK hH he rfl 5 (by decide) fl1 hv dX11_layInto_12 kk) ?_
  refine lv_imul hx hb dX11_layInto_15 ?_
  refine nq_top (I_mul _ _) ?_
  refine lv_iconst (v := I 1) hx hb dX11_layInto_16 (by decide) ?_
  refine lv_isub hx hb dX11_layInto_17 ?_
  refine nq_top (I_sub _ _) ?_
  refine lv_istore (lv' := [(5, .int (I (4 * a50 - 1))), (4, .int (I z_3)), (0, .ref a), (1, .int (I q)), (2, .int (I pl)), (3, .int (I v))]) hx hb dX11_layInto_18 hl (by decide) rfl (fun ls hl => ?_)
  refine th_loop (α := Int × (Nat → Int32)) (pc := 20) (fun x9 => (x9.1 + 1).toNat) (fun x9 σ9 H9 l9 ls9 => ok y E σ9 ∧ fr [13] E σ σ9 ∧ fm [3, 5] E σ σ9 a ∧ th_H G b0 σ9 H9 ∧ va_S (th_A b0) s.heap H9 l9 ∧ lv_has ls9 6 [(0, .ref a), (1, .int (I q)), (2, .int (I pl)), (3, .int (I v)), (4, .int (I z_3)), (5, .int (I x9.1))] ∧ rng x9.1 ∧ (4 * pl - 1 ≤ x9.1) ∧ (x9.1 < 4 * gI σ a 5) ∧ (-1 ≤ x9.1) ∧ (x9.1 ≤ 16000) ∧ (ly1 f3 x9.2 pl (mS f31 0) (gI σ a 5) x9.1) ∧ (gI σ9 a 5 = a50) ∧ (aF σ9 (ad E a 31) = f31) ∧ (aF σ9 (ad E a 3) = x9.2)) ?_ (4 * a50 - 1, f3) σ _ _ _ ⟨hO, hF, hM, hH, hS, lv_sub hl [2, 3, 4, 5, 1, 0] rfl, ⟨by first | (dsimp only; omega) | omega, by first | (dsimp only; omega) | omega⟩, by first | (dsimp only; omega) | omega, by first | (dsimp only; omega) | omega, by first | (dsimp only; omega) | omega, by first | (dsimp only; omega) | omega, (ly1.zero (by first | (dsimp only; omega) | omega)), ea50, ef31, ef3⟩
  intro x9 σ_J_28 H locs ls hI9 ihJ_28
  obtain ⟨v5q27, F3q26⟩ := x9
  obtain ⟨hO, hF, hM, hH, hS, hl, rv5q27, J_28_0, J_28_1, J_28_2, J_28_3, J_28_4, J_28_5, J_28_6, J_28_7⟩ := hI9
  have hl : lv_has ls 6 [(0, .ref a), (1, .int (I q)), (2, .int (I pl)), (3, .int (I v)), (4, .int (I z_3)), (5, .int (I v5q27))] := hl
  have rv5q27 : rng v5q27 := rv5q27
  have J_28_0 : 4 * pl - 1 ≤ v5q27 := J_28_0
  have J_28_1 : v5q27 < 4 * gI σ a 5 := J_28_1
  have J_28_2 : -1 ≤ v5q27 := J_28_2
  have J_28_3 : v5q27 ≤ 16000 := J_28_3
  have J_28_4 : ly1 f3 F3q26 pl (mS f31 0) (gI σ a 5) v5q27 := J_28_4
  have J_28_5 : gI σ_J_28 a 5 = a50 := J_28_5
  have J_28_6 : aF σ_J_28 (ad E a 31) = f31 := J_28_6
  have J_28_7 : aF σ_J_28 (ad E a 3) = F3q26 := J_28_7
  refine lv_iload hx hb dX11_layInto_20 (lv_at hl 5 rfl) ?_
  refine lv_iconst (v := I 4) hx hb dX11_layInto_22 (by decide) ?_
  refine lv_iload_n hx hb dX11_layInto_23 rfl (lv_at hl 2 rfl) ?_
  refine lv_imul hx hb dX11_layInto_24 ?_
  refine nq_top (I_mul _ _) ?_
  refine lv_icmp_lt (tgt := 53) hx hb dX11_layInto_25 (by decide) (fun c_29 => ?_) (fun c_29 => ?_)
  · replace c_29 := (I_lt (a := v5q27) (b := 4 * pl) rv5q27 ⟨by omega, by omega⟩).mp c_29
    refine lv_iconst (v := I 0) hx hb dX11_layInto_53 (by decide) ?_
    refine lv_istore (lv' := [(5, .int (I 0)), (0, .ref a), (1, .int (I q)), (2, .int (I pl)), (3, .int (I v)), (4, .int (I z_3))]) hx hb dX11_layInto_54 hl (by decide) rfl (fun ls hl => ?_)
    refine th_loop (α := Int × (Nat → Int32)) (pc := 56) (fun x9 => (4 * mS f31 0 - x9.1).toNat) (fun x9 σ9 H9 l9 ls9 => ok y E σ9 ∧ fr [13] E σ σ9 ∧ fm [3, 5] E σ σ9 a ∧ th_H G b0 σ9 H9 ∧ va_S (th_A b0) s.heap H9 l9 ∧ lv_has ls9 6 [(0, .ref a), (1, .int (I q)), (2, .int (I pl)), (3, .int (I v)), (4, .int (I z_3)), (5, .int (I x9.1))] ∧ rng x9.1 ∧ (0 ≤ x9.1) ∧ (x9.1 ≤ 240) ∧ (x9.1 ≤ 4 * mS f31 0) ∧ (ly2 f3 x9.2 f31 pl (mS f31 0) (gI σ a 5) x9.1) ∧ (gI σ9 a 5 = a50) ∧ (aF σ9 (ad E a 31) = f31) ∧ (aF σ9 (ad E a 3) = x9.2)) ?_ (0, F3q26) σ_J_28 _ _ _ ⟨hO, hF, hM, hH, hS, lv_sub hl [1, 2, 3, 4, 5, 0] rfl, (show rng 0 from ⟨by decide, by decide⟩), by first | (dsimp only; omega) | omega, by first | (dsimp only; omega) | omega, by first | (dsimp only; omega) | omega, (ly2.zero J_28_4 (by first | (dsimp only; omega) | omega)), J_28_5, J_28_6, J_28_7⟩
    intro x9 σ_J_52 H locs ls hI9 ihJ_52
    obtain ⟨v5q51, F3q50⟩ := x9
    obtain ⟨hO, hF, hM, hH, hS, hl, rv5q51, J_52_0, J_52_1, J_52_2, J_52_3, J_52_4, J_52_5, J_52_6⟩ := hI9
    have hl : lv_has ls 6 [(0, .ref a), (1, .int (I q)), (2, .int (I pl)), (3, .int (I v)), (4, .int (I z_3)), (5, .int (I v5q51))] := hl
    have rv5q51 : rng v5q51 := rv5q51
    have J_52_0 : 0 ≤ v5q51 := J_52_0
    have J_52_1 : v5q51 ≤ 240 := J_52_1
    have J_52_2 : v5q51 ≤ 4 * mS f31 0 := J_52_2
    have J_52_3 : ly2 f3 F3q50 f31 pl (mS f31 0) (gI σ a 5) v5q51 := J_52_3
    have J_52_4 : gI σ_J_52 a 5 = a50 := J_52_4
    have J_52_5 : aF σ_J_52 (ad E a 31) = f31 := J_52_5
    have J_52_6 : aF σ_J_52 (ad E a 3) = F3q50 := J_52_6
    refine lv_iload hx hb dX11_layInto_56 (lv_at hl 5 rfl) ?_
    refine lv_iconst (v := I 4) hx hb dX11_layInto_58 (by decide) ?_
    refine lv_iload hx hb dX11_layInto_59 (lv_at hl 4 rfl) ?_
    refine lv_imul hx hb dX11_layInto_61 ?_
    refine nq_top (I_mul _ _) ?_
    refine lv_icmp_ge (tgt := 89) hx hb dX11_layInto_62 (by decide) (fun c_53 => ?_) (fun c_53 => ?_)
    · replace c_53 := (I_le (a := 4 * z_3) (b := v5q51) ⟨by omega, by omega⟩ rv5q51).mp c_53
      refine lv_aload_n hx hb dX11_layInto_89 rfl (lv_at hl 0 rfl) ?_
      refine ok.getR hO h_a (by decide) k13_3 (by decide) (fun _ _ he hv kk => th_get (ci := 11) (C := RX11) (T := TX11) (N := 66) hx hb hts inX11 hown hK hH he rfl 3 (by decide) fl2 hv dX11_layInto_90 kk) ?_
      refine lv_iconst (v := I 4) hx hb dX11_layInto_93 (by decide) ?_
      refine lv_iload_n hx hb dX11_layInto_94 rfl (lv_at hl 2 rfl) ?_
      refine lv_imul hx hb dX11_layInto_95 ?_
      refine nq_top (I_mul _ _) ?_
      refine lv_iconst (v := I 2) hx hb dX11_layInto_96 (by decide) ?_
      refine lv_iadd hx hb dX11_layInto_97 ?_
      refine nq_top (I_add _ _) ?_
      refine lv_iload_n hx hb dX11_layInto_98 rfl (lv_at hl 3 rfl) ?_
      refine m_iast hx hb hK hH hS h00 hO h_a k13_3 isA1 (by decide) J_52_6 ⟨by omega, by omega⟩ (by omega) (by omega) rv el1 dX11_layInto_99 (fun σ_s_54 H locs hO hF9 hM9 ha9 hH hS => ?_)
      replace hM := hM.tu hM9 (by decide)
      replace hF := hF.tu hF9 (by decide)
      have e_55 : gI σ_s_54 a 5 = a50 := (hM9.i (by decide)).trans J_52_4
      have e_56 : aF σ_s_54 (ad E a 31) = f31 := (hM9.a (by decide) (by decide)).trans J_52_5
      obtain ⟨g_57, dg_57⟩ : ∃ g9, g9 = upd F3q50 (4 * pl + 2).toNat (I v) := ⟨_, rfl⟩
      rw [← dg_57] at ha9
      have ef_58 := ha9
      refine lv_aload_n hx hb dX11_layInto_100 rfl (lv_at hl 0 rfl) ?_
      refine lv_dup hx hb dX11_layInto_101 rfl ?_
      refine ok.getIc hO h_a (by decide) k13_5 e_55 (fun _ _ he hv kk => th_get (ci := 11) (C := RX11) (T := TX11) (N := 66) hx hb hts inX11 hown hK hH he rfl 5 (by decide) fl1 hv dX11_layInto_102 kk) ?_
      refine lv_iload hx hb dX11_layInto_105 (lv_at hl 4 rfl) ?_
      refine lv_iadd hx hb dX11_layInto_107 ?_
      refine nq_top (I_add _ _) ?_
      refine ok.putJ hO h_a k13_5 ⟨by omega, by omega⟩ (by omega) (by omega) (fun _ he hl9 kk => th_put (ci := 11) (v := .int (I (a50 + z_3))) (ty := .int) (C := RX11) (T := TX11) (N := 66) hx hb hts inX11 tyX11 tyX11_ok nmX11 hown hK hH hS h00 he rfl 5 (by decide) fl1 rfl (by decide +kernel) rfl rfl hl9 dX11_layInto_108 kk) (fun σ_s_59 H locs hO hF9 hM9 hg9 ha9 hH hS => ?_)
      replace hM := hM.tu hM9 (by decide)
      replace hF := hF.tu hF9 (by decide)
      have e_60 : aF σ_s_59 (ad E a 31) = f31 := (hM9.a (by decide) (by decide)).trans e_56
      have e_61 : aF σ_s_59 (ad E a 3) = g_57 := (hM9.a (by decide) (by decide)).trans ef_58
      have e_62 := hg9
      refine lv_iconst (v := I 0) hx hb dX11_layInto_111 (by decide) ?_
      refine lv_istore (lv' := [(5, .int (I 0)), (0, .ref a), (1, .int (I q)), (2, .int (I pl)), (3, .int (I v)), (4, .int (I z_3))]) hx hb dX11_layInto_112 hl (by decide) rfl (fun ls hl => ?_)
      replace hl : lv_has ls 6 [(5, .int (I 0)), (0, .ref a), (1, .int (I q)), (4, .int (I z_3))] := lv_sub hl [0, 1, 2, 5] rfl
      refine th_loop (α := Int × (Nat → Int32)) (pc := 114) (fun x9 => (q + 1 - x9.1).toNat) (fun x9 σ9 H9 l9 ls9 => ok y E σ9 ∧ fr [13] E σ σ9 ∧ fm [3, 5] E σ σ9 a ∧ th_H G b0 σ9 H9 ∧ va_S (th_A b0) s.heap H9 l9 ∧ lv_has ls9 6 [(0, .ref a), (1, .int (I q)), (4, .int (I z_3)), (5, .int (I x9.1))] ∧ rng x9.1 ∧ (0 ≤ x9.1) ∧ (x9.1 ≤ q + 1) ∧ (x9.1 ≤ 4000) ∧ (ly3 f3 x9.2 f31 q pl (mS f31 0) v (gI σ a 5) x9.1) ∧ (gI σ9 a 5 = a50 + z_3) ∧ (aF σ9 (ad E a 31) = f31) ∧ (aF σ9 (ad E a 3) = x9.2)) ?_ (0, g_57) σ_s_59 _ _ _ ⟨hO, hF, hM, hH, hS, lv_sub hl [1, 2, 3, 0] rfl, (show rng 0 from ⟨by decide, by decide⟩), by first | (dsimp only; omega) | omega, by first | (dsimp only; omega) | omega, by first | (dsimp only; omega) | omega, (ly3.zero J_52_3 (by first | (dsimp only; omega) | omega) (by first | (dsimp only; omega) | omega) (by first | (dsimp only; omega) | omega) (by first | (dsimp only; omega) | omega) dg_57 (by first | (dsimp only; omega) | omega) rv), e_62, e_60, e_61⟩
      intro x9 σ_J_95 H locs ls hI9 ihJ_95
      obtain ⟨v5q94, F3q93⟩ := x9
      obtain ⟨hO, hF, hM, hH, hS, hl, rv5q94, J_95_0, J_95_1, J_95_2, J_95_3, J_95_4, J_95_5, J_95_6⟩ := hI9
      have hl : lv_has ls 6 [(0, .ref a), (1, .int (I q)), (4, .int (I z_3)), (5, .int (I v5q94))] := hl
      have rv5q94 : rng v5q94 := rv5q94
      have J_95_0 : 0 ≤ v5q94 := J_95_0
      have J_95_1 : v5q94 ≤ q + 1 := J_95_1
      have J_95_2 : v5q94 ≤ 4000 := J_95_2
      have J_95_3 : ly3 f3 F3q93 f31 q pl (mS f31 0) v (gI σ a 5) v5q94 := J_95_3
      have J_95_4 : gI σ_J_95 a 5 = a50 + z_3 := J_95_4
      have J_95_5 : aF σ_J_95 (ad E a 31) = f31 := J_95_5
      have J_95_6 : aF σ_J_95 (ad E a 3) = F3q93 := J_95_6
      refine lv_iload hx hb dX11_layInto_114 (lv_at hl 3 rfl) ?_
      refine lv_iload_n hx hb dX11_layInto_116 rfl (lv_at hl 1 rfl) ?_
      refine lv_icmp_gt (tgt := 158) hx hb dX11_layInto_117 (by decide) (fun c_96 => ?_) (fun c_96 => ?_)
      · replace c_96 := (I_lt (a := q) (b := v5q94) rq rv5q94).mp c_96
        exact th_vret hx hb hr hlocks hH hS ⟨hO, hF, hM, by rw [show aF σ_J_95 (ad E a 3) = F3q93 from J_95_6]; exact ⟨J_95_3.fin (by omega), by omega⟩⟩ dX11_layInto_158
      · replace c_96 := mt (I_lt (a := q) (b := v5q94) rq rv5q94).mpr c_96
        refine lv_iload hx hb dX11_layInto_120 (lv_at hl 3 rfl) ?_
        refine lv_aload_n hx hb dX11_layInto_122 rfl (lv_at hl 0 rfl) ?_
        refine ok.getR hO h_a (by decide) k13_3 (by decide) (fun _ _ he hv kk => th_get (ci := 11) (C := RX11) (T := TX11) (N := 66) hx hb hts inX11 hown hK hH he rfl 3 (by decide) fl2 hv dX11_layInto_123 kk) ?_
        refine lv_iload hx hb dX11_layInto_126 (lv_at hl 3 rfl) ?_
        refine th_calli (va_runS (As := [.ref (ad E a 3), .int (I v5q94)]) (rest := [.int (I v5q94)]) ⟨hx, hb, hml, hown, hts⟩ (w_size l G y b0 σ_J_95 E hO (ad E a 3) 16000 F3q93 (hO.roww h_a k13_3 isA1 J_95_6 rfl) v5q94 (show rng v5q94 from rv5q94) (by omega) (by omega) (by omega)) (va_cwS 2 hts gX11_layInto_X11_size rfl rfl rfl (by decide +kernel) ⟨Nat.le_of_ble_eq_true rfl, Nat.le_of_ble_eq_true rfl⟩) (th_PS hK hH) rfl rfl hl.1 rfl (lv_room (Nat.le_of_ble_eq_true rfl)) dX11_layInto_128 ⟨Nat.le_of_ble_eq_true rfl, Nat.le_of_ble_eq_true rfl⟩) hS (fun z_99 σ_s_98 H locs rz_99 hw_97 hH hS => ?_)
        obtain ⟨e9, hw_97⟩ := hw_97
        replace e9 := e9.symm
        subst e9
        have hw_97 : z_99 = mS F3q93 v5q94 := hw_97
        have hn9 := J_95_3.now (by omega) (by omega) (by omega) (by omega)
        have hk9 := hy0.1 v5q94 (by omega) (by omega)
        refine lv_iadd hx hb dX11_layInto_131 ?_
        refine th_addo (fun z_100 rz_100 hz_100 => ?_)
        refine lv_iload_n hx hb dX11_layInto_132 rfl (lv_at hl 1 rfl) ?_
        refine lv_icmp_le (tgt := 152) hx hb dX11_layInto_133 (by decide) (fun c_101 => ?_) (fun c_101 => ?_)
        · replace c_101 := (I_le (a := z_100) (b := q) rz_100 rq).mp c_101
          refine lv_iinc (v := I (v5q94 + 1)) (lv' := [(5, .int (I (v5q94 + 1))), (0, .ref a), (1, .int (I q)), (4, .int (I z_3))]) hx hb dX11_layInto_152 hl (k := 3) rfl (I_add _ _) (by decide) rfl (fun ls hl => ?_)
          refine lv_goto (tgt := 114) hx hb dX11_layInto_155 (by decide) ?_
          exact ihJ_95 (v5q94 + 1, F3q93) σ_J_95 _ _ _ (by first | (dsimp only; omega) | omega) ⟨hO, hF, hM, hH, hS, lv_sub hl [1, 2, 3, 0] rfl, ⟨by first | (dsimp only; omega) | omega, by first | (dsimp only; omega) | omega⟩, by first | (dsimp only; omega) | omega, by first | (dsimp only; omega) | omega, by first | (dsimp only; omega) | omega, (J_95_3.miss (by first | (dsimp only; omega) | omega)), J_95_4, J_95_5, J_95_6⟩
        · replace c_101 := mt (I_le (a := z_100) (b := q) rz_100 rq).mpr c_101
          refine lv_aload_n hx hb dX11_layInto_136 rfl (lv_at hl 0 rfl) ?_
          refine ok.getR hO h_a (by decide) k13_3 (by decide) (fun _ _ he hv kk => th_get (ci := 11) (C := RX11) (T := TX11) (N := 66) hx hb hts inX11 hown hK hH he rfl 3 (by decide) fl2 hv dX11_layInto_137 kk) ?_
          refine lv_iconst (v := I 4) hx hb dX11_layInto_140 (by decide) ?_
          refine lv_iload hx hb dX11_layInto_141 (lv_at hl 3 rfl) ?_
          refine lv_imul hx hb dX11_layInto_143 ?_
          refine nq_top (I_mul _ _) ?_
          refine lv_iconst (v := I 3) hx hb dX11_layInto_144 (by decide) ?_
          refine lv_iadd hx hb dX11_layInto_145 ?_
          refine nq_top (I_add _ _) ?_
          refine lv_dup2_11 hx hb dX11_layInto_146 rfl rfl ?_
          refine m_iald hx hb hK hH hO h_a k13_3 isA1 J_95_6 ⟨by omega, by omega⟩ (by omega) (by omega) dX11_layInto_147 (fun z_102 ez_102 rz_102 elx9 => ?_)
          have hS9 : mS F3q93 v5q94 = z_102 := ez_102
          refine lv_iload hx hb dX11_layInto_148 (lv_at hl 2 rfl) ?_
          refine lv_iadd hx hb dX11_layInto_150 ?_
          refine nq_top (I_add _ _) ?_
          refine m_iast hx hb hK hH hS h00 hO h_a k13_3 isA1 (by decide) J_95_6 ⟨by omega, by omega⟩ (by omega) (by omega) ⟨by omega, by omega⟩ el1 dX11_layInto_151 (fun σ_s_103 H locs hO hF9 hM9 ha9 hH hS => ?_)
          replace hM := hM.tu hM9 (by decide)
          replace hF := hF.tu hF9 (by decide)
          have e_104 : gI σ_s_103 a 5 = a50 + z_3 := (hM9.i (by decide)).trans J_95_4
          have e_105 : aF σ_s_103 (ad E a 31) = f31 := (hM9.a (by decide) (by decide)).trans J_95_5
          obtain ⟨g_106, dg_106⟩ : ∃ g9, g9 = upd F3q93 (4 * v5q94 + 3).toNat (I (z_102 + z_3)) := ⟨_, rfl⟩
          rw [← dg_106] at ha9
          have ef_107 := ha9
          refine lv_iinc (v := I (v5q94 + 1)) (lv' := [(5, .int (I (v5q94 + 1))), (0, .ref a), (1, .int (I q)), (4, .int (I z_3))]) hx hb dX11_layInto_152 hl (k := 3) rfl (I_add _ _) (by decide) rfl (fun ls hl => ?_)
          refine lv_goto (tgt := 114) hx hb dX11_layInto_155 (by decide) ?_
          exact ihJ_95 (v5q94 + 1, g_106) σ_s_103 _ _ _ (by first | (dsimp only; omega) | omega) ⟨hO, hF, hM, hH, hS, lv_sub hl [1, 2, 3, 0] rfl, ⟨by first | (dsimp only; omega) | omega, by first | (dsimp only; omega) | omega⟩, by first | (dsimp only; omega) | omega, by first | (dsimp only; omega) | omega, by first | (dsimp only; omega) | omega, (J_95_3.hit (by first | (dsimp only; omega) | omega) (by first | (dsimp only; omega) | omega) (by first | (dsimp only; omega) | omega) (by first | (dsimp only; omega) | omega) dg_106 (by first | (dsimp only; omega) | omega) (by first | (dsimp only; omega) | omega) (by first | (dsimp only; omega) | omega) ⟨by omega, by omega⟩), e_104, e_105, ef_107⟩
    · replace c_53 := mt (I_le (a := 4 * z_3) (b := v5q51) ⟨by omega, by omega⟩ rv5q51).mpr c_53
      refine lv_aload_n hx hb dX11_layInto_65 rfl (lv_at hl 0 rfl) ?_
      refine ok.getR hO h_a (by decide) k13_3 (by decide) (fun _ _ he hv kk => th_get (ci := 11) (C := RX11) (T := TX11) (N := 66) hx hb hts inX11 hown hK hH he rfl 3 (by decide) fl2 hv dX11_layInto_66 kk) ?_
      refine lv_iconst (v := I 4) hx hb dX11_layInto_69 (by decide) ?_
      refine lv_iload_n hx hb dX11_layInto_70 rfl (lv_at hl 2 rfl) ?_
      refine lv_imul hx hb dX11_layInto_71 ?_
      refine nq_top (I_mul _ _) ?_
      refine lv_iload hx hb dX11_layInto_72 (lv_at hl 5 rfl) ?_
      refine lv_iadd hx hb dX11_layInto_74 ?_
      refine nq_top (I_add _ _) ?_
      refine lv_aload_n hx hb dX11_layInto_75 rfl (lv_at hl 0 rfl) ?_
      refine ok.getR hO h_a (by decide) k13_31 (by decide) (fun _ _ he hv kk => th_get (ci := 11) (C := RX11) (T := TX11) (N := 66) hx hb hts inX11 hown hK hH he rfl 31 (by decide) fl0 hv dX11_layInto_76 kk) ?_
      refine lv_iload hx hb dX11_layInto_79 (lv_at hl 5 rfl) ?_
      refine m_iald hx hb hK hH hO h_a k13_31 isA1 J_52_5 rv5q51 (by omega) (by omega) dX11_layInto_81 (fun z_108 ez_108 rz_108 elx9 => ?_)
      refine m_iast hx hb hK hH hS h00 hO h_a k13_3 isA1 (by decide) J_52_6 ⟨by omega, by omega⟩ (by omega) (by omega) rz_108 el1 dX11_layInto_82 (fun σ_s_109 H locs hO hF9 hM9 ha9 hH hS => ?_)
      replace hM := hM.tu hM9 (by decide)
      replace hF := hF.tu hF9 (by decide)
      have e_110 : gI σ_s_109 a 5 = a50 := (hM9.i (by decide)).trans J_52_4
      have e_111 : aF σ_s_109 (ad E a 31) = f31 := (hM9.a (by decide) (by decide)).trans J_52_5
      obtain ⟨g_112, dg_112⟩ : ∃ g9, g9 = upd F3q50 (4 * pl + v5q51).toNat (I z_108) := ⟨_, rfl⟩
      rw [← dg_112] at ha9
      have ef_113 := ha9
      refine lv_iinc (v := I (v5q51 + 1)) (lv' := [(5, .int (I (v5q51 + 1))), (0, .ref a), (1, .int (I q)), (2, .int (I pl)), (3, .int (I v)), (4, .int (I z_3))]) hx hb dX11_layInto_83 hl (k := 5) rfl (I_add _ _) (by decide) rfl (fun ls hl => ?_)
      refine lv_goto (tgt := 56) hx hb dX11_layInto_86 (by decide) ?_
      exact ihJ_52 (v5q51 + 1, g_112) σ_s_109 _ _ _ (by first | (dsimp only; omega) | omega) ⟨hO, hF, hM, hH, hS, lv_sub hl [1, 2, 3, 4, 5, 0] rfl, ⟨by first | (dsimp only; omega) | omega, by first | (dsimp only; omega) | omega⟩, by first | (dsimp only; omega) | omega, by first | (dsimp only; omega) | omega, by first | (dsimp only; omega) | omega, (J_52_3.step (by first | (dsimp only; omega) | omega) (by first | (dsimp only; omega) | omega) (by first | (dsimp only; omega) | omega) dg_112 (by first | (dsimp only; omega) | omega) ez_108 (by first | (dsimp only; omega) | omega)), e_110, e_111, ef_113⟩
  · replace c_29 := mt (I_lt (a := v5q27) (b := 4 * pl) rv5q27 ⟨by omega, by omega⟩).mpr c_29
    refine lv_aload_n hx hb dX11_layInto_28 rfl (lv_at hl 0 rfl) ?_
    refine ok.getR hO h_a (by decide) k13_3 (by decide) (fun _ _ he hv kk => th_get (ci := 11) (C := RX11) (T := TX11) (N := 66) hx hb hts inX11 hown hK hH he rfl 3 (by decide) fl2 hv dX11_layInto_29 kk) ?_
    refine lv_iload hx hb dX11_layInto_32 (lv_at hl 5 rfl) ?_
    refine lv_iconst (v := I 4) hx hb dX11_layInto_34 (by decide) ?_
    refine lv_iload hx hb dX11_layInto_35 (lv_at hl 4 rfl) ?_
    refine lv_imul hx hb dX11_layInto_37 ?_
    refine nq_top (I_mul _ _) ?_
    refine lv_iadd hx hb dX11_layInto_38 ?_
    refine th_addo (fun z_114 rz_114 hz_114 => ?_)
    refine lv_aload_n hx hb dX11_layInto_39 rfl (lv_at hl 0 rfl) ?_
    refine ok.getR hO h_a (by decide) k13_3 (by decide) (fun _ _ he hv kk => th_get (ci := 11) (C := RX11) (T := TX11) (N := 66) hx hb hts inX11 hown hK hH he rfl 3 (by decide) fl2 hv dX11_layInto_40 kk) ?_
    refine lv_iload hx hb dX11_layInto_43 (lv_at hl 5 rfl) ?_
    refine m_iald hx hb hK hH hO h_a k13_3 isA1 J_28_7 rv5q27 (by omega) (by omega) dX11_layInto_45 (fun z_115 ez_115 rz_115 elx9 => ?_)
    refine m_iast hx hb hK hH hS h00 hO h_a k13_3 isA1 (by decide) J_28_7 rz_114 (by omega) (by omega) rz_115 el1 dX11_layInto_46 (fun σ_s_116 H locs hO hF9 hM9 ha9 hH hS => ?_)
    replace hM := hM.tu hM9 (by decide)
    replace hF := hF.tu hF9 (by decide)
    have e_117 : gI σ_s_116 a 5 = a50 := (hM9.i (by decide)).trans J_28_5
    have e_118 : aF σ_s_116 (ad E a 31) = f31 := (hM9.a (by decide) (by decide)).trans J_28_6
    obtain ⟨g_119, dg_119⟩ : ∃ g9, g9 = upd F3q26 (z_114).toNat (I z_115) := ⟨_, rfl⟩
    rw [← dg_119] at ha9
    have ef_120 := ha9
    refine lv_iinc (v := I (v5q27 + (-1))) (lv' := [(5, .int (I (v5q27 + (-1)))), (0, .ref a), (1, .int (I q)), (2, .int (I pl)), (3, .int (I v)), (4, .int (I z_3))]) hx hb dX11_layInto_47 hl (k := 5) rfl (I_add _ _) (by decide) rfl (fun ls hl => ?_)
    refine lv_goto (tgt := 20) hx hb dX11_layInto_50 (by decide) ?_
    exact ihJ_28 (v5q27 + (-1), g_119) σ_s_116 _ _ _ (by first | (dsimp only; omega) | omega) ⟨hO, hF, hM, hH, hS, lv_sub hl [1, 2, 3, 4, 5, 0] rfl, ⟨by first | (dsimp only; omega) | omega, by first | (dsimp only; omega) | omega⟩, by first | (dsimp only; omega) | omega, by first | (dsimp only; omega) | omega, by first | (dsimp only; omega) | omega, by first | (dsimp only; omega) | omega, (J_28_4.step (by first | (dsimp only; omega) | omega) (by first | (dsimp only; omega) | omega) (by first | (dsimp only; omega) | omega) dg_119 (by first | (dsimp only; omega) | omega) ez_115 (by first | (dsimp only; omega) | omega) (by first | (dsimp only; omega) | omega)), e_117, e_118, ef_120⟩

set_option maxHeartbeats 4000000 in
set_option maxRecDepth 100000 in
theorem m_isTooMuch (l : Launch) (G : va_G) (y : Nat → ClassId) (b0 : Nat) (σ : th_M) (E : th_E) (hO : ok y E σ) (a : Nat) (h_a : kd E a = 13) (f3 : Nat → Int32) (ef3 : aF σ (ad E a 3) = f3) (hy0 : wf f3 0 (gI σ a 5)) : Met l yX11_isTooMuch wsX11_isTooMuch ({ frames := 2, cells := 0, slots := 0, locals := 52 }) (th_P G y b0 σ [.ref a]) (th_Qi G b0 (fun r σ1 => σ1 = σ ∧ (0 ≤ r ∧ r ≤ 1) ∧ (r = 1 ∨ (r = 0 ∧ gI σ a 5 ≤ 60 ∧ dk f3 (gI σ a 5))))) 0 0 (th_A b0) := by
  refine Met.ofW (cc := cX11_isTooMuch) (maxL := 3) (ret := (some .boolean)) (by decide) rfl ?_
  intro p e s m args below meth c s₁ B hml hv
  obtain ⟨rfl, hH, hK⟩ := hv
  have hx := B.exec
  have hb := B.bytes
  have hr := B.returns
  have hts := atoms_spec (ws := wsX11_isTooMuch) B.pre
  have hown : s.vm.findClass RX11 = some m.cls := findClass_of_methodNamed B.named
  have hlocks := B.notSynchronized
  have h00 : b0 ≤ s.heap.size := hH.1
  have hS : va_S (th_A b0) s.heap s.heap [] := va_S.rf
  have inX11 : ∀ w ∈ wsX110, w ∈ wsX11_isTooMuch := by decide +kernel
  have fl0 := hts (.fieldLink RX11 353 "NestQueryModel" "madeMany" "I") (by decide +kernel)
  have fl1 := hts (.fieldLink RX11 16 "NestQueryModel" "made" "[I") (by decide +kernel)
  have hl := lv_entry ([.ref a]) (n := 3) (Nat.le_of_ble_eq_true rfl)
  rw [lg_entry_eq]
  generalize (lg_sl ([.ref a]) ++ List.replicate (3 - (lg_sl ([.ref a])).length) Slot.unset).toArray = ls at hl ⊢
  have hl : lv_has ls 3 [(0, .ref a)] := hl
  obtain ⟨a50, ea50, ra50, la50, ua50⟩ := hO.gi h_a (by decide) k13_5
  refine lv_aload_n hx hb dX11_isTooMuch_0 rfl (lv_at hl 0 rfl) ?_
  refine ok.getIc hO h_a (by decide) k13_5 ea50 (fun _ _ he hv kk => th_get (ci := 11) (C := RX11) (T := TX11) (N := 66) hx hb hts inX11 hown hK hH he rfl 5 (by decide) fl0 hv dX11_isTooMuch_1 kk) ?_
  refine lv_bipush (v := I 60) hx hb dX11_isTooMuch_4 (by decide) ?_
  refine lv_icmp_le (tgt := 13) hx hb dX11_isTooMuch_6 (by decide) (fun c_1 => ?_) (fun c_1 => ?_)
  · replace c_1 := (I_le (a := a50) (b := 60) ra50 (show rng 60 from ⟨by decide, by decide⟩)).mp c_1
    refine lv_iconst (v := I 0) hx hb dX11_isTooMuch_13 (by decide) ?_
    refine lv_istore_n (lv' := [(1, .int (I 0)), (0, .ref a)]) hx hb dX11_isTooMuch_14 rfl hl (by decide) rfl (fun ls hl => ?_)
    refine lv_iconst (v := I 0) hx hb dX11_isTooMuch_15 (by decide) ?_
    refine lv_istore_n (lv' := [(2, .int (I 0)), (1, .int (I 0)), (0, .ref a)]) hx hb dX11_isTooMuch_16 rfl hl (by decide) rfl (fun ls hl => ?_)
    refine th_loop (α := Int × Int) (pc := 17) (fun x9 => (gI σ a 5 - x9.2).toNat) (fun x9 σ9 H9 l9 ls9 => σ9 = σ ∧ th_H G b0 σ9 H9 ∧ va_S (th_A b0) s.heap H9 l9 ∧ lv_has ls9 3 [(0, .ref a), (1, .int (I x9.1)), (2, .int (I x9.2))] ∧ rng x9.1 ∧ rng x9.2 ∧ (0 ≤ x9.1) ∧ (x9.1 ≤ 1) ∧ (0 ≤ x9.2) ∧ (x9.2 ≤ 4000) ∧ (x9.1 = 1 ∨ (gI σ a 5 ≤ 60 ∧ dk f3 x9.2))) ?_ (0, 0) σ _ _ _ ⟨rfl, hH, hS, lv_sub hl [2, 1, 0] rfl, (show rng 0 from ⟨by decide, by decide⟩), (show rng 0 from ⟨by decide, by decide⟩), by first | (dsimp only; omega) | omega, by first | (dsimp only; omega) | omega, by first | (dsimp only; omega) | omega, by first | (dsimp only; omega) | omega, (by first | exact Or.inl rfl | exact Or.inr ⟨by omega, dk.zero⟩)⟩
    intro x9 σ_J_10 H locs ls hI9 ihJ_10
    obtain ⟨v1q9, v2q9⟩ := x9
    obtain ⟨eJ_10, hH, hS, hl, rv1q9, rv2q9, J_10_0, J_10_1, J_10_2, J_10_3, J_10_4⟩ := hI9
    replace eJ_10 := eJ_10.symm
    subst eJ_10
    have hl : lv_has ls 3 [(0, .ref a), (1, .int (I v1q9)), (2, .int (I v2q9))] := hl
    have rv1q9 : rng v1q9 := rv1q9
    have rv2q9 : rng v2q9 := rv2q9
    have J_10_0 : 0 ≤ v1q9 := J_10_0
    have J_10_1 : v1q9 ≤ 1 := J_10_1
    have J_10_2 : 0 ≤ v2q9 := J_10_2
    have J_10_3 : v2q9 ≤ 4000 := J_10_3
    have J_10_4 : v1q9 = 1 ∨ (gI σ a 5 ≤ 60 ∧ dk f3 v2q9) := J_10_4
    refine lv_iload_n hx hb dX11_isTooMuch_17 rfl (lv_at hl 2 rfl) ?_
    refine lv_aload_n hx hb dX11_isTooMuch_18 rfl (lv_at hl 0 rfl) ?_
    refine ok.getIc hO h_a (by decide) k13_5 ea50 (fun _ _ he hv kk => th_get (ci := 11) (C := RX11) (T := TX11) (N := 66) hx hb hts inX11 hown hK hH he rfl 5 (by decide) fl0 hv dX11_isTooMuch_19 kk) ?_
    refine lv_icmp_ge (tgt := 54) hx hb dX11_isTooMuch_22 (by decide) (fun c_11 => ?_) (fun c_11 => ?_)
    · replace c_11 := (I_le (a := a50) (b := v2q9) ra50 rv2q9).mp c_11
      refine lv_iload_n hx hb dX11_isTooMuch_54 rfl (lv_at hl 1 rfl) ?_
      exact th_zret hx hb hr hlocks hH hS (z := v1q9) (by omega) ⟨rfl, ⟨by omega, by omega⟩, by by_cases h8 : v1q9 = 1; exact Or.inl h8; have h7 := J_10_4.resolve_left h8; exact Or.inr ⟨by omega, h7.1, h7.2.le (by omega)⟩⟩ dX11_isTooMuch_55
    · replace c_11 := mt (I_le (a := a50) (b := v2q9) ra50 rv2q9).mpr c_11
      refine lv_iload_n hx hb dX11_isTooMuch_25 rfl (lv_at hl 1 rfl) ?_
      refine lv_if_ne (tgt := 54) hx hb dX11_isTooMuch_26 (by decide) (fun c_12 => ?_) (fun c_12 => ?_)
      · replace c_12 := mt (I_eq (a := v1q9) (b := 0) rv1q9 (show rng 0 from ⟨by decide, by decide⟩)).mpr c_12
        refine lv_iload_n hx hb dX11_isTooMuch_54 rfl (lv_at hl 1 rfl) ?_
        exact th_zret hx hb hr hlocks hH hS (z := v1q9) (by omega) ⟨rfl, ⟨by omega, by omega⟩, by by_cases h8 : v1q9 = 1; exact Or.inl h8; have h7 := J_10_4.resolve_left h8; exact Or.inr ⟨by omega, h7.1, h7.2.le (by omega)⟩⟩ dX11_isTooMuch_55
      · replace c_12 := (I_eq (a := v1q9) (b := 0) rv1q9 (show rng 0 from ⟨by decide, by decide⟩)).mp c_12
        refine lv_aload_n hx hb dX11_isTooMuch_29 rfl (lv_at hl 0 rfl) ?_
        refine ok.getR hO h_a (by decide) k13_3 (by decide) (fun _ _ he hv kk => th_get (ci := 11) (C := RX11) (T := TX11) (N := 66) hx hb hts inX11 hown hK hH he rfl 3 (by decide) fl1 hv dX11_isTooMuch_30 kk) ?_
        refine lv_iload_n hx hb dX11_isTooMuch_33 rfl (lv_at hl 2 rfl) ?_
        refine th_calli (va_runS (As := [.ref (ad E a 3), .int (I v2q9)]) (rest := []) ⟨hx, hb, hml, hown, hts⟩ (w_depthOf l G y b0 σ E hO (ad E a 3) 16000 f3 (hO.roww h_a k13_3 isA1 ef3 rfl) v2q9 (show rng v2q9 from rv2q9) (by omega) (by omega) ((hy0.few (by omega) (by omega))) (by omega)) (va_cwS 2 hts gX11_isTooMuch_X11_depthOf rfl rfl rfl (by decide +kernel) ⟨Nat.le_of_ble_eq_true rfl, Nat.le_of_ble_eq_true rfl⟩) (th_PS hK hH) rfl rfl hl.1 rfl (lv_room (Nat.le_of_ble_eq_true rfl)) dX11_isTooMuch_34 ⟨Nat.le_of_ble_eq_true rfl, Nat.le_of_ble_eq_true rfl⟩) hS (fun z_15 σ_s_14 H locs rz_15 hw_13 hH hS => ?_)
        obtain ⟨e9, hw_13⟩ := hw_13
        replace e9 := e9.symm
        subst e9
        have hw_13 : z_15 = cn f3 v2q9 v2q9.toNat ∧ 0 ≤ z_15 ∧ z_15 ≤ v2q9 := hw_13
        refine lv_bipush (v := I 7) hx hb dX11_isTooMuch_37 (by decide) ?_
        refine lv_icmp_le (tgt := 46) hx hb dX11_isTooMuch_39 (by decide) (fun c_16 => ?_) (fun c_16 => ?_)
        · replace c_16 := (I_le (a := z_15) (b := 7) rz_15 (show rng 7 from ⟨by decide, by decide⟩)).mp c_16
          refine lv_iconst (v := I 0) hx hb dX11_isTooMuch_46 (by decide) ?_
          refine lv_istore_n (lv' := [(1, .int (I 0)), (0, .ref a), (2, .int (I v2q9))]) hx hb dX11_isTooMuch_47 rfl hl (by decide) rfl (fun ls hl => ?_)
          refine lv_iinc (v := I (v2q9 + 1)) (lv' := [(2, .int (I (v2q9 + 1))), (1, .int (I 0)), (0, .ref a)]) hx hb dX11_isTooMuch_48 hl (k := 2) rfl (I_add _ _) (by decide) rfl (fun ls hl => ?_)
          refine lv_goto (tgt := 17) hx hb dX11_isTooMuch_51 (by decide) ?_
          exact ihJ_10 (0, v2q9 + 1) σ _ _ _ (by first | (dsimp only; omega) | omega) ⟨rfl, hH, hS, lv_sub hl [2, 1, 0] rfl, (show rng 0 from ⟨by decide, by decide⟩), ⟨by first | (dsimp only; omega) | omega, by first | (dsimp only; omega) | omega⟩, by first | (dsimp only; omega) | omega, by first | (dsimp only; omega) | omega, by first | (dsimp only; omega) | omega, by first | (dsimp only; omega) | omega, (Or.inr ⟨by omega, (J_10_4.resolve_left (by omega)).2.step (by omega)⟩)⟩
        · replace c_16 := mt (I_le (a := z_15) (b := 7) rz_15 (show rng 7 from ⟨by decide, by decide⟩)).mpr c_16
          refine lv_iconst (v := I 1) hx hb dX11_isTooMuch_42 (by decide) ?_
          refine lv_goto (tgt := 47) hx hb dX11_isTooMuch_43 (by decide) ?_
          refine lv_istore_n (lv' := [(1, .int (I 1)), (0, .ref a), (2, .int (I v2q9))]) hx hb dX11_isTooMuch_47 rfl hl (by decide) rfl (fun ls hl => ?_)
          refine lv_iinc (v := I (v2q9 + 1)) (lv' := [(2, .int (I (v2q9 + 1))), (1, .int (I 1)), (0, .ref a)]) hx hb dX11_isTooMuch_48 hl (k := 2) rfl (I_add _ _) (by decide) rfl (fun ls hl => ?_)
          refine lv_goto (tgt := 17) hx hb dX11_isTooMuch_51 (by decide) ?_
          exact ihJ_10 (1, v2q9 + 1) σ _ _ _ (by first | (dsimp only; omega) | omega) ⟨rfl, hH, hS, lv_sub hl [2, 1, 0] rfl, (show rng 1 from ⟨by decide, by decide⟩), ⟨by first | (dsimp only; omega) | omega, by first | (dsimp only; omega) | omega⟩, by first | (dsimp only; omega) | omega, by first | (dsimp only; omega) | omega, by first | (dsimp only; omega) | omega, by first | (dsimp only; omega) | omega, (Or.inl rfl)⟩
  · replace c_1 := mt (I_le (a := a50) (b := 60) ra50 (show rng 60 from ⟨by decide, by decide⟩)).mpr c_1
    refine lv_iconst (v := I 1) hx hb dX11_isTooMuch_9 (by decide) ?_
    refine lv_goto (tgt := 14) hx hb dX11_isTooMuch_10 (by decide) ?_
    refine lv_istore_n (lv' := [(1, .int (I 1)), (0, .ref a)]) hx hb dX11_isTooMuch_14 rfl hl (by decide) rfl (fun ls hl => ?_)
    refine lv_iconst (v := I 0) hx hb dX11_isTooMuch_15 (by decide) ?_
    refine lv_istore_n (lv' := [(2, .int (I 0)), (1, .int (I 1)), (0, .ref a)]) hx hb dX11_isTooMuch_16 rfl hl (by decide) rfl (fun ls hl => ?_)
    refine th_loop (α := Int × Int) (pc := 17) (fun x9 => (gI σ a 5 - x9.2).toNat) (fun x9 σ9 H9 l9 ls9 => σ9 = σ ∧ th_H G b0 σ9 H9 ∧ va_S (th_A b0) s.heap H9 l9 ∧ lv_has ls9 3 [(0, .ref a), (1, .int (I x9.1)), (2, .int (I x9.2))] ∧ rng x9.1 ∧ rng x9.2 ∧ (0 ≤ x9.1) ∧ (x9.1 ≤ 1) ∧ (0 ≤ x9.2) ∧ (x9.2 ≤ 4000) ∧ (x9.1 = 1 ∨ (gI σ a 5 ≤ 60 ∧ dk f3 x9.2))) ?_ (1, 0) σ _ _ _ ⟨rfl, hH, hS, lv_sub hl [2, 1, 0] rfl, (show rng 1 from ⟨by decide, by decide⟩), (show rng 0 from ⟨by decide, by decide⟩), by first | (dsimp only; omega) | omega, by first | (dsimp only; omega) | omega, by first | (dsimp only; omega) | omega, by first | (dsimp only; omega) | omega, (by first | exact Or.inl rfl | exact Or.inr ⟨by omega, dk.zero⟩)⟩
    intro x9 σ_J_18 H locs ls hI9 ihJ_18
    obtain ⟨v1q17, v2q17⟩ := x9
    obtain ⟨eJ_18, hH, hS, hl, rv1q17, rv2q17, J_18_0, J_18_1, J_18_2, J_18_3, J_18_4⟩ := hI9
    replace eJ_18 := eJ_18.symm
    subst eJ_18
    have hl : lv_has ls 3 [(0, .ref a), (1, .int (I v1q17)), (2, .int (I v2q17))] := hl
    have rv1q17 : rng v1q17 := rv1q17
    have rv2q17 : rng v2q17 := rv2q17
    have J_18_0 : 0 ≤ v1q17 := J_18_0
    have J_18_1 : v1q17 ≤ 1 := J_18_1
    have J_18_2 : 0 ≤ v2q17 := J_18_2
    have J_18_3 : v2q17 ≤ 4000 := J_18_3
    have J_18_4 : v1q17 = 1 ∨ (gI σ a 5 ≤ 60 ∧ dk f3 v2q17) := J_18_4
    refine lv_iload_n hx hb dX11_isTooMuch_17 rfl (lv_at hl 2 rfl) ?_
    refine lv_aload_n hx hb dX11_isTooMuch_18 rfl (lv_at hl 0 rfl) ?_
    refine ok.getIc hO h_a (by decide) k13_5 ea50 (fun _ _ he hv kk => th_get (ci := 11) (C := RX11) (T := TX11) (N := 66) hx hb hts inX11 hown hK hH he rfl 5 (by decide) fl0 hv dX11_isTooMuch_19 kk) ?_
    refine lv_icmp_ge (tgt := 54) hx hb dX11_isTooMuch_22 (by decide) (fun c_19 => ?_) (fun c_19 => ?_)
    · replace c_19 := (I_le (a := a50) (b := v2q17) ra50 rv2q17).mp c_19
      refine lv_iload_n hx hb dX11_isTooMuch_54 rfl (lv_at hl 1 rfl) ?_
      exact th_zret hx hb hr hlocks hH hS (z := v1q17) (by omega) ⟨rfl, ⟨by omega, by omega⟩, by by_cases h8 : v1q17 = 1; exact Or.inl h8; have h7 := J_18_4.resolve_left h8; exact Or.inr ⟨by omega, h7.1, h7.2.le (by omega)⟩⟩ dX11_isTooMuch_55
    · replace c_19 := mt (I_le (a := a50) (b := v2q17) ra50 rv2q17).mpr c_19
      refine lv_iload_n hx hb dX11_isTooMuch_25 rfl (lv_at hl 1 rfl) ?_
      refine lv_if_ne (tgt := 54) hx hb dX11_isTooMuch_26 (by decide) (fun c_20 => ?_) (fun c_20 => ?_)
      · replace c_20 := mt (I_eq (a := v1q17) (b := 0) rv1q17 (show rng 0 from ⟨by decide, by decide⟩)).mpr c_20
        refine lv_iload_n hx hb dX11_isTooMuch_54 rfl (lv_at hl 1 rfl) ?_
        exact th_zret hx hb hr hlocks hH hS (z := v1q17) (by omega) ⟨rfl, ⟨by omega, by omega⟩, by by_cases h8 : v1q17 = 1; exact Or.inl h8; have h7 := J_18_4.resolve_left h8; exact Or.inr ⟨by omega, h7.1, h7.2.le (by omega)⟩⟩ dX11_isTooMuch_55
      · replace c_20 := (I_eq (a := v1q17) (b := 0) rv1q17 (show rng 0 from ⟨by decide, by decide⟩)).mp c_20
        refine lv_aload_n hx hb dX11_isTooMuch_29 rfl (lv_at hl 0 rfl) ?_
        refine ok.getR hO h_a (by decide) k13_3 (by decide) (fun _ _ he hv kk => th_get (ci := 11) (C := RX11) (T := TX11) (N := 66) hx hb hts inX11 hown hK hH he rfl 3 (by decide) fl1 hv dX11_isTooMuch_30 kk) ?_
        refine lv_iload_n hx hb dX11_isTooMuch_33 rfl (lv_at hl 2 rfl) ?_
        refine th_calli (va_runS (As := [.ref (ad E a 3), .int (I v2q17)]) (rest := []) ⟨hx, hb, hml, hown, hts⟩ (w_depthOf l G y b0 σ E hO (ad E a 3) 16000 f3 (hO.roww h_a k13_3 isA1 ef3 rfl) v2q17 (show rng v2q17 from rv2q17) (by omega) (by omega) ((hy0.few (by omega) (by omega))) (by omega)) (va_cwS 2 hts gX11_isTooMuch_X11_depthOf rfl rfl rfl (by decide +kernel) ⟨Nat.le_of_ble_eq_true rfl, Nat.le_of_ble_eq_true rfl⟩) (th_PS hK hH) rfl rfl hl.1 rfl (lv_room (Nat.le_of_ble_eq_true rfl)) dX11_isTooMuch_34 ⟨Nat.le_of_ble_eq_true rfl, Nat.le_of_ble_eq_true rfl⟩) hS (fun z_23 σ_s_22 H locs rz_23 hw_21 hH hS => ?_)
        obtain ⟨e9, hw_21⟩ := hw_21
        replace e9 := e9.symm
        subst e9
        have hw_21 : z_23 = cn f3 v2q17 v2q17.toNat ∧ 0 ≤ z_23 ∧ z_23 ≤ v2q17 := hw_21
        refine lv_bipush (v := I 7) hx hb dX11_isTooMuch_37 (by decide) ?_
        refine lv_icmp_le (tgt := 46) hx hb dX11_isTooMuch_39 (by decide) (fun c_24 => ?_) (fun c_24 => ?_)
        · replace c_24 := (I_le (a := z_23) (b := 7) rz_23 (show rng 7 from ⟨by decide, by decide⟩)).mp c_24
          refine lv_iconst (v := I 0) hx hb dX11_isTooMuch_46 (by decide) ?_
          refine lv_istore_n (lv' := [(1, .int (I 0)), (0, .ref a), (2, .int (I v2q17))]) hx hb dX11_isTooMuch_47 rfl hl (by decide) rfl (fun ls hl => ?_)
          refine lv_iinc (v := I (v2q17 + 1)) (lv' := [(2, .int (I (v2q17 + 1))), (1, .int (I 0)), (0, .ref a)]) hx hb dX11_isTooMuch_48 hl (k := 2) rfl (I_add _ _) (by decide) rfl (fun ls hl => ?_)
          refine lv_goto (tgt := 17) hx hb dX11_isTooMuch_51 (by decide) ?_
          exact ihJ_18 (0, v2q17 + 1) σ _ _ _ (by first | (dsimp only; omega) | omega) ⟨rfl, hH, hS, lv_sub hl [2, 1, 0] rfl, (show rng 0 from ⟨by decide, by decide⟩), ⟨by first | (dsimp only; omega) | omega, by first | (dsimp only; omega) | omega⟩, by first | (dsimp only; omega) | omega, by first | (dsimp only; omega) | omega, by first | (dsimp only; omega) | omega, by first | (dsimp only; omega) | omega, (Or.inr ⟨by omega, (J_18_4.resolve_left (by omega)).2.step (by omega)⟩)⟩
        · replace c_24 := mt (I_le (a := z_23) (b := 7) rz_23 (show rng 7 from ⟨by decide, by decide⟩)).mpr c_24
          refine lv_iconst (v := I 1) hx hb dX11_isTooMuch_42 (by decide) ?_
          refine lv_goto (tgt := 47) hx hb dX11_isTooMuch_43 (by decide) ?_
          refine lv_istore_n (lv' := [(1, .int (I 1)), (0, .ref a), (2, .int (I v2q17))]) hx hb dX11_isTooMuch_47 rfl hl (by decide) rfl (fun ls hl => ?_)
          refine lv_iinc (v := I (v2q17 + 1)) (lv' := [(2, .int (I (v2q17 + 1))), (1, .int (I 1)), (0, .ref a)]) hx hb dX11_isTooMuch_48 hl (k := 2) rfl (I_add _ _) (by decide) rfl (fun ls hl => ?_)
          refine lv_goto (tgt := 17) hx hb dX11_isTooMuch_51 (by decide) ?_
          exact ihJ_18 (1, v2q17 + 1) σ _ _ _ (by first | (dsimp only; omega) | omega) ⟨rfl, hH, hS, lv_sub hl [2, 1, 0] rfl, (show rng 1 from ⟨by decide, by decide⟩), ⟨by first | (dsimp only; omega) | omega, by first | (dsimp only; omega) | omega⟩, by first | (dsimp only; omega) | omega, by first | (dsimp only; omega) | omega, by first | (dsimp only; omega) | omega, by first | (dsimp only; omega) | omega, (Or.inl rfl)⟩

set_option maxHeartbeats 4000000 in
set_option maxRecDepth 100000 in
theorem m_keep0 (l : Launch) (G : va_G) (y : Nat → ClassId) (b0 : Nat) (σ : th_M) (E : th_E) (hO : ok y E σ) (a : Nat) (h_a : kd E a = 13) (f1 : Nat → Int32) (ef1 : aF σ (ad E a 1) = f1) (f37 : Nat → Int32) (ef37 : aF σ (ad E a 37) = f37) (hy0 : tr f1) (hy1 : trs f37 (gI σ a 36)) : Met l yX11_keep0 wsX11_keep0 ({ frames := 0, cells := 0, slots := 0, locals := 0 }) (th_P G y b0 σ [.ref a]) (th_Qv G b0 (fun σ1 => ok y E σ1 ∧ fr [13] E σ σ1 ∧ fm [36, 37] E σ σ1 a ∧ (trs (aF σ1 (ad E a 37)) (gI σ1 a 36)))) 0 0 (th_A b0) := by
  refine Met.ofW (cc := cX11_keep0) (maxL := 2) (ret := none) (by decide) rfl ?_
  intro p e s m args below meth c s₁ B hml hv
  obtain ⟨rfl, hH, hK⟩ := hv
  have hx := B.exec
  have hb := B.bytes
  have hr := B.returns
  have hts := atoms_spec (ws := wsX11_keep0) B.pre
  have hown : s.vm.findClass RX11 = some m.cls := findClass_of_methodNamed B.named
  have hlocks := B.notSynchronized
  have h00 : b0 ≤ s.heap.size := hH.1
  have hS : va_S (th_A b0) s.heap s.heap [] := va_S.rf
  have hF : fr [13] E σ σ := fr.rf
  have hM : fm [36, 37] E σ σ a := fm.rf
  have inX11 : ∀ w ∈ wsX110, w ∈ wsX11_keep0 := by decide +kernel
  have fl0 := hts (.fieldLink RX11 403 "NestQueryModel" "isTried" "Z") (by decide +kernel)
  have fl1 := hts (.fieldLink RX11 232 "NestQueryModel" "acts" "I") (by decide +kernel)
  have fl2 := hts (.fieldLink RX11 48 "NestQueryModel" "past" "[I") (by decide +kernel)
  have fl3 := hts (.fieldLink RX11 9 "NestQueryModel" "tree" "[I") (by decide +kernel)
  have hl := lv_entry ([.ref a]) (n := 2) (Nat.le_of_ble_eq_true rfl)
  rw [lg_entry_eq]
  generalize (lg_sl ([.ref a]) ++ List.replicate (2 - (lg_sl ([.ref a])).length) Slot.unset).toArray = ls at hl ⊢
  have hl : lv_has ls 2 [(0, .ref a)] := hl
  obtain ⟨a360, ea360, ra360, la360, ua360⟩ := hO.gi h_a (by decide) k13_36
  refine lv_aload_n hx hb dX11_keep0_0 rfl (lv_at hl 0 rfl) ?_
  refine ok.getI hO h_a (by decide) k13_38 (fun _ _ he hv kk => th_get (ci := 11) (C := RX11) (T := TX11) (N := 66) hx hb hts inX11 hown hK hH he rfl 38 (by decide) fl0 hv dX11_keep0_1 kk) (fun z_1 e_2 rz_1 lz_1 uz_1 => ?_)
  refine lv_if_eq (tgt := 8) hx hb dX11_keep0_4 (by decide) (fun c_3 => ?_) (fun c_3 => ?_)
  · replace c_3 := (I_eq (a := z_1) (b := 0) rz_1 (show rng 0 from ⟨by decide, by decide⟩)).mp c_3
    refine lv_aload_n hx hb dX11_keep0_8 rfl (lv_at hl 0 rfl) ?_
    refine ok.getIc hO h_a (by decide) k13_36 ea360 (fun _ _ he hv kk => th_get (ci := 11) (C := RX11) (T := TX11) (N := 66) hx hb hts inX11 hown hK hH he rfl 36 (by decide) fl1 hv dX11_keep0_9 kk) ?_
    refine lv_bipush (v := I 40) hx hb dX11_keep0_12 (by decide) ?_
    refine lv_icmp_ne (tgt := 62) hx hb dX11_keep0_14 (by decide) (fun c_4 => ?_) (fun c_4 => ?_)
    · replace c_4 := mt (I_eq (a := a360) (b := 40) ra360 (show rng 40 from ⟨by decide, by decide⟩)).mpr c_4
      refine lv_iconst (v := I 0) hx hb dX11_keep0_62 (by decide) ?_
      refine lv_istore_n (lv' := [(1, .int (I 0)), (0, .ref a)]) hx hb dX11_keep0_63 rfl hl (by decide) rfl (fun ls hl => ?_)
      refine th_loop (α := Int × (Nat → Int32)) (pc := 64) (fun x9 => (240 - x9.1).toNat) (fun x9 σ9 H9 l9 ls9 => ok y E σ9 ∧ fr [13] E σ σ9 ∧ fm [36, 37] E σ σ9 a ∧ th_H G b0 σ9 H9 ∧ va_S (th_A b0) s.heap H9 l9 ∧ lv_has ls9 2 [(0, .ref a), (1, .int (I x9.1))] ∧ rng x9.1 ∧ (0 ≤ x9.1) ∧ (x9.1 ≤ 240) ∧ (kp2 f37 x9.2 f1 a360 x9.1) ∧ (gI σ9 a 36 = a360) ∧ (gI σ9 a 38 = z_1) ∧ (aF σ9 (ad E a 1) = f1) ∧ (aF σ9 (ad E a 37) = x9.2)) ?_ (0, f37) σ _ _ _ ⟨hO, hF, hM, hH, hS, lv_sub hl [1, 0] rfl, (show rng 0 from ⟨by decide, by decide⟩), by first | (dsimp only; omega) | omega, by first | (dsimp only; omega) | omega, kp2.zero, ea360, e_2, ef1, ef37⟩
      intro x9 σ_J_29 H locs ls hI9 ihJ_29
      obtain ⟨v1q28, F37q27⟩ := x9
      obtain ⟨hO, hF, hM, hH, hS, hl, rv1q28, J_29_0, J_29_1, J_29_2, J_29_3, J_29_4, J_29_5, J_29_6⟩ := hI9
      have hl : lv_has ls 2 [(0, .ref a), (1, .int (I v1q28))] := hl
      have rv1q28 : rng v1q28 := rv1q28
      have J_29_0 : 0 ≤ v1q28 := J_29_0
      have J_29_1 : v1q28 ≤ 240 := J_29_1
      have J_29_2 : kp2 f37 F37q27 f1 a360 v1q28 := J_29_2
      have J_29_3 : gI σ_J_29 a 36 = a360 := J_29_3
      have J_29_4 : gI σ_J_29 a 38 = z_1 := J_29_4
      have J_29_5 : aF σ_J_29 (ad E a 1) = f1 := J_29_5
      have J_29_6 : aF σ_J_29 (ad E a 37) = F37q27 := J_29_6
      refine lv_iload_n hx hb dX11_keep0_64 rfl (lv_at hl 1 rfl) ?_
      refine lv_sipush (v := I 240) hx hb dX11_keep0_65 (by decide) ?_
      refine lv_icmp_ge (tgt := 98) hx hb dX11_keep0_68 (by decide) (fun c_30 => ?_) (fun c_30 => ?_)
      · replace c_30 := (I_le (a := 240) (b := v1q28) (show rng 240 from ⟨by decide, by decide⟩) rv1q28).mp c_30
        refine lv_aload_n hx hb dX11_keep0_98 rfl (lv_at hl 0 rfl) ?_
        refine lv_dup hx hb dX11_keep0_99 rfl ?_
        refine ok.getIc hO h_a (by decide) k13_36 J_29_3 (fun _ _ he hv kk => th_get (ci := 11) (C := RX11) (T := TX11) (N := 66) hx hb hts inX11 hown hK hH he rfl 36 (by decide) fl1 hv dX11_keep0_100 kk) ?_
        refine lv_iconst (v := I 1) hx hb dX11_keep0_103 (by decide) ?_
        refine lv_iadd hx hb dX11_keep0_104 ?_
        refine nq_top (I_add _ _) ?_
        refine ok.putJ hO h_a k13_36 ⟨by omega, by omega⟩ (by omega) (by omega) (fun _ he hl9 kk => th_put (ci := 11) (v := .int (I (a360 + 1))) (ty := .int) (C := RX11) (T := TX11) (N := 66) hx hb hts inX11 tyX11 tyX11_ok nmX11 hown hK hH hS h00 he rfl 36 (by decide) fl1 rfl (by decide +kernel) rfl rfl hl9 dX11_keep0_105 kk) (fun σ_s_31 H locs hO hF9 hM9 hg9 ha9 hH hS => ?_)
        replace hM := hM.tu hM9 (by decide)
        replace hF := hF.tu hF9 (by decide)
        have e_32 : gI σ_s_31 a 38 = z_1 := (hM9.i (by decide)).trans J_29_4
        have e_33 : aF σ_s_31 (ad E a 1) = f1 := (hM9.a (by decide) (by decide)).trans J_29_5
        have e_34 : aF σ_s_31 (ad E a 37) = F37q27 := (hM9.a (by decide) (by decide)).trans J_29_6
        have e_35 := hg9
        exact th_vret hx hb hr hlocks hH hS ⟨hO, hF, hM, by rw [show aF σ_s_31 (ad E a 37) = F37q27 from e_34]; exact (J_29_2.fin (by omega) (by omega) (hy1.le (by omega)) hy0).le (by omega)⟩ dX11_keep0_108
      · replace c_30 := mt (I_le (a := 240) (b := v1q28) (show rng 240 from ⟨by decide, by decide⟩) rv1q28).mpr c_30
        refine lv_aload_n hx hb dX11_keep0_71 rfl (lv_at hl 0 rfl) ?_
        refine ok.getR hO h_a (by decide) k13_37 (by decide) (fun _ _ he hv kk => th_get (ci := 11) (C := RX11) (T := TX11) (N := 66) hx hb hts inX11 hown hK hH he rfl 37 (by decide) fl2 hv dX11_keep0_72 kk) ?_
        refine lv_sipush (v := I 240) hx hb dX11_keep0_75 (by decide) ?_
        refine lv_aload_n hx hb dX11_keep0_78 rfl (lv_at hl 0 rfl) ?_
        refine ok.getIc hO h_a (by decide) k13_36 J_29_3 (fun _ _ he hv kk => th_get (ci := 11) (C := RX11) (T := TX11) (N := 66) hx hb hts inX11 hown hK hH he rfl 36 (by decide) fl1 hv dX11_keep0_79 kk) ?_
        refine lv_imul hx hb dX11_keep0_82 ?_
        refine nq_top (I_mul _ _) ?_
        refine lv_iload_n hx hb dX11_keep0_83 rfl (lv_at hl 1 rfl) ?_
        refine lv_iadd hx hb dX11_keep0_84 ?_
        refine nq_top (I_add _ _) ?_
        refine lv_aload_n hx hb dX11_keep0_85 rfl (lv_at hl 0 rfl) ?_
        refine ok.getR hO h_a (by decide) k13_1 (by decide) (fun _ _ he hv kk => th_get (ci := 11) (C := RX11) (T := TX11) (N := 66) hx hb hts inX11 hown hK hH he rfl 1 (by decide) fl3 hv dX11_keep0_86 kk) ?_
        refine lv_iload_n hx hb dX11_keep0_89 rfl (lv_at hl 1 rfl) ?_
        refine m_iald hx hb hK hH hO h_a k13_1 isA1 J_29_5 rv1q28 (by omega) (by omega) dX11_keep0_90 (fun z_36 ez_36 rz_36 elx9 => ?_)
        refine m_iast hx hb hK hH hS h00 hO h_a k13_37 isA1 (by decide) J_29_6 ⟨by omega, by omega⟩ (by omega) (by omega) rz_36 el1 dX11_keep0_91 (fun σ_s_37 H locs hO hF9 hM9 ha9 hH hS => ?_)
        replace hM := hM.tu hM9 (by decide)
        replace hF := hF.tu hF9 (by decide)
        have e_38 : gI σ_s_37 a 36 = a360 := (hM9.i (by decide)).trans J_29_3
        have e_39 : gI σ_s_37 a 38 = z_1 := (hM9.i (by decide)).trans J_29_4
        have e_40 : aF σ_s_37 (ad E a 1) = f1 := (hM9.a (by decide) (by decide)).trans J_29_5
        obtain ⟨g_41, dg_41⟩ : ∃ g9, g9 = upd F37q27 (240 * a360 + v1q28).toNat (I z_36) := ⟨_, rfl⟩
        rw [← dg_41] at ha9
        have ef_42 := ha9
        refine lv_iinc (v := I (v1q28 + 1)) (lv' := [(1, .int (I (v1q28 + 1))), (0, .ref a)]) hx hb dX11_keep0_92 hl (k := 1) rfl (I_add _ _) (by decide) rfl (fun ls hl => ?_)
        refine lv_goto (tgt := 64) hx hb dX11_keep0_95 (by decide) ?_
        exact ihJ_29 (v1q28 + 1, g_41) σ_s_37 _ _ _ (by first | (dsimp only; omega) | omega) ⟨hO, hF, hM, hH, hS, lv_sub hl [1, 0] rfl, ⟨by first | (dsimp only; omega) | omega, by first | (dsimp only; omega) | omega⟩, by first | (dsimp only; omega) | omega, by first | (dsimp only; omega) | omega, (J_29_2.step dg_41 (by first | (dsimp only; omega) | omega) ez_36 (by first | (dsimp only; omega) | omega) (by first | (dsimp only; omega) | omega) (by first | (dsimp only; omega) | omega)), e_38, e_39, e_40, ef_42⟩
    · replace c_4 := (I_eq (a := a360) (b := 40) ra360 (show rng 40 from ⟨by decide, by decide⟩)).mp c_4
      refine lv_sipush (v := I 240) hx hb dX11_keep0_17 (by decide) ?_
      refine lv_istore_n (lv' := [(1, .int (I 240)), (0, .ref a)]) hx hb dX11_keep0_20 rfl hl (by decide) rfl (fun ls hl => ?_)
      refine th_loop (α := Int × (Nat → Int32)) (pc := 21) (fun x9 => (9600 - x9.1).toNat) (fun x9 σ9 H9 l9 ls9 => ok y E σ9 ∧ fr [13] E σ σ9 ∧ fm [36, 37] E σ σ9 a ∧ th_H G b0 σ9 H9 ∧ va_S (th_A b0) s.heap H9 l9 ∧ lv_has ls9 2 [(0, .ref a), (1, .int (I x9.1))] ∧ rng x9.1 ∧ (240 ≤ x9.1) ∧ (x9.1 ≤ 9600) ∧ (kp1 f37 x9.2 x9.1) ∧ (gI σ9 a 36 = a360) ∧ (gI σ9 a 38 = z_1) ∧ (aF σ9 (ad E a 1) = f1) ∧ (aF σ9 (ad E a 37) = x9.2)) ?_ (240, f37) σ _ _ _ ⟨hO, hF, hM, hH, hS, lv_sub hl [1, 0] rfl, (show rng 240 from ⟨by decide, by decide⟩), by first | (dsimp only; omega) | omega, by first | (dsimp only; omega) | omega, (kp1.zero (by first | (dsimp only; omega) | omega)), ea360, e_2, ef1, ef37⟩
      intro x9 σ_J_67 H locs ls hI9 ihJ_67
      obtain ⟨v1q66, F37q65⟩ := x9
      obtain ⟨hO, hF, hM, hH, hS, hl, rv1q66, J_67_0, J_67_1, J_67_2, J_67_3, J_67_4, J_67_5, J_67_6⟩ := hI9
      have hl : lv_has ls 2 [(0, .ref a), (1, .int (I v1q66))] := hl
      have rv1q66 : rng v1q66 := rv1q66
      have J_67_0 : 240 ≤ v1q66 := J_67_0
      have J_67_1 : v1q66 ≤ 9600 := J_67_1
      have J_67_2 : kp1 f37 F37q65 v1q66 := J_67_2
      have J_67_3 : gI σ_J_67 a 36 = a360 := J_67_3
      have J_67_4 : gI σ_J_67 a 38 = z_1 := J_67_4
      have J_67_5 : aF σ_J_67 (ad E a 1) = f1 := J_67_5
      have J_67_6 : aF σ_J_67 (ad E a 37) = F37q65 := J_67_6
      refine lv_iload_n hx hb dX11_keep0_21 rfl (lv_at hl 1 rfl) ?_
      refine lv_aload_n hx hb dX11_keep0_22 rfl (lv_at hl 0 rfl) ?_
      refine ok.getR hO h_a (by decide) k13_37 (by decide) (fun _ _ he hv kk => th_get (ci := 11) (C := RX11) (T := TX11) (N := 66) hx hb hts inX11 hown hK hH he rfl 37 (by decide) fl2 hv dX11_keep0_23 kk) ?_
      refine ok_alen hx hb hK hH hO h_a (by decide) k13_37 isA1 (by decide) dX11_keep0_26 ?_
      refine lv_icmp_ge (tgt := 52) hx hb dX11_keep0_27 (by decide) (fun c_68 => ?_) (fun c_68 => ?_)
      · replace c_68 := (I_le (a := 9600) (b := v1q66) (show rng 9600 from ⟨by decide, by decide⟩) rv1q66).mp c_68
        refine lv_aload_n hx hb dX11_keep0_52 rfl (lv_at hl 0 rfl) ?_
        refine lv_dup hx hb dX11_keep0_53 rfl ?_
        refine ok.getIc hO h_a (by decide) k13_36 J_67_3 (fun _ _ he hv kk => th_get (ci := 11) (C := RX11) (T := TX11) (N := 66) hx hb hts inX11 hown hK hH he rfl 36 (by decide) fl1 hv dX11_keep0_54 kk) ?_
        refine lv_iconst (v := I 1) hx hb dX11_keep0_57 (by decide) ?_
        refine lv_isub hx hb dX11_keep0_58 ?_
        refine nq_top (I_sub _ _) ?_
        refine ok.putJ hO h_a k13_36 ⟨by omega, by omega⟩ (by omega) (by omega) (fun _ he hl9 kk => th_put (ci := 11) (v := .int (I (a360 - 1))) (ty := .int) (C := RX11) (T := TX11) (N := 66) hx hb hts inX11 tyX11 tyX11_ok nmX11 hown hK hH hS h00 he rfl 36 (by decide) fl1 rfl (by decide +kernel) rfl rfl hl9 dX11_keep0_59 kk) (fun σ_s_69 H locs hO hF9 hM9 hg9 ha9 hH hS => ?_)
        replace hM := hM.tu hM9 (by decide)
        replace hF := hF.tu hF9 (by decide)
        have e_70 : gI σ_s_69 a 38 = z_1 := (hM9.i (by decide)).trans J_67_4
        have e_71 : aF σ_s_69 (ad E a 1) = f1 := (hM9.a (by decide) (by decide)).trans J_67_5
        have e_72 : aF σ_s_69 (ad E a 37) = F37q65 := (hM9.a (by decide) (by decide)).trans J_67_6
        have e_73 := hg9
        refine lv_iconst (v := I 0) hx hb dX11_keep0_62 (by decide) ?_
        refine lv_istore_n (lv' := [(1, .int (I 0)), (0, .ref a)]) hx hb dX11_keep0_63 rfl hl (by decide) rfl (fun ls hl => ?_)
        refine th_loop (α := Int × (Nat → Int32)) (pc := 64) (fun x9 => (240 - x9.1).toNat) (fun x9 σ9 H9 l9 ls9 => ok y E σ9 ∧ fr [13] E σ σ9 ∧ fm [36, 37] E σ σ9 a ∧ th_H G b0 σ9 H9 ∧ va_S (th_A b0) s.heap H9 l9 ∧ lv_has ls9 2 [(0, .ref a), (1, .int (I x9.1))] ∧ rng x9.1 ∧ (0 ≤ x9.1) ∧ (x9.1 ≤ 240) ∧ (kp2 F37q65 x9.2 f1 (a360 - 1) x9.1) ∧ (gI σ9 a 38 = z_1) ∧ (gI σ9 a 36 = a360 - 1) ∧ (aF σ9 (ad E a 1) = f1) ∧ (aF σ9 (ad E a 37) = x9.2)) ?_ (0, F37q65) σ_s_69 _ _ _ ⟨hO, hF, hM, hH, hS, lv_sub hl [1, 0] rfl, (show rng 0 from ⟨by decide, by decide⟩), by first | (dsimp only; omega) | omega, by first | (dsimp only; omega) | omega, kp2.zero, e_70, e_73, e_71, e_72⟩
        intro x9 σ_J_76 H locs ls hI9 ihJ_76
        obtain ⟨v1q75, F37q74⟩ := x9
        obtain ⟨hO, hF, hM, hH, hS, hl, rv1q75, J_76_0, J_76_1, J_76_2, J_76_3, J_76_4, J_76_5, J_76_6⟩ := hI9
        have hl : lv_has ls 2 [(0, .ref a), (1, .int (I v1q75))] := hl
        have rv1q75 : rng v1q75 := rv1q75
        have J_76_0 : 0 ≤ v1q75 := J_76_0
        have J_76_1 : v1q75 ≤ 240 := J_76_1
        have J_76_2 : kp2 F37q65 F37q74 f1 (a360 - 1) v1q75 := J_76_2
        have J_76_3 : gI σ_J_76 a 38 = z_1 := J_76_3
        have J_76_4 : gI σ_J_76 a 36 = a360 - 1 := J_76_4
        have J_76_5 : aF σ_J_76 (ad E a 1) = f1 := J_76_5
        have J_76_6 : aF σ_J_76 (ad E a 37) = F37q74 := J_76_6
        refine lv_iload_n hx hb dX11_keep0_64 rfl (lv_at hl 1 rfl) ?_
        refine lv_sipush (v := I 240) hx hb dX11_keep0_65 (by decide) ?_
        refine lv_icmp_ge (tgt := 98) hx hb dX11_keep0_68 (by decide) (fun c_77 => ?_) (fun c_77 => ?_)
        · replace c_77 := (I_le (a := 240) (b := v1q75) (show rng 240 from ⟨by decide, by decide⟩) rv1q75).mp c_77
          refine lv_aload_n hx hb dX11_keep0_98 rfl (lv_at hl 0 rfl) ?_
          refine lv_dup hx hb dX11_keep0_99 rfl ?_
          refine ok.getIc hO h_a (by decide) k13_36 J_76_4 (fun _ _ he hv kk => th_get (ci := 11) (C := RX11) (T := TX11) (N := 66) hx hb hts inX11 hown hK hH he rfl 36 (by decide) fl1 hv dX11_keep0_100 kk) ?_
          refine lv_iconst (v := I 1) hx hb dX11_keep0_103 (by decide) ?_
          refine lv_iadd hx hb dX11_keep0_104 ?_
          refine nq_top (I_add _ _) ?_
          refine ok.putJ hO h_a k13_36 ⟨by omega, by omega⟩ (by omega) (by omega) (fun _ he hl9 kk => th_put (ci := 11) (v := .int (I (a360 - 1 + 1))) (ty := .int) (C := RX11) (T := TX11) (N := 66) hx hb hts inX11 tyX11 tyX11_ok nmX11 hown hK hH hS h00 he rfl 36 (by decide) fl1 rfl (by decide +kernel) rfl rfl hl9 dX11_keep0_105 kk) (fun σ_s_78 H locs hO hF9 hM9 hg9 ha9 hH hS => ?_)
          replace hM := hM.tu hM9 (by decide)
          replace hF := hF.tu hF9 (by decide)
          have e_79 : gI σ_s_78 a 38 = z_1 := (hM9.i (by decide)).trans J_76_3
          have e_80 : aF σ_s_78 (ad E a 1) = f1 := (hM9.a (by decide) (by decide)).trans J_76_5
          have e_81 : aF σ_s_78 (ad E a 37) = F37q74 := (hM9.a (by decide) (by decide)).trans J_76_6
          have e_82 := hg9
          exact th_vret hx hb hr hlocks hH hS ⟨hO, hF, hM, by rw [show aF σ_s_78 (ad E a 37) = F37q74 from e_81]; exact (J_76_2.fin (by omega) (by omega) (((J_67_2.fin (by omega) (hy1.le (by omega)))).le (by omega)) hy0).le (by omega)⟩ dX11_keep0_108
        · replace c_77 := mt (I_le (a := 240) (b := v1q75) (show rng 240 from ⟨by decide, by decide⟩) rv1q75).mpr c_77
          refine lv_aload_n hx hb dX11_keep0_71 rfl (lv_at hl 0 rfl) ?_
          refine ok.getR hO h_a (by decide) k13_37 (by decide) (fun _ _ he hv kk => th_get (ci := 11) (C := RX11) (T := TX11) (N := 66) hx hb hts inX11 hown hK hH he rfl 37 (by decide) fl2 hv dX11_keep0_72 kk) ?_
          refine lv_sipush (v := I 240) hx hb dX11_keep0_75 (by decide) ?_
          refine lv_aload_n hx hb dX11_keep0_78 rfl (lv_at hl 0 rfl) ?_
          refine ok.getIc hO h_a (by decide) k13_36 J_76_4 (fun _ _ he hv kk => th_get (ci := 11) (C := RX11) (T := TX11) (N := 66) hx hb hts inX11 hown hK hH he rfl 36 (by decide) fl1 hv dX11_keep0_79 kk) ?_
          refine lv_imul hx hb dX11_keep0_82 ?_
          refine nq_top (I_mul _ _) ?_
          refine lv_iload_n hx hb dX11_keep0_83 rfl (lv_at hl 1 rfl) ?_
          refine lv_iadd hx hb dX11_keep0_84 ?_
          refine nq_top (I_add _ _) ?_
          refine lv_aload_n hx hb dX11_keep0_85 rfl (lv_at hl 0 rfl) ?_
          refine ok.getR hO h_a (by decide) k13_1 (by decide) (fun _ _ he hv kk => th_get (ci := 11) (C := RX11) (T := TX11) (N := 66) hx hb hts inX11 hown hK hH he rfl 1 (by decide) fl3 hv dX11_keep0_86 kk) ?_
          refine lv_iload_n hx hb dX11_keep0_89 rfl (lv_at hl 1 rfl) ?_
          refine m_iald hx hb hK hH hO h_a k13_1 isA1 J_76_5 rv1q75 (by omega) (by omega) dX11_keep0_90 (fun z_83 ez_83 rz_83 elx9 => ?_)
          refine m_iast hx hb hK hH hS h00 hO h_a k13_37 isA1 (by decide) J_76_6 ⟨by omega, by omega⟩ (by omega) (by omega) rz_83 el1 dX11_keep0_91 (fun σ_s_84 H locs hO hF9 hM9 ha9 hH hS => ?_)
          replace hM := hM.tu hM9 (by decide)
          replace hF := hF.tu hF9 (by decide)
          have e_85 : gI σ_s_84 a 38 = z_1 := (hM9.i (by decide)).trans J_76_3
          have e_86 : gI σ_s_84 a 36 = a360 - 1 := (hM9.i (by decide)).trans J_76_4
          have e_87 : aF σ_s_84 (ad E a 1) = f1 := (hM9.a (by decide) (by decide)).trans J_76_5
          obtain ⟨g_88, dg_88⟩ : ∃ g9, g9 = upd F37q74 (240 * (a360 - 1) + v1q75).toNat (I z_83) := ⟨_, rfl⟩
          rw [← dg_88] at ha9
          have ef_89 := ha9
          refine lv_iinc (v := I (v1q75 + 1)) (lv' := [(1, .int (I (v1q75 + 1))), (0, .ref a)]) hx hb dX11_keep0_92 hl (k := 1) rfl (I_add _ _) (by decide) rfl (fun ls hl => ?_)
          refine lv_goto (tgt := 64) hx hb dX11_keep0_95 (by decide) ?_
          exact ihJ_76 (v1q75 + 1, g_88) σ_s_84 _ _ _ (by first | (dsimp only; omega) | omega) ⟨hO, hF, hM, hH, hS, lv_sub hl [1, 0] rfl, ⟨by first | (dsimp only; omega) | omega, by first | (dsimp only; omega) | omega⟩, by first | (dsimp only; omega) | omega, by first | (dsimp only; omega) | omega, (J_76_2.step dg_88 (by first | (dsimp only; omega) | omega) ez_83 (by first | (dsimp only; omega) | omega) (by first | (dsimp only; omega) | omega) (by first | (dsimp only; omega) | omega)), e_85, e_86, e_87, ef_89⟩
      · replace c_68 := mt (I_le (a := 9600) (b := v1q66) (show rng 9600 from ⟨by decide, by decide⟩) rv1q66).mpr c_68
        refine lv_aload_n hx hb dX11_keep0_30 rfl (lv_at hl 0 rfl) ?_
        refine ok.getR hO h_a (by decide) k13_37 (by decide) (fun _ _ he hv kk => th_get (ci := 11) (C := RX11) (T := TX11) (N := 66) hx hb hts inX11 hown hK hH he rfl 37 (by decide) fl2 hv dX11_keep0_31 kk) ?_
        refine lv_iload_n hx hb dX11_keep0_34 rfl (lv_at hl 1 rfl) ?_
        refine lv_sipush (v := I 240) hx hb dX11_keep0_35 (by decide) ?_
        refine lv_isub hx hb dX11_keep0_38 ?_
        refine nq_top (I_sub _ _) ?_
        refine lv_aload_n hx hb dX11_keep0_39 rfl (lv_at hl 0 rfl) ?_
        refine ok.getR hO h_a (by decide) k13_37 (by decide) (fun _ _ he hv kk => th_get (ci := 11) (C := RX11) (T := TX11) (N := 66) hx hb hts inX11 hown hK hH he rfl 37 (by decide) fl2 hv dX11_keep0_40 kk) ?_
        refine lv_iload_n hx hb dX11_keep0_43 rfl (lv_at hl 1 rfl) ?_
        refine m_iald hx hb hK hH hO h_a k13_37 isA1 J_67_6 rv1q66 (by omega) (by omega) dX11_keep0_44 (fun z_90 ez_90 rz_90 elx9 => ?_)
        refine m_iast hx hb hK hH hS h00 hO h_a k13_37 isA1 (by decide) J_67_6 ⟨by omega, by omega⟩ (by omega) (by omega) rz_90 el1 dX11_keep0_45 (fun σ_s_91 H locs hO hF9 hM9 ha9 hH hS => ?_)
        replace hM := hM.tu hM9 (by decide)
        replace hF := hF.tu hF9 (by decide)
        have e_92 : gI σ_s_91 a 36 = a360 := (hM9.i (by decide)).trans J_67_3
        have e_93 : gI σ_s_91 a 38 = z_1 := (hM9.i (by decide)).trans J_67_4
        have e_94 : aF σ_s_91 (ad E a 1) = f1 := (hM9.a (by decide) (by decide)).trans J_67_5
        obtain ⟨g_95, dg_95⟩ : ∃ g9, g9 = upd F37q65 (v1q66 - 240).toNat (I z_90) := ⟨_, rfl⟩
        rw [← dg_95] at ha9
        have ef_96 := ha9
        refine lv_iinc (v := I (v1q66 + 1)) (lv' := [(1, .int (I (v1q66 + 1))), (0, .ref a)]) hx hb dX11_keep0_46 hl (k := 1) rfl (I_add _ _) (by decide) rfl (fun ls hl => ?_)
        refine lv_goto (tgt := 21) hx hb dX11_keep0_49 (by decide) ?_
        exact ihJ_67 (v1q66 + 1, g_95) σ_s_91 _ _ _ (by first | (dsimp only; omega) | omega) ⟨hO, hF, hM, hH, hS, lv_sub hl [1, 0] rfl, ⟨by first | (dsimp only; omega) | omega, by first | (dsimp only; omega) | omega⟩, by first | (dsimp only; omega) | omega, by first | (dsimp only; omega) | omega, (J_67_2.step (by first | (dsimp only; omega) | omega) dg_95 (by first | (dsimp only; omega) | omega) ez_90 (by first | (dsimp only; omega) | omega)), e_92, e_93, e_94, ef_96⟩
  · replace c_3 := mt (I_eq (a := z_1) (b := 0) rz_1 (show rng 0 from ⟨by decide, by decide⟩)).mpr c_3
    exact th_vret hx hb hr hlocks hH hS ⟨hO, hF, hM, by rw [show aF σ (ad E a 37) = f37 from ef37]; exact hy1.le (by omega)⟩ dX11_keep0_7

set_option maxHeartbeats 4000000 in
set_option maxRecDepth 100000 in
theorem m_becomesTree (l : Launch) (G : va_G) (y : Nat → ClassId) (b0 : Nat) (σ : th_M) (E : th_E) (hO : ok y E σ) (a : Nat) (h_a : kd E a = 13) (f1 : Nat → Int32) (ef1 : aF σ (ad E a 1) = f1) (f3 : Nat → Int32) (ef3 : aF σ (ad E a 3) = f3) (f37 : Nat → Int32) (ef37 : aF σ (ad E a 37) = f37) (hy0 : tr f1) (hy1 : trs f37 (gI σ a 36)) (hy2 : mT f3 0 (gI σ a 5)) (hy3 : mS f3 0 = gI σ a 5) (hy4 : 1 ≤ gI σ a 5) : Met l yX11_becomesTree wsX11_becomesTree ({ frames := 3, cells := 0, slots := 0, locals := 78 }) (th_P G y b0 σ [.ref a]) (th_Qi G b0 (fun r σ1 => ok y E σ1 ∧ fr [13] E σ σ1 ∧ fm [1, 36, 37] E σ σ1 a ∧ (0 ≤ r ∧ r ≤ 1) ∧ (tr (aF σ1 (ad E a 1)) ∧ trs (aF σ1 (ad E a 37)) (gI σ1 a 36)))) 0 0 (th_A b0) := by
  refine Met.ofW (cc := cX11_becomesTree) (maxL := 2) (ret := (some .boolean)) (by decide) rfl ?_
  intro p e s m args below meth c s₁ B hml hv
  obtain ⟨rfl, hH, hK⟩ := hv
  have hx := B.exec
  have hb := B.bytes
  have hr := B.returns
  have hts := atoms_spec (ws := wsX11_becomesTree) B.pre
  have hown : s.vm.findClass RX11 = some m.cls := findClass_of_methodNamed B.named
  have hlocks := B.notSynchronized
  have h00 : b0 ≤ s.heap.size := hH.1
  have hS : va_S (th_A b0) s.heap s.heap [] := va_S.rf
  have hF : fr [13] E σ σ := fr.rf
  have hM : fm [1, 36, 37] E σ σ a := fm.rf
  have inX11 : ∀ w ∈ wsX110, w ∈ wsX11_becomesTree := by decide +kernel
  have fl0 := hts (.fieldLink RX11 353 "NestQueryModel" "madeMany" "I") (by decide +kernel)
  have fl1 := hts (.fieldLink RX11 9 "NestQueryModel" "tree" "[I") (by decide +kernel)
  have fl2 := hts (.fieldLink RX11 16 "NestQueryModel" "made" "[I") (by decide +kernel)
  have hl := lv_entry ([.ref a]) (n := 2) (Nat.le_of_ble_eq_true rfl)
  rw [lg_entry_eq]
  generalize (lg_sl ([.ref a]) ++ List.replicate (2 - (lg_sl ([.ref a])).length) Slot.unset).toArray = ls at hl ⊢
  have hl : lv_has ls 2 [(0, .ref a)] := hl
  obtain ⟨a50, ea50, ra50, la50, ua50⟩ := hO.gi h_a (by decide) k13_5
  refine lv_aload_n hx hb dX11_becomesTree_0 rfl (lv_at hl 0 rfl) ?_
  obtain ⟨_, hc_1⟩ := hO.cell h_a (by decide) (ci := 11) rfl
  refine th_calli (va_runV (As := []) (rest := []) ⟨hx, hb, hml, hown, hts⟩ (m_isTooMuch l G y b0 σ E hO a h_a f3 ef3 (hy2.1)) (cwV 0 hts gX11_becomesTree_X11_isTooMuch rfl rfl rfl (by decide +kernel) ⟨Nat.le_of_ble_eq_true rfl, Nat.le_of_ble_eq_true rfl⟩) (th_PV hK hH rfl hc_1) rfl rfl hl.1 rfl (lv_room (Nat.le_of_ble_eq_true rfl)) dX11_becomesTree_1 ⟨Nat.le_of_ble_eq_true rfl, Nat.le_of_ble_eq_true rfl⟩) hS (fun z_4 σ_s_3 H locs rz_4 hw_2 hH hS => ?_)
  obtain ⟨e9, bhw_2, hw_2⟩ := hw_2
  replace e9 := e9.symm
  subst e9
  have hw_2 : z_4 = 1 ∨ (z_4 = 0 ∧ gI σ a 5 ≤ 60 ∧ dk f3 (gI σ a 5)) := hw_2
  refine lv_if_eq (tgt := 9) hx hb dX11_becomesTree_4 (by decide) (fun c_5 => ?_) (fun c_5 => ?_)
  · replace c_5 := (I_eq (a := z_4) (b := 0) rz_4 (show rng 0 from ⟨by decide, by decide⟩)).mp c_5
    refine lv_aload_n hx hb dX11_becomesTree_9 rfl (lv_at hl 0 rfl) ?_
    obtain ⟨_, hc_6⟩ := hO.cell h_a (by decide) (ci := 11) rfl
    refine th_callv (va_runV (As := []) (rest := []) ⟨hx, hb, hml, hown, hts⟩ (m_keep0 l G y b0 σ E hO a h_a f1 ef1 f37 ef37 (hy0) (hy1)) (cwV 0 hts gX11_becomesTree_X11_keep0 rfl rfl rfl (by decide +kernel) ⟨Nat.le_of_ble_eq_true rfl, Nat.le_of_ble_eq_true rfl⟩) (th_PV hK hH rfl hc_6) rfl rfl hl.1 rfl (lv_room (Nat.le_of_ble_eq_true rfl)) dX11_becomesTree_10 ⟨Nat.le_of_ble_eq_true rfl, Nat.le_of_ble_eq_true rfl⟩) hS (fun σ_s_8 H locs hw_7 hH hS => ?_)
    obtain ⟨hO9, hF9, hM9, hw_7⟩ := hw_7
    replace hM := hM.tu hM9 (by decide)
    replace hF := hF.tu hF9 (by decide)
    have e_9 : aF σ_s_8 (ad E a 1) = f1 := (hM9.a (by decide) (by decide)).trans ef1
    have e_10 : aF σ_s_8 (ad E a 3) = f3 := (hM9.a (by decide) (by decide)).trans ef3
    have e_11 : gI σ_s_8 a 5 = a50 := (hM9.i (by decide)).trans ea50
    replace hO := hO9
    generalize ef_13 : aF σ_s_8 (ad E a 37) = g_12 at hw_7
    have hw_7 : trs g_12 (gI σ_s_8 a 36) := hw_7
    obtain ⟨z_14, e_15, rz_14, lz_14, uz_14⟩ := hO.gi h_a (by decide) k13_36
    refine lv_iconst (v := I 0) hx hb dX11_becomesTree_13 (by decide) ?_
    refine lv_istore_n (lv' := [(1, .int (I 0)), (0, .ref a)]) hx hb dX11_becomesTree_14 rfl hl (by decide) rfl (fun ls hl => ?_)
    refine th_loop (α := Int × (Nat → Int32)) (pc := 15) (fun x9 => (4 * gI σ a 5 - x9.1).toNat) (fun x9 σ9 H9 l9 ls9 => ok y E σ9 ∧ fr [13] E σ σ9 ∧ fm [1, 36, 37] E σ σ9 a ∧ th_H G b0 σ9 H9 ∧ va_S (th_A b0) s.heap H9 l9 ∧ lv_has ls9 2 [(0, .ref a), (1, .int (I x9.1))] ∧ rng x9.1 ∧ (0 ≤ x9.1) ∧ (x9.1 ≤ 240) ∧ (x9.1 ≤ 4 * gI σ a 5) ∧ (cpd f1 x9.2 f3 0 0 x9.1) ∧ (gI σ9 a 5 = a50) ∧ (gI σ9 a 36 = z_14) ∧ (aF σ9 (ad E a 3) = f3) ∧ (aF σ9 (ad E a 37) = g_12) ∧ (aF σ9 (ad E a 1) = x9.2)) ?_ (0, f1) σ_s_8 _ _ _ ⟨hO, hF, hM, hH, hS, lv_sub hl [1, 0] rfl, (show rng 0 from ⟨by decide, by decide⟩), by first | (dsimp only; omega) | omega, by first | (dsimp only; omega) | omega, by first | (dsimp only; omega) | omega, cpd.zero, e_11, e_15, e_10, ef_13, e_9⟩
    intro x9 σ_J_42 H locs ls hI9 ihJ_42
    obtain ⟨v1q41, F1q40⟩ := x9
    obtain ⟨hO, hF, hM, hH, hS, hl, rv1q41, J_42_0, J_42_1, J_42_2, J_42_3, J_42_4, J_42_5, J_42_6, J_42_7, J_42_8⟩ := hI9
    have hl : lv_has ls 2 [(0, .ref a), (1, .int (I v1q41))] := hl
    have rv1q41 : rng v1q41 := rv1q41
    have J_42_0 : 0 ≤ v1q41 := J_42_0
    have J_42_1 : v1q41 ≤ 240 := J_42_1
    have J_42_2 : v1q41 ≤ 4 * gI σ a 5 := J_42_2
    have J_42_3 : cpd f1 F1q40 f3 0 0 v1q41 := J_42_3
    have J_42_4 : gI σ_J_42 a 5 = a50 := J_42_4
    have J_42_5 : gI σ_J_42 a 36 = z_14 := J_42_5
    have J_42_6 : aF σ_J_42 (ad E a 3) = f3 := J_42_6
    have J_42_7 : aF σ_J_42 (ad E a 37) = g_12 := J_42_7
    have J_42_8 : aF σ_J_42 (ad E a 1) = F1q40 := J_42_8
    refine lv_iload_n hx hb dX11_becomesTree_15 rfl (lv_at hl 1 rfl) ?_
    refine lv_iconst (v := I 4) hx hb dX11_becomesTree_16 (by decide) ?_
    refine lv_aload_n hx hb dX11_becomesTree_17 rfl (lv_at hl 0 rfl) ?_
    refine ok.getIc hO h_a (by decide) k13_5 J_42_4 (fun _ _ he hv kk => th_get (ci := 11) (C := RX11) (T := TX11) (N := 66) hx hb hts inX11 hown hK hH he rfl 5 (by decide) fl0 hv dX11_becomesTree_18 kk) ?_
    refine lv_imul hx hb dX11_becomesTree_21 ?_
    refine nq_top (I_mul _ _) ?_
    refine lv_icmp_ge (tgt := 43) hx hb dX11_becomesTree_22 (by decide) (fun c_43 => ?_) (fun c_43 => ?_)
    · replace c_43 := (I_le (a := 4 * a50) (b := v1q41) ⟨by omega, by omega⟩ rv1q41).mp c_43
      refine lv_iconst (v := I 1) hx hb dX11_becomesTree_43 (by decide) ?_
      exact th_zret hx hb hr hlocks hH hS (z := 1) (by omega) ⟨hO, hF, hM, ⟨by omega, by omega⟩, by rw [show aF σ_J_42 (ad E a 1) = F1q40 from J_42_8, show aF σ_J_42 (ad E a 37) = g_12 from J_42_7]; have h9 := (J_42_3.fin (n := gI σ a 5) (by omega) (by omega)).2; rw [Int.zero_add, Int.sub_zero] at h9; have h8 := hw_2.resolve_left (by omega); exact ⟨tr.mk hy2 hy3 (by omega) (by omega) h8.2.2 h9, (hw_7).le (by omega)⟩⟩ dX11_becomesTree_44
    · replace c_43 := mt (I_le (a := 4 * a50) (b := v1q41) ⟨by omega, by omega⟩ rv1q41).mpr c_43
      refine lv_aload_n hx hb dX11_becomesTree_25 rfl (lv_at hl 0 rfl) ?_
      refine ok.getR hO h_a (by decide) k13_1 (by decide) (fun _ _ he hv kk => th_get (ci := 11) (C := RX11) (T := TX11) (N := 66) hx hb hts inX11 hown hK hH he rfl 1 (by decide) fl1 hv dX11_becomesTree_26 kk) ?_
      refine lv_iload_n hx hb dX11_becomesTree_29 rfl (lv_at hl 1 rfl) ?_
      refine lv_aload_n hx hb dX11_becomesTree_30 rfl (lv_at hl 0 rfl) ?_
      refine ok.getR hO h_a (by decide) k13_3 (by decide) (fun _ _ he hv kk => th_get (ci := 11) (C := RX11) (T := TX11) (N := 66) hx hb hts inX11 hown hK hH he rfl 3 (by decide) fl2 hv dX11_becomesTree_31 kk) ?_
      refine lv_iload_n hx hb dX11_becomesTree_34 rfl (lv_at hl 1 rfl) ?_
      refine m_iald hx hb hK hH hO h_a k13_3 isA1 J_42_6 rv1q41 (by omega) (by omega) dX11_becomesTree_35 (fun z_44 ez_44 rz_44 elx9 => ?_)
      refine m_iast hx hb hK hH hS h00 hO h_a k13_1 isA1 (by decide) J_42_8 rv1q41 (by omega) (by omega) rz_44 el1 dX11_becomesTree_36 (fun σ_s_45 H locs hO hF9 hM9 ha9 hH hS => ?_)
      replace hM := hM.tu hM9 (by decide)
      replace hF := hF.tu hF9 (by decide)
      have e_46 : gI σ_s_45 a 5 = a50 := (hM9.i (by decide)).trans J_42_4
      have e_47 : gI σ_s_45 a 36 = z_14 := (hM9.i (by decide)).trans J_42_5
      have e_48 : aF σ_s_45 (ad E a 3) = f3 := (hM9.a (by decide) (by decide)).trans J_42_6
      have e_49 : aF σ_s_45 (ad E a 37) = g_12 := (hM9.a (by decide) (by decide)).trans J_42_7
      obtain ⟨g_50, dg_50⟩ : ∃ g9, g9 = upd F1q40 (v1q41).toNat (I z_44) := ⟨_, rfl⟩
      rw [← dg_50] at ha9
      have ef_51 := ha9
      refine lv_iinc (v := I (v1q41 + 1)) (lv' := [(1, .int (I (v1q41 + 1))), (0, .ref a)]) hx hb dX11_becomesTree_37 hl (k := 1) rfl (I_add _ _) (by decide) rfl (fun ls hl => ?_)
      refine lv_goto (tgt := 15) hx hb dX11_becomesTree_40 (by decide) ?_
      exact ihJ_42 (v1q41 + 1, g_50) σ_s_45 _ _ _ (by first | (dsimp only; omega) | omega) ⟨hO, hF, hM, hH, hS, lv_sub hl [1, 0] rfl, ⟨by first | (dsimp only; omega) | omega, by first | (dsimp only; omega) | omega⟩, by first | (dsimp only; omega) | omega, by first | (dsimp only; omega) | omega, by first | (dsimp only; omega) | omega, (J_42_3.step dg_50 (by first | (dsimp only; omega) | omega) ez_44 (by first | (dsimp only; omega) | omega) (by first | (dsimp only; omega) | omega) (by first | (dsimp only; omega) | omega)), e_46, e_47, e_48, e_49, ef_51⟩
  · replace c_5 := mt (I_eq (a := z_4) (b := 0) rz_4 (show rng 0 from ⟨by decide, by decide⟩)).mpr c_5
    refine lv_iconst (v := I 0) hx hb dX11_becomesTree_7 (by decide) ?_
    exact th_zret hx hb hr hlocks hH hS (z := 0) (by omega) ⟨hO, hF, hM, ⟨by omega, by omega⟩, by rw [show aF σ (ad E a 1) = f1 from ef1, show aF σ (ad E a 37) = f37 from ef37]; exact ⟨hy0, hy1.le (by omega)⟩⟩ dX11_becomesTree_8
