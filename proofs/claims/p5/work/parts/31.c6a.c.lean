set_option maxHeartbeats 4000000 in
set_option maxRecDepth 100000 in
theorem m_isBehind (l : Launch) (G : va_G) (y : Nat → ClassId) (b0 : Nat) (σ : th_M) (E : th_E) (hO : ok y E σ) (a : Nat) (h_a : kd E a = 13) (i : Int) (ri : rng i) (l_i : 0 ≤ i) (u_i : i ≤ 59) (j : Int) (rj : rng j) (l_j : 0 ≤ j) (u_j : j ≤ 59) : Met l yX11_isBehind wsX11_isBehind ({ frames := 2, cells := 0, slots := 0, locals := 53 }) (th_P G y b0 σ [.ref a, .int (I i), .int (I j)]) (th_Qi G b0 (fun r σ1 => σ1 = σ ∧ (0 ≤ r ∧ r ≤ 1) ∧ (True))) 0 0 (th_A b0) := by
  refine Met.ofW (cc := cX11_isBehind) (maxL := 5) (ret := (some .boolean)) (by decide) rfl ?_
  intro p e s m args below meth c s₁ B hml hv
  obtain ⟨rfl, hH, hK⟩ := hv
  have hx := B.exec
  have hb := B.bytes
  have hr := B.returns
  have hts := atoms_spec (ws := wsX11_isBehind) B.pre
  have hown : s.vm.findClass RX11 = some m.cls := findClass_of_methodNamed B.named
  have hlocks := B.notSynchronized
  have h00 : b0 ≤ s.heap.size := hH.1
  have hS : va_S (th_A b0) s.heap s.heap [] := va_S.rf
  have inX11 : ∀ w ∈ wsX110, w ∈ wsX11_isBehind := by decide +kernel
  have fl0 := hts (.fieldLink RX11 9 "NestQueryModel" "tree" "[I") (by decide +kernel)
  have hl := lv_entry ([.ref a, .int (I i), .int (I j)]) (n := 5) (Nat.le_of_ble_eq_true rfl)
  rw [lg_entry_eq]
  generalize (lg_sl ([.ref a, .int (I i), .int (I j)]) ++ List.replicate (5 - (lg_sl ([.ref a, .int (I i), .int (I j)])).length) Slot.unset).toArray = ls at hl ⊢
  have hl : lv_has ls 5 [(0, .ref a), (1, .int (I i)), (2, .int (I j))] := hl
  refine lv_aload_n hx hb dX11_isBehind_0 rfl (lv_at hl 0 rfl) ?_
  refine ok.getR hO h_a (by decide) k13_1 (by decide) (fun _ _ he hv kk => th_get (ci := 11) (C := RX11) (T := TX11) (N := 66) hx hb hts inX11 hown hK hH he rfl 1 (by decide) fl0 hv dX11_isBehind_1 kk) ?_
  refine lv_iload_n hx hb dX11_isBehind_4 rfl (lv_at hl 1 rfl) ?_
  obtain ⟨f_1, ef_2⟩ : ∃ f9, aF σ (ad E a 1) = f9 := ⟨_, rfl⟩
  refine th_calli (va_runS (As := [.ref (ad E a 1), .int (I i)]) (rest := []) ⟨hx, hb, hml, hown, hts⟩ (w_kind l G y b0 σ E hO (ad E a 1) 240 f_1 (hO.roww h_a k13_1 isA1 ef_2 rfl) i (show rng i from ri) (by omega) (by omega) (by omega)) (va_cwS 2 hts gX11_isBehind_X11_kind rfl rfl rfl (by decide +kernel) ⟨Nat.le_of_ble_eq_true rfl, Nat.le_of_ble_eq_true rfl⟩) (th_PS hK hH) rfl rfl hl.1 rfl (lv_room (Nat.le_of_ble_eq_true rfl)) dX11_isBehind_5 ⟨Nat.le_of_ble_eq_true rfl, Nat.le_of_ble_eq_true rfl⟩) hS (fun z_5 σ_s_4 H locs rz_5 hw_3 hH hS => ?_)
  obtain ⟨e9, hw_3⟩ := hw_3
  replace e9 := e9.symm
  subst e9
  have hw_3 : z_5 = mK f_1 i := hw_3
  refine lv_istore_n (lv' := [(3, .int (I z_5)), (0, .ref a), (1, .int (I i)), (2, .int (I j))]) hx hb dX11_isBehind_8 rfl hl (by decide) rfl (fun ls hl => ?_)
  refine lv_aload_n hx hb dX11_isBehind_9 rfl (lv_at hl 1 rfl) ?_
  refine ok.getR hO h_a (by decide) k13_1 (by decide) (fun _ _ he hv kk => th_get (ci := 11) (C := RX11) (T := TX11) (N := 66) hx hb hts inX11 hown hK hH he rfl 1 (by decide) fl0 hv dX11_isBehind_10 kk) ?_
  refine lv_iload_n hx hb dX11_isBehind_13 rfl (lv_at hl 3 rfl) ?_
  refine th_calli (va_runS (As := [.ref (ad E a 1), .int (I j)]) (rest := []) ⟨hx, hb, hml, hown, hts⟩ (w_kind l G y b0 σ E hO (ad E a 1) 240 f_1 (hO.roww h_a k13_1 isA1 ef_2 rfl) j (show rng j from rj) (by omega) (by omega) (by omega)) (va_cwS 2 hts gX11_isBehind_X11_kind rfl rfl rfl (by decide +kernel) ⟨Nat.le_of_ble_eq_true rfl, Nat.le_of_ble_eq_true rfl⟩) (th_PS hK hH) rfl rfl hl.1 rfl (lv_room (Nat.le_of_ble_eq_true rfl)) dX11_isBehind_14 ⟨Nat.le_of_ble_eq_true rfl, Nat.le_of_ble_eq_true rfl⟩) hS (fun z_8 σ_s_7 H locs rz_8 hw_6 hH hS => ?_)
  obtain ⟨e9, hw_6⟩ := hw_6
  replace e9 := e9.symm
  subst e9
  have hw_6 : z_8 = mK f_1 j := hw_6
  refine lv_istore (lv' := [(4, .int (I z_8)), (3, .int (I z_5)), (0, .ref a), (1, .int (I i)), (2, .int (I j))]) hx hb dX11_isBehind_17 hl (by decide) rfl (fun ls hl => ?_)
  refine lv_iload_n hx hb dX11_isBehind_19 rfl (lv_at hl 1 rfl) ?_
  refine lv_iload hx hb dX11_isBehind_20 (lv_at hl 0 rfl) ?_
  refine lv_icmp_eq (tgt := 37) hx hb dX11_isBehind_22 (by decide) (fun c_9 => ?_) (fun c_9 => ?_)
  · replace c_9 := (I_eq (a := z_5) (b := z_8) rz_5 rz_8).mp c_9
    refine lv_iload_n hx hb dX11_isBehind_37 rfl (lv_at hl 1 rfl) ?_
    refine lv_if_ne (tgt := 72) hx hb dX11_isBehind_38 (by decide) (fun c_10 => ?_) (fun c_10 => ?_)
    · replace c_10 := mt (I_eq (a := z_5) (b := 0) rz_5 (show rng 0 from ⟨by decide, by decide⟩)).mpr c_10
      refine lv_iload_n hx hb dX11_isBehind_72 rfl (lv_at hl 1 rfl) ?_
      refine lv_iconst (v := I 1) hx hb dX11_isBehind_73 (by decide) ?_
      refine lv_icmp_ne (tgt := 107) hx hb dX11_isBehind_74 (by decide) (fun c_11 => ?_) (fun c_11 => ?_)
      · replace c_11 := mt (I_eq (a := z_5) (b := 1) rz_5 (show rng 1 from ⟨by decide, by decide⟩)).mpr c_11
        refine lv_iconst (v := I 0) hx hb dX11_isBehind_107 (by decide) ?_
        exact th_zret hx hb hr hlocks hH hS (z := 0) (by omega) ⟨rfl, ⟨by omega, by omega⟩, trivial⟩ dX11_isBehind_108
      · replace c_11 := (I_eq (a := z_5) (b := 1) rz_5 (show rng 1 from ⟨by decide, by decide⟩)).mp c_11
        refine lv_aload_n hx hb dX11_isBehind_77 rfl (lv_at hl 2 rfl) ?_
        refine ok.getR hO h_a (by decide) k13_1 (by decide) (fun _ _ he hv kk => th_get (ci := 11) (C := RX11) (T := TX11) (N := 66) hx hb hts inX11 hown hK hH he rfl 1 (by decide) fl0 hv dX11_isBehind_78 kk) ?_
        refine lv_iconst (v := I 4) hx hb dX11_isBehind_81 (by decide) ?_
        refine lv_iload_n hx hb dX11_isBehind_82 rfl (lv_at hl 3 rfl) ?_
        refine lv_imul hx hb dX11_isBehind_83 ?_
        refine nq_top (I_mul _ _) ?_
        refine lv_iconst (v := I 1) hx hb dX11_isBehind_84 (by decide) ?_
        refine lv_iadd hx hb dX11_isBehind_85 ?_
        refine nq_top (I_add _ _) ?_
        refine m_iald hx hb hK hH hO h_a k13_1 isA1 ef_2 ⟨by omega, by omega⟩ (by omega) (by omega) dX11_isBehind_86 (fun z_12 ez_12 rz_12 elx9 => ?_)
        refine lv_aload_n hx hb dX11_isBehind_87 rfl (lv_at hl 2 rfl) ?_
        refine ok.getR hO h_a (by decide) k13_1 (by decide) (fun _ _ he hv kk => th_get (ci := 11) (C := RX11) (T := TX11) (N := 66) hx hb hts inX11 hown hK hH he rfl 1 (by decide) fl0 hv dX11_isBehind_88 kk) ?_
        refine lv_iconst (v := I 4) hx hb dX11_isBehind_91 (by decide) ?_
        refine lv_iload_n hx hb dX11_isBehind_92 rfl (lv_at hl 4 rfl) ?_
        refine lv_imul hx hb dX11_isBehind_93 ?_
        refine nq_top (I_mul _ _) ?_
        refine lv_iconst (v := I 1) hx hb dX11_isBehind_94 (by decide) ?_
        refine lv_iadd hx hb dX11_isBehind_95 ?_
        refine nq_top (I_add _ _) ?_
        refine m_iald hx hb hK hH hO h_a k13_1 isA1 ef_2 ⟨by omega, by omega⟩ (by omega) (by omega) dX11_isBehind_96 (fun z_13 ez_13 rz_13 elx9 => ?_)
        refine th_calli (va_runS (As := [.int (I z_12), .int (I z_13)]) (rest := []) ⟨hx, hb, hml, hown, hts⟩ (w_compareWords l G y b0 σ E hO z_12 (show rng z_12 from rz_12) z_13 (show rng z_13 from rz_13)) (va_cwS 2 hts gX11_isBehind_X11_compareWords rfl rfl rfl (by decide +kernel) ⟨Nat.le_of_ble_eq_true rfl, Nat.le_of_ble_eq_true rfl⟩) (th_PS hK hH) rfl rfl hl.1 rfl (lv_room (Nat.le_of_ble_eq_true rfl)) dX11_isBehind_97 ⟨Nat.le_of_ble_eq_true rfl, Nat.le_of_ble_eq_true rfl⟩) hS (fun z_16 σ_s_15 H locs rz_16 hw_14 hH hS => ?_)
        obtain ⟨e9, hw_14⟩ := hw_14
        replace e9 := e9.symm
        subst e9
        refine lv_if_le (tgt := 107) hx hb dX11_isBehind_100 (by decide) (fun c_17 => ?_) (fun c_17 => ?_)
        · replace c_17 := (I_le (a := z_16) (b := 0) rz_16 (show rng 0 from ⟨by decide, by decide⟩)).mp c_17
          refine lv_iconst (v := I 0) hx hb dX11_isBehind_107 (by decide) ?_
          exact th_zret hx hb hr hlocks hH hS (z := 0) (by omega) ⟨rfl, ⟨by omega, by omega⟩, trivial⟩ dX11_isBehind_108
        · replace c_17 := mt (I_le (a := z_16) (b := 0) rz_16 (show rng 0 from ⟨by decide, by decide⟩)).mpr c_17
          refine lv_iconst (v := I 1) hx hb dX11_isBehind_103 (by decide) ?_
          refine lv_goto (tgt := 108) hx hb dX11_isBehind_104 (by decide) ?_
          exact th_zret hx hb hr hlocks hH hS (z := 1) (by omega) ⟨rfl, ⟨by omega, by omega⟩, trivial⟩ dX11_isBehind_108
    · replace c_10 := (I_eq (a := z_5) (b := 0) rz_5 (show rng 0 from ⟨by decide, by decide⟩)).mp c_10
      refine lv_aload_n hx hb dX11_isBehind_41 rfl (lv_at hl 2 rfl) ?_
      refine ok.getR hO h_a (by decide) k13_1 (by decide) (fun _ _ he hv kk => th_get (ci := 11) (C := RX11) (T := TX11) (N := 66) hx hb hts inX11 hown hK hH he rfl 1 (by decide) fl0 hv dX11_isBehind_42 kk) ?_
      refine lv_iconst (v := I 4) hx hb dX11_isBehind_45 (by decide) ?_
      refine lv_iload_n hx hb dX11_isBehind_46 rfl (lv_at hl 3 rfl) ?_
      refine lv_imul hx hb dX11_isBehind_47 ?_
      refine nq_top (I_mul _ _) ?_
      refine lv_iconst (v := I 1) hx hb dX11_isBehind_48 (by decide) ?_
      refine lv_iadd hx hb dX11_isBehind_49 ?_
      refine nq_top (I_add _ _) ?_
      refine m_iald hx hb hK hH hO h_a k13_1 isA1 ef_2 ⟨by omega, by omega⟩ (by omega) (by omega) dX11_isBehind_50 (fun z_18 ez_18 rz_18 elx9 => ?_)
      refine lv_aload_n hx hb dX11_isBehind_51 rfl (lv_at hl 2 rfl) ?_
      refine ok.getR hO h_a (by decide) k13_1 (by decide) (fun _ _ he hv kk => th_get (ci := 11) (C := RX11) (T := TX11) (N := 66) hx hb hts inX11 hown hK hH he rfl 1 (by decide) fl0 hv dX11_isBehind_52 kk) ?_
      refine lv_iconst (v := I 4) hx hb dX11_isBehind_55 (by decide) ?_
      refine lv_iload_n hx hb dX11_isBehind_56 rfl (lv_at hl 4 rfl) ?_
      refine lv_imul hx hb dX11_isBehind_57 ?_
      refine nq_top (I_mul _ _) ?_
      refine lv_iconst (v := I 1) hx hb dX11_isBehind_58 (by decide) ?_
      refine lv_iadd hx hb dX11_isBehind_59 ?_
      refine nq_top (I_add _ _) ?_
      refine m_iald hx hb hK hH hO h_a k13_1 isA1 ef_2 ⟨by omega, by omega⟩ (by omega) (by omega) dX11_isBehind_60 (fun z_19 ez_19 rz_19 elx9 => ?_)
      refine lv_icmp_le (tgt := 68) hx hb dX11_isBehind_61 (by decide) (fun c_20 => ?_) (fun c_20 => ?_)
      · replace c_20 := (I_le (a := z_18) (b := z_19) rz_18 rz_19).mp c_20
        refine lv_iconst (v := I 0) hx hb dX11_isBehind_68 (by decide) ?_
        refine lv_goto (tgt := 108) hx hb dX11_isBehind_69 (by decide) ?_
        exact th_zret hx hb hr hlocks hH hS (z := 0) (by omega) ⟨rfl, ⟨by omega, by omega⟩, trivial⟩ dX11_isBehind_108
      · replace c_20 := mt (I_le (a := z_18) (b := z_19) rz_18 rz_19).mpr c_20
        refine lv_iconst (v := I 1) hx hb dX11_isBehind_64 (by decide) ?_
        refine lv_goto (tgt := 108) hx hb dX11_isBehind_65 (by decide) ?_
        exact th_zret hx hb hr hlocks hH hS (z := 1) (by omega) ⟨rfl, ⟨by omega, by omega⟩, trivial⟩ dX11_isBehind_108
  · replace c_9 := mt (I_eq (a := z_5) (b := z_8) rz_5 rz_8).mpr c_9
    refine lv_iload_n hx hb dX11_isBehind_25 rfl (lv_at hl 1 rfl) ?_
    refine lv_iload hx hb dX11_isBehind_26 (lv_at hl 0 rfl) ?_
    refine lv_icmp_le (tgt := 35) hx hb dX11_isBehind_28 (by decide) (fun c_21 => ?_) (fun c_21 => ?_)
    · replace c_21 := (I_le (a := z_5) (b := z_8) rz_5 rz_8).mp c_21
      refine lv_iconst (v := I 0) hx hb dX11_isBehind_35 (by decide) ?_
      exact th_zret hx hb hr hlocks hH hS (z := 0) (by omega) ⟨rfl, ⟨by omega, by omega⟩, trivial⟩ dX11_isBehind_36
    · replace c_21 := mt (I_le (a := z_5) (b := z_8) rz_5 rz_8).mpr c_21
      refine lv_iconst (v := I 1) hx hb dX11_isBehind_31 (by decide) ?_
      refine lv_goto (tgt := 36) hx hb dX11_isBehind_32 (by decide) ?_
      exact th_zret hx hb hr hlocks hH hS (z := 1) (by omega) ⟨rfl, ⟨by omega, by omega⟩, trivial⟩ dX11_isBehind_36

set_option maxHeartbeats 4000000 in
set_option maxRecDepth 100000 in
theorem m_sort (l : Launch) (G : va_G) (y : Nat → ClassId) (b0 : Nat) (σ : th_M) (E : th_E) (hO : ok y E σ) (a : Nat) (h_a : kd E a = 13) (b : Int) (rb : rng b) (l_b : 0 ≤ b) (u_b : b ≤ 480) (n : Int) (rn : rng n) (l_n : 0 ≤ n) (u_n : n ≤ 60) (i : Int) (f1 : Nat → Int32) (ef1 : aF σ (ad E a 1) = f1) (f35 : Nat → Int32) (ef35 : aF σ (ad E a 35) = f35) (hy0 : wf f1 0 (mS f1 0)) (hy1 : 1 ≤ mS f1 0 ∧ mS f1 0 ≤ 60) (hy2 : prm f1 f35 b n.toNat i) (hy3 : 0 ≤ i ∧ i < mS f1 0) : Met l yX11_sort wsX11_sort ({ frames := 3, cells := 0, slots := 0, locals := 81 }) (th_P G y b0 σ [.ref a, .int (I b), .int (I n)]) (th_Qv G b0 (fun σ1 => ok y E σ1 ∧ fr [13] E σ σ1 ∧ fm [35] E σ σ1 a ∧ (prm f1 (aF σ1 (ad E a 35)) b n.toNat i ∧ ofr f35 (aF σ1 (ad E a 35)) b))) 0 0 (th_A b0) := by
  refine Met.ofW (cc := cX11_sort) (maxL := 6) (ret := none) (by decide) rfl ?_
  intro p e s m args below meth c s₁ B hml hv
  obtain ⟨rfl, hH, hK⟩ := hv
  have hx := B.exec
  have hb := B.bytes
  have hr := B.returns
  have hts := atoms_spec (ws := wsX11_sort) B.pre
  have hown : s.vm.findClass RX11 = some m.cls := findClass_of_methodNamed B.named
  have hlocks := B.notSynchronized
  have h00 : b0 ≤ s.heap.size := hH.1
  have hS : va_S (th_A b0) s.heap s.heap [] := va_S.rf
  have hF : fr [13] E σ σ := fr.rf
  have hM : fm [35] E σ σ a := fm.rf
  have inX11 : ∀ w ∈ wsX110, w ∈ wsX11_sort := by decide +kernel
  have fl0 := hts (.fieldLink RX11 45 "NestQueryModel" "order" "[I") (by decide +kernel)
  have hl := lv_entry ([.ref a, .int (I b), .int (I n)]) (n := 6) (Nat.le_of_ble_eq_true rfl)
  rw [lg_entry_eq]
  generalize (lg_sl ([.ref a, .int (I b), .int (I n)]) ++ List.replicate (6 - (lg_sl ([.ref a, .int (I b), .int (I n)])).length) Slot.unset).toArray = ls at hl ⊢
  have hl : lv_has ls 6 [(0, .ref a), (1, .int (I b)), (2, .int (I n))] := hl
  refine lv_iconst (v := I 1) hx hb dX11_sort_0 (by decide) ?_
  refine lv_istore_n (lv' := [(3, .int (I 1)), (0, .ref a), (1, .int (I b)), (2, .int (I n))]) hx hb dX11_sort_1 rfl hl (by decide) rfl (fun ls hl => ?_)
  refine th_loop (α := Int × (Nat → Int32)) (pc := 2) (fun x9 => (n - x9.1).toNat) (fun x9 σ9 H9 l9 ls9 => ok y E σ9 ∧ fr [13] E σ σ9 ∧ fm [35] E σ σ9 a ∧ th_H G b0 σ9 H9 ∧ va_S (th_A b0) s.heap H9 l9 ∧ lv_has ls9 6 [(0, .ref a), (1, .int (I b)), (2, .int (I n)), (3, .int (I x9.1))] ∧ rng x9.1 ∧ (1 ≤ x9.1) ∧ (x9.1 ≤ 61) ∧ (x9.1 ≤ n ∨ x9.1 = 1) ∧ (prm f1 x9.2 b n.toNat i) ∧ (ofr f35 x9.2 b) ∧ (aF σ9 (ad E a 1) = f1) ∧ (aF σ9 (ad E a 35) = x9.2)) ?_ (1, f35) σ _ _ _ ⟨hO, hF, hM, hH, hS, lv_sub hl [1, 2, 3, 0] rfl, (show rng 1 from ⟨by decide, by decide⟩), by first | (dsimp only; omega) | omega, by first | (dsimp only; omega) | omega, by first | (dsimp only; omega) | omega, hy2, ofr.rf, ef1, ef35⟩
  intro x9 σ_J_89 H locs ls hI9 ihJ_89
  obtain ⟨v3q88, F35q87⟩ := x9
  obtain ⟨hO, hF, hM, hH, hS, hl, rv3q88, J_89_0, J_89_1, J_89_2, J_89_3, J_89_4, J_89_5, J_89_6⟩ := hI9
  have hl : lv_has ls 6 [(0, .ref a), (1, .int (I b)), (2, .int (I n)), (3, .int (I v3q88))] := hl
  have rv3q88 : rng v3q88 := rv3q88
  have J_89_0 : 1 ≤ v3q88 := J_89_0
  have J_89_1 : v3q88 ≤ 61 := J_89_1
  have J_89_2 : v3q88 ≤ n ∨ v3q88 = 1 := J_89_2
  have J_89_3 : prm f1 F35q87 b n.toNat i := J_89_3
  have J_89_4 : ofr f35 F35q87 b := J_89_4
  have J_89_5 : aF σ_J_89 (ad E a 1) = f1 := J_89_5
  have J_89_6 : aF σ_J_89 (ad E a 35) = F35q87 := J_89_6
  refine lv_iload_n hx hb dX11_sort_2 rfl (lv_at hl 3 rfl) ?_
  refine lv_iload_n hx hb dX11_sort_3 rfl (lv_at hl 2 rfl) ?_
  refine lv_icmp_ge (tgt := 88) hx hb dX11_sort_4 (by decide) (fun c_90 => ?_) (fun c_90 => ?_)
  · replace c_90 := (I_le (a := n) (b := v3q88) rn rv3q88).mp c_90
    exact th_vret hx hb hr hlocks hH hS ⟨hO, hF, hM, by rw [show aF σ_J_89 (ad E a 35) = F35q87 from J_89_6]; exact ⟨J_89_3, J_89_4⟩⟩ dX11_sort_88
  · replace c_90 := mt (I_le (a := n) (b := v3q88) rn rv3q88).mpr c_90
    refine lv_aload_n hx hb dX11_sort_7 rfl (lv_at hl 0 rfl) ?_
    refine ok.getR hO h_a (by decide) k13_35 (by decide) (fun _ _ he hv kk => th_get (ci := 11) (C := RX11) (T := TX11) (N := 66) hx hb hts inX11 hown hK hH he rfl 35 (by decide) fl0 hv dX11_sort_8 kk) ?_
    refine lv_iload_n hx hb dX11_sort_11 rfl (lv_at hl 1 rfl) ?_
    refine lv_iload_n hx hb dX11_sort_12 rfl (lv_at hl 3 rfl) ?_
    refine lv_iadd hx hb dX11_sort_13 ?_
    refine nq_top (I_add _ _) ?_
    refine m_iald hx hb hK hH hO h_a k13_35 isA1 J_89_6 ⟨by omega, by omega⟩ (by omega) (by omega) dX11_sort_14 (fun z_91 ez_91 rz_91 elx9 => ?_)
    refine lv_istore (lv' := [(4, .int (I z_91)), (0, .ref a), (1, .int (I b)), (2, .int (I n)), (3, .int (I v3q88))]) hx hb dX11_sort_15 hl (by decide) rfl (fun ls hl => ?_)
    refine lv_iload_n hx hb dX11_sort_17 rfl (lv_at hl 4 rfl) ?_
    refine lv_istore (lv' := [(5, .int (I v3q88)), (4, .int (I z_91)), (0, .ref a), (1, .int (I b)), (2, .int (I n)), (3, .int (I v3q88))]) hx hb dX11_sort_18 hl (by decide) rfl (fun ls hl => ?_)
    refine th_loop (α := Int × (Nat → Int32)) (pc := 20) (fun x9 => (x9.1).toNat) (fun x9 σ9 H9 l9 ls9 => ok y E σ9 ∧ fr [13] E σ σ9 ∧ fm [35] E σ σ9 a ∧ th_H G b0 σ9 H9 ∧ va_S (th_A b0) s.heap H9 l9 ∧ lv_has ls9 6 [(0, .ref a), (1, .int (I b)), (2, .int (I n)), (3, .int (I v3q88)), (4, .int (I z_91)), (5, .int (I x9.1))] ∧ rng x9.1 ∧ (0 ≤ x9.1) ∧ (x9.1 ≤ v3q88) ∧ (prm f1 (upd x9.2 (b + x9.1).toNat (I z_91)) b n.toNat i) ∧ (ofr f35 x9.2 b) ∧ (aF σ9 (ad E a 1) = f1) ∧ (aF σ9 (ad E a 35) = x9.2)) ?_ (v3q88, F35q87) σ_J_89 _ _ _ ⟨hO, hF, hM, hH, hS, lv_sub hl [2, 3, 4, 5, 1, 0] rfl, rv3q88, by first | (dsimp only; omega) | omega, by first | (dsimp only; omega) | omega, (J_89_3.self ez_91 (by first | rfl | (congr 1; omega) | omega)), J_89_4, J_89_5, J_89_6⟩
    intro x9 σ_J_94 H locs ls hI9 ihJ_94
    obtain ⟨v5q93, F35q92⟩ := x9
    obtain ⟨hO, hF, hM, hH, hS, hl, rv5q93, J_94_0, J_94_1, J_94_2, J_94_3, J_94_4, J_94_5⟩ := hI9
    have hl : lv_has ls 6 [(0, .ref a), (1, .int (I b)), (2, .int (I n)), (3, .int (I v3q88)), (4, .int (I z_91)), (5, .int (I v5q93))] := hl
    have rv5q93 : rng v5q93 := rv5q93
    have J_94_0 : 0 ≤ v5q93 := J_94_0
    have J_94_1 : v5q93 ≤ v3q88 := J_94_1
    have J_94_2 : prm f1 (upd F35q92 (b + v5q93).toNat (I z_91)) b n.toNat i := J_94_2
    have J_94_3 : ofr f35 F35q92 b := J_94_3
    have J_94_4 : aF σ_J_94 (ad E a 1) = f1 := J_94_4
    have J_94_5 : aF σ_J_94 (ad E a 35) = F35q92 := J_94_5
    refine lv_iload hx hb dX11_sort_20 (lv_at hl 5 rfl) ?_
    refine lv_if_le (tgt := 71) hx hb dX11_sort_22 (by decide) (fun c_95 => ?_) (fun c_95 => ?_)
    · replace c_95 := (I_le (a := v5q93) (b := 0) rv5q93 (show rng 0 from ⟨by decide, by decide⟩)).mp c_95
      refine lv_aload_n hx hb dX11_sort_71 rfl (lv_at hl 0 rfl) ?_
      refine ok.getR hO h_a (by decide) k13_35 (by decide) (fun _ _ he hv kk => th_get (ci := 11) (C := RX11) (T := TX11) (N := 66) hx hb hts inX11 hown hK hH he rfl 35 (by decide) fl0 hv dX11_sort_72 kk) ?_
      refine lv_iload_n hx hb dX11_sort_75 rfl (lv_at hl 1 rfl) ?_
      refine lv_iload hx hb dX11_sort_76 (lv_at hl 5 rfl) ?_
      refine lv_iadd hx hb dX11_sort_78 ?_
      refine nq_top (I_add _ _) ?_
      refine lv_iload hx hb dX11_sort_79 (lv_at hl 4 rfl) ?_
      refine m_iast hx hb hK hH hS h00 hO h_a k13_35 isA1 (by decide) J_94_5 ⟨by omega, by omega⟩ (by omega) (by omega) rz_91 el1 dX11_sort_81 (fun σ_s_96 H locs hO hF9 hM9 ha9 hH hS => ?_)
      replace hM := hM.tu hM9 (by decide)
      replace hF := hF.tu hF9 (by decide)
      have e_97 : aF σ_s_96 (ad E a 1) = f1 := (hM9.a (by decide) (by decide)).trans J_94_4
      obtain ⟨g_98, dg_98⟩ : ∃ g9, g9 = upd F35q92 (b + v5q93).toNat (I z_91) := ⟨_, rfl⟩
      rw [← dg_98] at ha9
      have ef_99 := ha9
      refine lv_iinc (v := I (v3q88 + 1)) (lv' := [(3, .int (I (v3q88 + 1))), (0, .ref a), (1, .int (I b)), (2, .int (I n)), (4, .int (I z_91)), (5, .int (I v5q93))]) hx hb dX11_sort_82 hl (k := 3) rfl (I_add _ _) (by decide) rfl (fun ls hl => ?_)
      refine lv_goto (tgt := 2) hx hb dX11_sort_85 (by decide) ?_
      replace hl : lv_has ls 6 [(3, .int (I (v3q88 + 1))), (0, .ref a), (1, .int (I b)), (2, .int (I n))] := lv_sub hl [0, 1, 2, 3] rfl
      exact ihJ_89 (v3q88 + 1, g_98) σ_s_96 _ _ _ (by first | (dsimp only; omega) | omega) ⟨hO, hF, hM, hH, hS, lv_sub hl [1, 2, 3, 0] rfl, ⟨by first | (dsimp only; omega) | omega, by first | (dsimp only; omega) | omega⟩, by first | (dsimp only; omega) | omega, by first | (dsimp only; omega) | omega, by first | (dsimp only; omega) | omega, (J_94_2.eq dg_98), (J_94_3.up dg_98 (by omega)), e_97, ef_99⟩
    · replace c_95 := mt (I_le (a := v5q93) (b := 0) rv5q93 (show rng 0 from ⟨by decide, by decide⟩)).mpr c_95
      refine lv_aload_n hx hb dX11_sort_25 rfl (lv_at hl 0 rfl) ?_
      refine lv_aload_n hx hb dX11_sort_26 rfl (lv_at hl 0 rfl) ?_
      refine ok.getR hO h_a (by decide) k13_35 (by decide) (fun _ _ he hv kk => th_get (ci := 11) (C := RX11) (T := TX11) (N := 66) hx hb hts inX11 hown hK hH he rfl 35 (by decide) fl0 hv dX11_sort_27 kk) ?_
      refine lv_iload_n hx hb dX11_sort_30 rfl (lv_at hl 1 rfl) ?_
      refine lv_iload hx hb dX11_sort_31 (lv_at hl 5 rfl) ?_
      refine lv_iadd hx hb dX11_sort_33 ?_
      refine nq_top (I_add _ _) ?_
      refine lv_iconst (v := I 1) hx hb dX11_sort_34 (by decide) ?_
      refine lv_isub hx hb dX11_sort_35 ?_
      refine nq_top (I_sub _ _) ?_
      refine m_iald hx hb hK hH hO h_a k13_35 isA1 J_94_5 ⟨by omega, by omega⟩ (by omega) (by omega) dX11_sort_36 (fun z_100 ez_100 rz_100 elx9 => ?_)
      have hq1 := J_94_2.in1 (y := (b + v5q93 - 1).toNat) (z := z_100) hy0 (by omega) (by omega) (q := v5q93) (by omega) (by omega) ez_100 (by omega) (by omega)
      have hq2 := hq1.1
      have hq3 := hq1.2.1
      have hq4 := J_94_2.in0 hy0 (by omega) (by omega) (q := v5q93) (by omega) (by omega) (by omega) rz_91
      have hq5 := hq4.1
      have hq6 := hq4.2.1
      have hq7 := hy0 i (by omega) (by omega)
      refine lv_iload hx hb dX11_sort_37 (lv_at hl 4 rfl) ?_
      obtain ⟨_, hc_101⟩ := hO.cell h_a (by decide) (ci := 11) rfl
      refine th_calli (va_runV (As := [.int (I z_100), .int (I z_91)]) (rest := []) ⟨hx, hb, hml, hown, hts⟩ (m_isBehind l G y b0 σ_J_94 E hO a h_a z_100 (show rng z_100 from rz_100) (by omega) (by omega) z_91 (show rng z_91 from rz_91) (by omega) (by omega)) (cwV 2 hts gX11_sort_X11_isBehind rfl rfl rfl (by decide +kernel) ⟨Nat.le_of_ble_eq_true rfl, Nat.le_of_ble_eq_true rfl⟩) (th_PV hK hH rfl hc_101) rfl rfl hl.1 rfl (lv_room (Nat.le_of_ble_eq_true rfl)) dX11_sort_39 ⟨Nat.le_of_ble_eq_true rfl, Nat.le_of_ble_eq_true rfl⟩) hS (fun z_104 σ_s_103 H locs rz_104 hw_102 hH hS => ?_)
      obtain ⟨e9, bhw_102, hw_102⟩ := hw_102
      replace e9 := e9.symm
      subst e9
      refine lv_if_eq (tgt := 71) hx hb dX11_sort_42 (by decide) (fun c_105 => ?_) (fun c_105 => ?_)
      · replace c_105 := (I_eq (a := z_104) (b := 0) rz_104 (show rng 0 from ⟨by decide, by decide⟩)).mp c_105
        refine lv_aload_n hx hb dX11_sort_71 rfl (lv_at hl 0 rfl) ?_
        refine ok.getR hO h_a (by decide) k13_35 (by decide) (fun _ _ he hv kk => th_get (ci := 11) (C := RX11) (T := TX11) (N := 66) hx hb hts inX11 hown hK hH he rfl 35 (by decide) fl0 hv dX11_sort_72 kk) ?_
        refine lv_iload_n hx hb dX11_sort_75 rfl (lv_at hl 1 rfl) ?_
        refine lv_iload hx hb dX11_sort_76 (lv_at hl 5 rfl) ?_
        refine lv_iadd hx hb dX11_sort_78 ?_
        refine nq_top (I_add _ _) ?_
        refine lv_iload hx hb dX11_sort_79 (lv_at hl 4 rfl) ?_
        refine m_iast hx hb hK hH hS h00 hO h_a k13_35 isA1 (by decide) J_94_5 ⟨by omega, by omega⟩ (by omega) (by omega) rz_91 el1 dX11_sort_81 (fun σ_s_106 H locs hO hF9 hM9 ha9 hH hS => ?_)
        replace hM := hM.tu hM9 (by decide)
        replace hF := hF.tu hF9 (by decide)
        have e_107 : aF σ_s_106 (ad E a 1) = f1 := (hM9.a (by decide) (by decide)).trans J_94_4
        obtain ⟨g_108, dg_108⟩ : ∃ g9, g9 = upd F35q92 (b + v5q93).toNat (I z_91) := ⟨_, rfl⟩
        rw [← dg_108] at ha9
        have ef_109 := ha9
        refine lv_iinc (v := I (v3q88 + 1)) (lv' := [(3, .int (I (v3q88 + 1))), (0, .ref a), (1, .int (I b)), (2, .int (I n)), (4, .int (I z_91)), (5, .int (I v5q93))]) hx hb dX11_sort_82 hl (k := 3) rfl (I_add _ _) (by decide) rfl (fun ls hl => ?_)
        refine lv_goto (tgt := 2) hx hb dX11_sort_85 (by decide) ?_
        replace hl : lv_has ls 6 [(3, .int (I (v3q88 + 1))), (0, .ref a), (1, .int (I b)), (2, .int (I n))] := lv_sub hl [0, 1, 2, 3] rfl
        exact ihJ_89 (v3q88 + 1, g_108) σ_s_106 _ _ _ (by first | (dsimp only; omega) | omega) ⟨hO, hF, hM, hH, hS, lv_sub hl [1, 2, 3, 0] rfl, ⟨by first | (dsimp only; omega) | omega, by first | (dsimp only; omega) | omega⟩, by first | (dsimp only; omega) | omega, by first | (dsimp only; omega) | omega, by first | (dsimp only; omega) | omega, (J_94_2.eq dg_108), (J_94_3.up dg_108 (by omega)), e_107, ef_109⟩
      · replace c_105 := mt (I_eq (a := z_104) (b := 0) rz_104 (show rng 0 from ⟨by decide, by decide⟩)).mpr c_105
        refine lv_aload_n hx hb dX11_sort_45 rfl (lv_at hl 0 rfl) ?_
        refine ok.getR hO h_a (by decide) k13_35 (by decide) (fun _ _ he hv kk => th_get (ci := 11) (C := RX11) (T := TX11) (N := 66) hx hb hts inX11 hown hK hH he rfl 35 (by decide) fl0 hv dX11_sort_46 kk) ?_
        refine lv_iload_n hx hb dX11_sort_49 rfl (lv_at hl 1 rfl) ?_
        refine lv_iload hx hb dX11_sort_50 (lv_at hl 5 rfl) ?_
        refine lv_iadd hx hb dX11_sort_52 ?_
        refine nq_top (I_add _ _) ?_
        refine lv_aload_n hx hb dX11_sort_53 rfl (lv_at hl 0 rfl) ?_
        refine ok.getR hO h_a (by decide) k13_35 (by decide) (fun _ _ he hv kk => th_get (ci := 11) (C := RX11) (T := TX11) (N := 66) hx hb hts inX11 hown hK hH he rfl 35 (by decide) fl0 hv dX11_sort_54 kk) ?_
        refine lv_iload_n hx hb dX11_sort_57 rfl (lv_at hl 1 rfl) ?_
        refine lv_iload hx hb dX11_sort_58 (lv_at hl 5 rfl) ?_
        refine lv_iadd hx hb dX11_sort_60 ?_
        refine nq_top (I_add _ _) ?_
        refine lv_iconst (v := I 1) hx hb dX11_sort_61 (by decide) ?_
        refine lv_isub hx hb dX11_sort_62 ?_
        refine nq_top (I_sub _ _) ?_
        refine m_iald hx hb hK hH hO h_a k13_35 isA1 J_94_5 ⟨by omega, by omega⟩ (by omega) (by omega) dX11_sort_63 (fun z_110 ez_110 rz_110 elx9 => ?_)
        refine m_iast hx hb hK hH hS h00 hO h_a k13_35 isA1 (by decide) J_94_5 ⟨by omega, by omega⟩ (by omega) (by omega) rz_110 el1 dX11_sort_64 (fun σ_s_111 H locs hO hF9 hM9 ha9 hH hS => ?_)
        replace hM := hM.tu hM9 (by decide)
        replace hF := hF.tu hF9 (by decide)
        have e_112 : aF σ_s_111 (ad E a 1) = f1 := (hM9.a (by decide) (by decide)).trans J_94_4
        obtain ⟨g_113, dg_113⟩ : ∃ g9, g9 = upd F35q92 (b + v5q93).toNat (I z_110) := ⟨_, rfl⟩
        rw [← dg_113] at ha9
        have ef_114 := ha9
        refine lv_iinc (v := I (v5q93 + (-1))) (lv' := [(5, .int (I (v5q93 + (-1)))), (0, .ref a), (1, .int (I b)), (2, .int (I n)), (3, .int (I v3q88)), (4, .int (I z_91))]) hx hb dX11_sort_65 hl (k := 5) rfl (I_add _ _) (by decide) rfl (fun ls hl => ?_)
        refine lv_goto (tgt := 20) hx hb dX11_sort_68 (by decide) ?_
        exact ihJ_94 (v5q93 + (-1), g_113) σ_s_111 _ _ _ (by first | (dsimp only; omega) | omega) ⟨hO, hF, hM, hH, hS, lv_sub hl [1, 2, 3, 4, 5, 0] rfl, ⟨by first | (dsimp only; omega) | omega, by first | (dsimp only; omega) | omega⟩, by first | (dsimp only; omega) | omega, by first | (dsimp only; omega) | omega, (J_94_2.swap2 (q := v5q93) (by first | (dsimp only; omega) | omega) (by first | (dsimp only; omega) | omega) ez_110 (by first | (dsimp only; omega) | omega) (by first | (dsimp only; omega) | omega) (by first | (dsimp only; omega) | omega) (by omega) rz_110 rz_91 dg_113), (J_94_3.up dg_113 (by first | (dsimp only; omega) | omega)), e_112, ef_114⟩
