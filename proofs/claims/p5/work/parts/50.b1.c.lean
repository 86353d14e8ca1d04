set_option maxHeartbeats 1000000 in
set_option maxRecDepth 100000 in
theorem t11_like (n : Nat) : ∀ (l : Launch) (G : va_G) (y : Nat → ClassId) (b0 : Nat) (σ : th_M) (E : th_E) (hO : ok y E σ) (a : Nat) (h_a : kd E a = 1) (i : Int) (ri : rng i) (b : Nat) (h_b : kd E b = 1) (j : Int) (rj : rng j) (lv : Int) (rlv : rng lv) (l_lv : 0 ≤ lv) (u_lv : lv ≤ 17) (hn : (17 - lv).toNat < n), Met l yX9_like wsX9_like ({ frames := 3*n+6, cells := 0, slots := 0, locals := (60*n+200) }) (th_P G y b0 σ [.ref a, .int (I i), .ref b, .int (I j), .int (I lv)]) (th_Qi G b0 (fun r σ1 => σ1 = σ ∧ (0 ≤ r ∧ r ≤ 1) ∧ (True))) 0 0 (th_A b0) := by
  induction n with
  | zero => intro l G y b0 σ E hO a h_a i ri b h_b j rj lv rlv l_lv u_lv hn; exact absurd hn (Nat.not_lt_zero _)
  | succ n ih =>
    intro l G y b0 σ E hO a h_a i ri b h_b j rj lv rlv l_lv u_lv hn
    refine Met.ofW (cc := cX9_like) (maxL := 11) (ret := (some .boolean)) (by decide) rfl ?_
    intro p e s m args below meth c s₁ B hml hv
    obtain ⟨rfl, hH, hK⟩ := hv
    have hx := B.exec
    have hb := B.bytes
    have hr := B.returns
    have hts := atoms_spec (ws := wsX9_like) B.pre
    have hown : s.vm.findClass RX9 = some m.cls := findClass_of_methodNamed B.named
    have hlocks := B.notSynchronized
    have h00 : b0 ≤ s.heap.size := hH.1
    have hS : va_S (th_A b0) s.heap s.heap [] := va_S.rf
    have hl := lv_entry ([.ref a, .int (I i), .ref b, .int (I j), .int (I lv)]) (n := 11) (Nat.le_of_ble_eq_true rfl)
    rw [lg_entry_eq]
    generalize (lg_sl ([.ref a, .int (I i), .ref b, .int (I j), .int (I lv)]) ++ List.replicate (11 - (lg_sl ([.ref a, .int (I i), .ref b, .int (I j), .int (I lv)])).length) Slot.unset).toArray = ls at hl ⊢
    have hl : lv_has ls 11 [(0, .ref a), (1, .int (I i)), (2, .ref b), (3, .int (I j)), (4, .int (I lv))] := hl
    refine lv_aload_n hx hb dX9_like_0 rfl (lv_at hl 0 rfl) ?_
    refine lv_iload_n hx hb dX9_like_1 rfl (lv_at hl 1 rfl) ?_
    obtain ⟨z_1, e_2, rz_1, lz_1, uz_1⟩ := hO.gi h_a (by decide) k1_4
    obtain ⟨_, hc_3⟩ := hO.cell h_a (by decide) (ci := 9) rfl
    refine th_calli (va_runV (As := [.int (I i)]) (rest := []) ⟨hx, hb, hml, hown, hts⟩ (t_kindAt l G y b0 σ a (tvE E σ a 60) i (hO.isT1 h_a) (show rng i from ri)) (cwV 1 hts gX9_like_X9_kindAt rfl rfl rfl (by decide +kernel) ⟨(by first | (simp only [headSpec]; omega) | omega | (dsimp only; omega)), (by first | (simp only [headSpec]; omega) | omega | (dsimp only; omega))⟩) (th_PV hK hH rfl hc_3) rfl rfl hl.1 rfl (lv_room (Nat.le_of_ble_eq_true rfl)) dX9_like_2 ⟨(by first | (simp only [headSpec]; omega) | omega | (dsimp only; omega)), (by first | (simp only [headSpec]; omega) | omega | (dsimp only; omega))⟩) hS (fun z_6 σ_s_5 H locs rz_6 hw_4 hH hS => ?_)
    obtain ⟨e9, hw_4⟩ := hw_4
    replace e9 := e9.symm
    subst e9
    have hw_4 : (0 ≤ i ∧ i < (gI σ a 4)) ∨ z_6 = -1 := hw_4
    refine lv_istore (lv' := [(5, .int (I z_6)), (0, .ref a), (1, .int (I i)), (2, .ref b), (3, .int (I j)), (4, .int (I lv))]) hx hb dX9_like_5 hl (by decide) rfl (fun ls hl => ?_)
    refine lv_iload hx hb dX9_like_7 (lv_at hl 0 rfl) ?_
    refine lv_if_lt (tgt := 29) hx hb dX9_like_9 (by decide) (fun c_7 => ?_) (fun c_7 => ?_)
    · replace c_7 := (I_lt (a := z_6) (b := 0) rz_6 (show rng 0 from ⟨by decide, by decide⟩)).mp c_7
      refine lv_iconst (v := I 0) hx hb dX9_like_29 (by decide) ?_
      exact th_zret hx hb hr hlocks hH hS (z := 0) (by omega) ⟨rfl, ⟨by omega, by omega⟩, trivial⟩ dX9_like_30
    · replace c_7 := mt (I_lt (a := z_6) (b := 0) rz_6 (show rng 0 from ⟨by decide, by decide⟩)).mpr c_7
      refine lv_iload hx hb dX9_like_12 (lv_at hl 0 rfl) ?_
      refine lv_aload_n hx hb dX9_like_14 rfl (lv_at hl 3 rfl) ?_
      refine lv_iload_n hx hb dX9_like_15 rfl (lv_at hl 4 rfl) ?_
      obtain ⟨z_8, e_9, rz_8, lz_8, uz_8⟩ := hO.gi h_b (by decide) k1_4
      obtain ⟨_, hc_10⟩ := hO.cell h_b (by decide) (ci := 9) rfl
      refine th_calli (va_runV (As := [.int (I j)]) (rest := [.int (I z_6)]) ⟨hx, hb, hml, hown, hts⟩ (t_kindAt l G y b0 σ b (tvE E σ b 60) j (hO.isT1 h_b) (show rng j from rj)) (cwV 1 hts gX9_like_X9_kindAt rfl rfl rfl (by decide +kernel) ⟨(by first | (simp only [headSpec]; omega) | omega | (dsimp only; omega)), (by first | (simp only [headSpec]; omega) | omega | (dsimp only; omega))⟩) (th_PV hK hH rfl hc_10) rfl rfl hl.1 rfl (lv_room (Nat.le_of_ble_eq_true rfl)) dX9_like_16 ⟨(by first | (simp only [headSpec]; omega) | omega | (dsimp only; omega)), (by first | (simp only [headSpec]; omega) | omega | (dsimp only; omega))⟩) hS (fun z_13 σ_s_12 H locs rz_13 hw_11 hH hS => ?_)
      obtain ⟨e9, hw_11⟩ := hw_11
      replace e9 := e9.symm
      subst e9
      have hw_11 : (0 ≤ j ∧ j < (gI σ b 4)) ∨ z_13 = -1 := hw_11
      refine lv_icmp_ne (tgt := 29) hx hb dX9_like_19 (by decide) (fun c_14 => ?_) (fun c_14 => ?_)
      · replace c_14 := mt (I_eq (a := z_6) (b := z_13) rz_6 rz_13).mpr c_14
        refine lv_iconst (v := I 0) hx hb dX9_like_29 (by decide) ?_
        exact th_zret hx hb hr hlocks hH hS (z := 0) (by omega) ⟨rfl, ⟨by omega, by omega⟩, trivial⟩ dX9_like_30
      · replace c_14 := (I_eq (a := z_6) (b := z_13) rz_6 rz_13).mp c_14
        refine lv_iload hx hb dX9_like_22 (lv_at hl 5 rfl) ?_
        refine lv_bipush (v := I 16) hx hb dX9_like_24 (by decide) ?_
        refine lv_icmp_le (tgt := 31) hx hb dX9_like_26 (by decide) (fun c_15 => ?_) (fun c_15 => ?_)
        · replace c_15 := (I_le (a := lv) (b := 16) rlv (show rng 16 from ⟨by decide, by decide⟩)).mp c_15
          refine lv_iload hx hb dX9_like_31 (lv_at hl 0 rfl) ?_
          refine lv_if_eq (tgt := 42) hx hb dX9_like_33 (by decide) (fun c_16 => ?_) (fun c_16 => ?_)
          · replace c_16 := (I_eq (a := z_6) (b := 0) rz_6 (show rng 0 from ⟨by decide, by decide⟩)).mp c_16
            refine lv_aload_n hx hb dX9_like_42 rfl (lv_at hl 1 rfl) ?_
            refine lv_iload_n hx hb dX9_like_43 rfl (lv_at hl 2 rfl) ?_
            obtain ⟨_, hc_17⟩ := hO.cell h_a (by decide) (ci := 9) rfl
            refine th_calli (va_runV (As := [.int (I i)]) (rest := []) ⟨hx, hb, hml, hown, hts⟩ (t_valueAt l G y b0 σ a (tvE E σ a 60) i (hO.isT1 h_a) (show rng i from ri)) (cwV 1 hts gX9_like_X9_valueAt rfl rfl rfl (by decide +kernel) ⟨(by first | (simp only [headSpec]; omega) | omega | (dsimp only; omega)), (by first | (simp only [headSpec]; omega) | omega | (dsimp only; omega))⟩) (th_PV hK hH rfl hc_17) rfl rfl hl.1 rfl (lv_room (Nat.le_of_ble_eq_true rfl)) dX9_like_44 ⟨(by first | (simp only [headSpec]; omega) | omega | (dsimp only; omega)), (by first | (simp only [headSpec]; omega) | omega | (dsimp only; omega))⟩) hS (fun z_20 σ_s_19 H locs rz_20 hw_18 hH hS => ?_)
            obtain ⟨e9, hw_18⟩ := hw_18
            replace e9 := e9.symm
            subst e9
            refine lv_aload_n hx hb dX9_like_47 rfl (lv_at hl 3 rfl) ?_
            refine lv_iload_n hx hb dX9_like_48 rfl (lv_at hl 4 rfl) ?_
            obtain ⟨_, hc_21⟩ := hO.cell h_b (by decide) (ci := 9) rfl
            refine th_calli (va_runV (As := [.int (I j)]) (rest := [.int (I z_20)]) ⟨hx, hb, hml, hown, hts⟩ (t_valueAt l G y b0 σ b (tvE E σ b 60) j (hO.isT1 h_b) (show rng j from rj)) (cwV 1 hts gX9_like_X9_valueAt rfl rfl rfl (by decide +kernel) ⟨(by first | (simp only [headSpec]; omega) | omega | (dsimp only; omega)), (by first | (simp only [headSpec]; omega) | omega | (dsimp only; omega))⟩) (th_PV hK hH rfl hc_21) rfl rfl hl.1 rfl (lv_room (Nat.le_of_ble_eq_true rfl)) dX9_like_49 ⟨(by first | (simp only [headSpec]; omega) | omega | (dsimp only; omega)), (by first | (simp only [headSpec]; omega) | omega | (dsimp only; omega))⟩) hS (fun z_24 σ_s_23 H locs rz_24 hw_22 hH hS => ?_)
            obtain ⟨e9, hw_22⟩ := hw_22
            replace e9 := e9.symm
            subst e9
            refine lv_icmp_ne (tgt := 59) hx hb dX9_like_52 (by decide) (fun c_25 => ?_) (fun c_25 => ?_)
            · replace c_25 := mt (I_eq (a := z_20) (b := z_24) rz_20 rz_24).mpr c_25
              refine lv_iconst (v := I 0) hx hb dX9_like_59 (by decide) ?_
              exact th_zret hx hb hr hlocks hH hS (z := 0) (by omega) ⟨rfl, ⟨by omega, by omega⟩, trivial⟩ dX9_like_60
            · replace c_25 := (I_eq (a := z_20) (b := z_24) rz_20 rz_24).mp c_25
              refine lv_iconst (v := I 1) hx hb dX9_like_55 (by decide) ?_
              refine lv_goto (tgt := 60) hx hb dX9_like_56 (by decide) ?_
              exact th_zret hx hb hr hlocks hH hS (z := 1) (by omega) ⟨rfl, ⟨by omega, by omega⟩, trivial⟩ dX9_like_60
          · replace c_16 := mt (I_eq (a := z_6) (b := 0) rz_6 (show rng 0 from ⟨by decide, by decide⟩)).mpr c_16
            refine lv_iload hx hb dX9_like_36 (lv_at hl 0 rfl) ?_
            refine lv_iconst (v := I 1) hx hb dX9_like_38 (by decide) ?_
            refine lv_icmp_ne (tgt := 61) hx hb dX9_like_39 (by decide) (fun c_26 => ?_) (fun c_26 => ?_)
            · replace c_26 := mt (I_eq (a := z_6) (b := 1) rz_6 (show rng 1 from ⟨by decide, by decide⟩)).mpr c_26
              refine lv_aload_n hx hb dX9_like_61 rfl (lv_at hl 1 rfl) ?_
              refine lv_iload_n hx hb dX9_like_62 rfl (lv_at hl 2 rfl) ?_
              obtain ⟨_, hc_27⟩ := hO.cell h_a (by decide) (ci := 9) rfl
              refine th_calli (va_runV (As := [.int (I i)]) (rest := []) ⟨hx, hb, hml, hown, hts⟩ (t_sizeOf l G y b0 σ a (tvE E σ a 60) i (hO.isT1 h_a) (show rng i from ri)) (cwV 1 hts gX9_like_X9_sizeOf rfl rfl rfl (by decide +kernel) ⟨(by first | (simp only [headSpec]; omega) | omega | (dsimp only; omega)), (by first | (simp only [headSpec]; omega) | omega | (dsimp only; omega))⟩) (th_PV hK hH rfl hc_27) rfl rfl hl.1 rfl (lv_room (Nat.le_of_ble_eq_true rfl)) dX9_like_63 ⟨(by first | (simp only [headSpec]; omega) | omega | (dsimp only; omega)), (by first | (simp only [headSpec]; omega) | omega | (dsimp only; omega))⟩) hS (fun z_30 σ_s_29 H locs rz_30 hw_28 hH hS => ?_)
              obtain ⟨e9, hw_28⟩ := hw_28
              replace e9 := e9.symm
              subst e9
              have hw_28 : ((0 ≤ i ∧ i < (gI σ a 4)) ∧ 1 ≤ z_30 ∧ i + z_30 ≤ (gI σ a 4)) ∨ (z_30 = 0 ∧ ¬ (0 ≤ i ∧ i < (gI σ a 4))) := hw_28
              refine lv_aload_n hx hb dX9_like_66 rfl (lv_at hl 3 rfl) ?_
              refine lv_iload_n hx hb dX9_like_67 rfl (lv_at hl 4 rfl) ?_
              obtain ⟨_, hc_31⟩ := hO.cell h_b (by decide) (ci := 9) rfl
              refine th_calli (va_runV (As := [.int (I j)]) (rest := [.int (I z_30)]) ⟨hx, hb, hml, hown, hts⟩ (t_sizeOf l G y b0 σ b (tvE E σ b 60) j (hO.isT1 h_b) (show rng j from rj)) (cwV 1 hts gX9_like_X9_sizeOf rfl rfl rfl (by decide +kernel) ⟨(by first | (simp only [headSpec]; omega) | omega | (dsimp only; omega)), (by first | (simp only [headSpec]; omega) | omega | (dsimp only; omega))⟩) (th_PV hK hH rfl hc_31) rfl rfl hl.1 rfl (lv_room (Nat.le_of_ble_eq_true rfl)) dX9_like_68 ⟨(by first | (simp only [headSpec]; omega) | omega | (dsimp only; omega)), (by first | (simp only [headSpec]; omega) | omega | (dsimp only; omega))⟩) hS (fun z_34 σ_s_33 H locs rz_34 hw_32 hH hS => ?_)
              obtain ⟨e9, hw_32⟩ := hw_32
              replace e9 := e9.symm
              subst e9
              have hw_32 : ((0 ≤ j ∧ j < (gI σ b 4)) ∧ 1 ≤ z_34 ∧ j + z_34 ≤ (gI σ b 4)) ∨ (z_34 = 0 ∧ ¬ (0 ≤ j ∧ j < (gI σ b 4))) := hw_32
              refine lv_icmp_eq (tgt := 76) hx hb dX9_like_71 (by decide) (fun c_35 => ?_) (fun c_35 => ?_)
              · replace c_35 := (I_eq (a := z_30) (b := z_34) rz_30 rz_34).mp c_35
                refine lv_aload_n hx hb dX9_like_76 rfl (lv_at hl 1 rfl) ?_
                refine lv_iload_n hx hb dX9_like_77 rfl (lv_at hl 2 rfl) ?_
                obtain ⟨_, hc_36⟩ := hO.cell h_a (by decide) (ci := 9) rfl
                refine th_calli (va_runV (As := [.int (I i)]) (rest := []) ⟨hx, hb, hml, hown, hts⟩ (t_childCount l G y b0 σ a (tvE E σ a 60) i (hO.isT1 h_a) (show rng i from ri)) (cwV 1 hts gX9_like_X9_childCount rfl rfl rfl (by decide +kernel) ⟨(by first | (simp only [headSpec]; omega) | omega | (dsimp only; omega)), (by first | (simp only [headSpec]; omega) | omega | (dsimp only; omega))⟩) (th_PV hK hH rfl hc_36) rfl rfl hl.1 rfl (lv_room (Nat.le_of_ble_eq_true rfl)) dX9_like_78 ⟨(by first | (simp only [headSpec]; omega) | omega | (dsimp only; omega)), (by first | (simp only [headSpec]; omega) | omega | (dsimp only; omega))⟩) hS (fun z_39 σ_s_38 H locs rz_39 hw_37 hH hS => ?_)
                obtain ⟨e9, hw_37⟩ := hw_37
                replace e9 := e9.symm
                subst e9
                have hw_37 : 0 ≤ z_39 ∧ z_39 ≤ (gI σ a 4) := hw_37
                refine lv_istore (lv' := [(6, .int (I z_39)), (5, .int (I z_6)), (0, .ref a), (1, .int (I i)), (2, .ref b), (3, .int (I j)), (4, .int (I lv))]) hx hb dX9_like_81 hl (by decide) rfl (fun ls hl => ?_)
                refine lv_iload hx hb dX9_like_83 (lv_at hl 0 rfl) ?_
                refine lv_aload_n hx hb dX9_like_85 rfl (lv_at hl 4 rfl) ?_
                refine lv_iload_n hx hb dX9_like_86 rfl (lv_at hl 5 rfl) ?_
                obtain ⟨_, hc_40⟩ := hO.cell h_b (by decide) (ci := 9) rfl
                refine th_calli (va_runV (As := [.int (I j)]) (rest := [.int (I z_39)]) ⟨hx, hb, hml, hown, hts⟩ (t_childCount l G y b0 σ b (tvE E σ b 60) j (hO.isT1 h_b) (show rng j from rj)) (cwV 1 hts gX9_like_X9_childCount rfl rfl rfl (by decide +kernel) ⟨(by first | (simp only [headSpec]; omega) | omega | (dsimp only; omega)), (by first | (simp only [headSpec]; omega) | omega | (dsimp only; omega))⟩) (th_PV hK hH rfl hc_40) rfl rfl hl.1 rfl (lv_room (Nat.le_of_ble_eq_true rfl)) dX9_like_87 ⟨(by first | (simp only [headSpec]; omega) | omega | (dsimp only; omega)), (by first | (simp only [headSpec]; omega) | omega | (dsimp only; omega))⟩) hS (fun z_43 σ_s_42 H locs rz_43 hw_41 hH hS => ?_)
                obtain ⟨e9, hw_41⟩ := hw_41
                replace e9 := e9.symm
                subst e9
                have hw_41 : 0 ≤ z_43 ∧ z_43 ≤ (gI σ b 4) := hw_41
                refine lv_icmp_eq (tgt := 95) hx hb dX9_like_90 (by decide) (fun c_44 => ?_) (fun c_44 => ?_)
                · replace c_44 := (I_eq (a := z_39) (b := z_43) rz_39 rz_43).mp c_44
                  refine lv_iload_n hx hb dX9_like_95 rfl (lv_at hl 3 rfl) ?_
                  refine lv_iconst (v := I 1) hx hb dX9_like_96 (by decide) ?_
                  refine lv_iadd hx hb dX9_like_97 ?_
                  refine th_addo (fun z_45 rz_45 hz_45 => ?_)
                  refine lv_istore (lv' := [(7, .int (I z_45)), (6, .int (I z_39)), (5, .int (I z_6)), (0, .ref a), (1, .int (I i)), (2, .ref b), (3, .int (I j)), (4, .int (I lv))]) hx hb dX9_like_98 hl (by decide) rfl (fun ls hl => ?_)
                  refine lv_iload_n hx hb dX9_like_100 rfl (lv_at hl 6 rfl) ?_
                  refine lv_iconst (v := I 1) hx hb dX9_like_101 (by decide) ?_
                  refine lv_iadd hx hb dX9_like_102 ?_
                  refine th_addo (fun z_46 rz_46 hz_46 => ?_)
                  refine lv_istore (lv' := [(8, .int (I z_46)), (7, .int (I z_45)), (6, .int (I z_39)), (5, .int (I z_6)), (0, .ref a), (1, .int (I i)), (2, .ref b), (3, .int (I j)), (4, .int (I lv))]) hx hb dX9_like_103 hl (by decide) rfl (fun ls hl => ?_)
                  refine lv_iconst (v := I 0) hx hb dX9_like_105 (by decide) ?_
                  refine lv_istore (lv' := [(9, .int (I 0)), (8, .int (I z_46)), (7, .int (I z_45)), (6, .int (I z_39)), (5, .int (I z_6)), (0, .ref a), (1, .int (I i)), (2, .ref b), (3, .int (I j)), (4, .int (I lv))]) hx hb dX9_like_106 hl (by decide) rfl (fun ls hl => ?_)
                  replace hl : lv_has ls 11 [(9, .int (I 0)), (8, .int (I z_46)), (7, .int (I z_45)), (6, .int (I z_39)), (5, .int (I z_6)), (0, .ref a), (2, .ref b), (3, .int (I j)), (4, .int (I lv))] := lv_sub hl [0, 1, 2, 3, 4, 5, 7, 8, 9] rfl
                  refine th_loop (α := Int × Int × Int) (pc := 108) (fun x9 => (128 - x9.2.2).toNat) (fun x9 σ9 H9 l9 ls9 => σ9 = σ ∧ th_H G b0 σ9 H9 ∧ va_S (th_A b0) s.heap H9 l9 ∧ lv_has ls9 11 [(0, .ref a), (2, .ref b), (3, .int (I j)), (4, .int (I lv)), (5, .int (I z_6)), (6, .int (I z_39)), (7, .int (I x9.1)), (8, .int (I x9.2.1)), (9, .int (I x9.2.2))] ∧ rng x9.1 ∧ rng x9.2.1 ∧ rng x9.2.2 ∧ (0 ≤ x9.2.2) ∧ (z_39 ≤ 128) ∧ (-2 ≤ x9.1) ∧ (x9.1 ≤ 200) ∧ (-2 ≤ x9.2.1) ∧ (x9.2.1 ≤ 200)) ?_ (z_45, z_46, 0) σ _ _ _ ⟨rfl, hH, hS, lv_sub hl [5, 6, 7, 8, 4, 3, 2, 1, 0] rfl, rz_45, rz_46, (show rng 0 from ⟨by decide, by decide⟩), by first | omega | (dsimp only; omega), by first | omega | (dsimp only; omega), by first | omega | (dsimp only; omega), by first | omega | (dsimp only; omega), by first | omega | (dsimp only; omega), by first | omega | (dsimp only; omega)⟩
                  intro x9 σ_J_83 H locs ls hI9 ihJ_83
                  obtain ⟨v7q82, v8q82, v9q82⟩ := x9
                  obtain ⟨eJ_83, hH, hS, hl, rv7q82, rv8q82, rv9q82, J_83_0, J_83_1, J_83_2, J_83_3, J_83_4, J_83_5⟩ := hI9
                  replace eJ_83 := eJ_83.symm
                  subst eJ_83
                  have hl : lv_has ls 11 [(0, .ref a), (2, .ref b), (3, .int (I j)), (4, .int (I lv)), (5, .int (I z_6)), (6, .int (I z_39)), (7, .int (I v7q82)), (8, .int (I v8q82)), (9, .int (I v9q82))] := hl
                  have rv7q82 : rng v7q82 := rv7q82
                  have rv8q82 : rng v8q82 := rv8q82
                  have rv9q82 : rng v9q82 := rv9q82
                  have J_83_0 : 0 ≤ v9q82 := J_83_0
                  have J_83_1 : z_39 ≤ 128 := J_83_1
                  have J_83_2 : -2 ≤ v7q82 := J_83_2
                  have J_83_3 : v7q82 ≤ 200 := J_83_3
                  have J_83_4 : -2 ≤ v8q82 := J_83_4
                  have J_83_5 : v8q82 ≤ 200 := J_83_5
                  refine lv_iload hx hb dX9_like_108 (lv_at hl 8 rfl) ?_
                  refine lv_iload hx hb dX9_like_110 (lv_at hl 5 rfl) ?_
                  refine lv_icmp_ge (tgt := 183) hx hb dX9_like_112 (by decide) (fun c_84 => ?_) (fun c_84 => ?_)
                  · replace c_84 := (I_le (a := z_39) (b := v9q82) rz_39 rv9q82).mp c_84
                    refine lv_iconst (v := I 1) hx hb dX9_like_183 (by decide) ?_
                    exact th_zret hx hb hr hlocks hH hS (z := 1) (by omega) ⟨rfl, ⟨by omega, by omega⟩, trivial⟩ dX9_like_184
                  · replace c_84 := mt (I_le (a := z_39) (b := v9q82) rz_39 rv9q82).mpr c_84
                    refine lv_iload hx hb dX9_like_115 (lv_at hl 4 rfl) ?_
                    refine lv_iconst (v := I 3) hx hb dX9_like_117 (by decide) ?_
                    refine th_join (α := Int) (J := 137) (stk := fun x9 => [.int (I x9)]) (fun x9 σ9 H9 l9 ls9 => σ9 = σ ∧ th_H G b0 σ9 H9 ∧ va_S (th_A b0) s.heap H9 l9 ∧ lv_has ls9 11 [(0, .ref a), (2, .ref b), (3, .int (I j)), (4, .int (I lv)), (5, .int (I z_6)), (6, .int (I z_39)), (7, .int (I v7q82)), (8, .int (I v8q82)), (9, .int (I v9q82))] ∧ rng x9 ∧ (-2 ≤ x9) ∧ (x9 ≤ 200)) ?_ (fun jK_95 => ?_)
                    · intro x9 σ_K_95 H locs ls hI9
                      obtain ⟨w0q94, ex9⟩ : ∃ z, z = x9 := ⟨_, rfl⟩
                      subst ex9
                      obtain ⟨eK_95, hH, hS, hl, rw0q94, K_95_0, K_95_1⟩ := hI9
                      replace eK_95 := eK_95.symm
                      subst eK_95
                      have hl : lv_has ls 11 [(0, .ref a), (2, .ref b), (3, .int (I j)), (4, .int (I lv)), (5, .int (I z_6)), (6, .int (I z_39)), (7, .int (I v7q82)), (8, .int (I v8q82)), (9, .int (I v9q82))] := hl
                      have rw0q94 : rng w0q94 := rw0q94
                      have K_95_0 : -2 ≤ w0q94 := K_95_0
                      have K_95_1 : w0q94 ≤ 200 := K_95_1
                      refine lv_istore (lv' := [(10, .int (I w0q94)), (0, .ref a), (2, .ref b), (3, .int (I j)), (4, .int (I lv)), (5, .int (I z_6)), (6, .int (I z_39)), (7, .int (I v7q82)), (8, .int (I v8q82)), (9, .int (I v9q82))]) hx hb dX9_like_137 hl (by decide) rfl (fun ls hl => ?_)
                      refine lv_aload_n hx hb dX9_like_139 rfl (lv_at hl 1 rfl) ?_
                      refine lv_iload hx hb dX9_like_140 (lv_at hl 7 rfl) ?_
                      refine lv_aload_n hx hb dX9_like_142 rfl (lv_at hl 2 rfl) ?_
                      refine lv_iload hx hb dX9_like_143 (lv_at hl 0 rfl) ?_
                      refine lv_iload hx hb dX9_like_145 (lv_at hl 4 rfl) ?_
                      refine lv_iconst (v := I 1) hx hb dX9_like_147 (by decide) ?_
                      refine lv_iadd hx hb dX9_like_148 ?_
                      refine nq_top (I_add _ _) ?_
                      obtain ⟨_, hc_96⟩ := hO.cell h_a (by decide) (ci := 9) rfl
                      refine th_calli (va_runV (As := [.int (I v7q82), .ref b, .int (I w0q94), .int (I (lv + 1))]) (rest := []) ⟨hx, hb, hml, hown, hts⟩ (ih l G y b0 σ E hO a h_a v7q82 (show rng v7q82 from rv7q82) b h_b w0q94 (show rng w0q94 from rw0q94) (lv + 1) (show rng (lv + 1) from ⟨by omega, by omega⟩) (by omega) (by omega) (by omega)) (cwV 4 hts gX9_like_X9_like rfl rfl rfl (by decide +kernel) ⟨(by first | (simp only [headSpec]; omega) | omega | (dsimp only; omega)), (by first | (simp only [headSpec]; omega) | omega | (dsimp only; omega))⟩) (th_PV hK hH rfl hc_96) rfl rfl hl.1 rfl (lv_room (Nat.le_of_ble_eq_true rfl)) dX9_like_149 ⟨(by first | (simp only [headSpec]; omega) | omega | (dsimp only; omega)), (by first | (simp only [headSpec]; omega) | omega | (dsimp only; omega))⟩) hS (fun z_99 σ_s_98 H locs rz_99 hw_97 hH hS => ?_)
                      obtain ⟨e9, bhw_97, hw_97⟩ := hw_97
                      replace e9 := e9.symm
                      subst e9
                      refine lv_if_ne (tgt := 157) hx hb dX9_like_152 (by decide) (fun c_100 => ?_) (fun c_100 => ?_)
                      · replace c_100 := mt (I_eq (a := z_99) (b := 0) rz_99 (show rng 0 from ⟨by decide, by decide⟩)).mpr c_100
                        refine lv_aload_n hx hb dX9_like_157 rfl (lv_at hl 1 rfl) ?_
                        refine lv_iload hx hb dX9_like_158 (lv_at hl 7 rfl) ?_
                        obtain ⟨_, hc_101⟩ := hO.cell h_a (by decide) (ci := 9) rfl
                        refine th_calli (va_runV (As := [.int (I v7q82)]) (rest := []) ⟨hx, hb, hml, hown, hts⟩ (t_end l G y b0 σ a (tvE E σ a 60) v7q82 (hO.isT1 h_a) (show rng v7q82 from rv7q82)) (cwV 1 hts gX9_like_X9_end rfl rfl rfl (by decide +kernel) ⟨(by first | (simp only [headSpec]; omega) | omega | (dsimp only; omega)), (by first | (simp only [headSpec]; omega) | omega | (dsimp only; omega))⟩) (th_PV hK hH rfl hc_101) rfl rfl hl.1 rfl (lv_room (Nat.le_of_ble_eq_true rfl)) dX9_like_160 ⟨(by first | (simp only [headSpec]; omega) | omega | (dsimp only; omega)), (by first | (simp only [headSpec]; omega) | omega | (dsimp only; omega))⟩) hS (fun z_104 σ_s_103 H locs rz_104 hw_102 hH hS => ?_)
                        obtain ⟨e9, hw_102⟩ := hw_102
                        replace e9 := e9.symm
                        subst e9
                        have hw_102 : ((0 ≤ v7q82 ∧ v7q82 < (gI σ a 4)) ∧ v7q82 ≤ z_104 ∧ z_104 < (gI σ a 4)) ∨ (z_104 = -1 ∧ ¬ (0 ≤ v7q82 ∧ v7q82 < (gI σ a 4))) := hw_102
                        refine lv_iconst (v := I 1) hx hb dX9_like_163 (by decide) ?_
                        refine lv_iadd hx hb dX9_like_164 ?_
                        refine nq_top (I_add _ _) ?_
                        refine lv_istore (lv' := [(7, .int (I (z_104 + 1))), (10, .int (I w0q94)), (0, .ref a), (2, .ref b), (3, .int (I j)), (4, .int (I lv)), (5, .int (I z_6)), (6, .int (I z_39)), (8, .int (I v8q82)), (9, .int (I v9q82))]) hx hb dX9_like_165 hl (by decide) rfl (fun ls hl => ?_)
                        refine lv_aload_n hx hb dX9_like_167 rfl (lv_at hl 3 rfl) ?_
                        refine lv_iload hx hb dX9_like_168 (lv_at hl 8 rfl) ?_
                        obtain ⟨_, hc_105⟩ := hO.cell h_b (by decide) (ci := 9) rfl
                        refine th_calli (va_runV (As := [.int (I v8q82)]) (rest := []) ⟨hx, hb, hml, hown, hts⟩ (t_end l G y b0 σ b (tvE E σ b 60) v8q82 (hO.isT1 h_b) (show rng v8q82 from rv8q82)) (cwV 1 hts gX9_like_X9_end rfl rfl rfl (by decide +kernel) ⟨(by first | (simp only [headSpec]; omega) | omega | (dsimp only; omega)), (by first | (simp only [headSpec]; omega) | omega | (dsimp only; omega))⟩) (th_PV hK hH rfl hc_105) rfl rfl hl.1 rfl (lv_room (Nat.le_of_ble_eq_true rfl)) dX9_like_170 ⟨(by first | (simp only [headSpec]; omega) | omega | (dsimp only; omega)), (by first | (simp only [headSpec]; omega) | omega | (dsimp only; omega))⟩) hS (fun z_108 σ_s_107 H locs rz_108 hw_106 hH hS => ?_)
                        obtain ⟨e9, hw_106⟩ := hw_106
                        replace e9 := e9.symm
                        subst e9
                        have hw_106 : ((0 ≤ v8q82 ∧ v8q82 < (gI σ b 4)) ∧ v8q82 ≤ z_108 ∧ z_108 < (gI σ b 4)) ∨ (z_108 = -1 ∧ ¬ (0 ≤ v8q82 ∧ v8q82 < (gI σ b 4))) := hw_106
                        refine lv_iconst (v := I 1) hx hb dX9_like_173 (by decide) ?_
                        refine lv_iadd hx hb dX9_like_174 ?_
                        refine nq_top (I_add _ _) ?_
                        refine lv_istore (lv' := [(8, .int (I (z_108 + 1))), (7, .int (I (z_104 + 1))), (10, .int (I w0q94)), (0, .ref a), (2, .ref b), (3, .int (I j)), (4, .int (I lv)), (5, .int (I z_6)), (6, .int (I z_39)), (9, .int (I v9q82))]) hx hb dX9_like_175 hl (by decide) rfl (fun ls hl => ?_)
                        refine lv_iinc (v := I (v9q82 + 1)) (lv' := [(9, .int (I (v9q82 + 1))), (8, .int (I (z_108 + 1))), (7, .int (I (z_104 + 1))), (10, .int (I w0q94)), (0, .ref a), (2, .ref b), (3, .int (I j)), (4, .int (I lv)), (5, .int (I z_6)), (6, .int (I z_39))]) hx hb dX9_like_177 hl (k := 9) rfl (I_add _ _) (by decide) rfl (fun ls hl => ?_)
                        refine lv_goto (tgt := 108) hx hb dX9_like_180 (by decide) ?_
                        replace hl : lv_has ls 11 [(9, .int (I (v9q82 + 1))), (8, .int (I (z_108 + 1))), (7, .int (I (z_104 + 1))), (0, .ref a), (2, .ref b), (3, .int (I j)), (4, .int (I lv)), (5, .int (I z_6)), (6, .int (I z_39))] := lv_sub hl [0, 1, 2, 4, 5, 6, 7, 8, 9] rfl
                        exact ihJ_83 (z_104 + 1, z_108 + 1, v9q82 + 1) σ _ _ _ (by first | omega | (dsimp only; omega)) ⟨rfl, hH, hS, lv_sub hl [3, 4, 5, 6, 7, 8, 2, 1, 0] rfl, ⟨by first | omega | (dsimp only; omega), by first | omega | (dsimp only; omega)⟩, ⟨by first | omega | (dsimp only; omega), by first | omega | (dsimp only; omega)⟩, ⟨by first | omega | (dsimp only; omega), by first | omega | (dsimp only; omega)⟩, by first | omega | (dsimp only; omega), by first | omega | (dsimp only; omega), by first | omega | (dsimp only; omega), by first | omega | (dsimp only; omega), by first | omega | (dsimp only; omega), by first | omega | (dsimp only; omega)⟩
                      · replace c_100 := (I_eq (a := z_99) (b := 0) rz_99 (show rng 0 from ⟨by decide, by decide⟩)).mp c_100
                        refine lv_iconst (v := I 0) hx hb dX9_like_155 (by decide) ?_
                        exact th_zret hx hb hr hlocks hH hS (z := 0) (by omega) ⟨rfl, ⟨by omega, by omega⟩, trivial⟩ dX9_like_156
                    · refine lv_icmp_ne (tgt := 135) hx hb dX9_like_118 (by decide) (fun c_109 => ?_) (fun c_109 => ?_)
                      · replace c_109 := mt (I_eq (a := z_6) (b := 3) rz_6 (show rng 3 from ⟨by decide, by decide⟩)).mpr c_109
                        refine lv_iload hx hb dX9_like_135 (lv_at hl 7 rfl) ?_
                        exact jK_95 (v8q82) σ _ _ _ ⟨rfl, hH, hS, lv_sub hl [0, 1, 2, 3, 4, 5, 6, 7, 8] rfl, rv8q82, by first | omega | (dsimp only; omega), by first | omega | (dsimp only; omega)⟩
                      · replace c_109 := (I_eq (a := z_6) (b := 3) rz_6 (show rng 3 from ⟨by decide, by decide⟩)).mp c_109
                        refine lv_aload_n hx hb dX9_like_121 rfl (lv_at hl 1 rfl) ?_
                        refine lv_iload_n hx hb dX9_like_122 rfl (lv_at hl 2 rfl) ?_
                        refine lv_aload_n hx hb dX9_like_123 rfl (lv_at hl 0 rfl) ?_
                        refine lv_iload hx hb dX9_like_124 (lv_at hl 6 rfl) ?_
                        obtain ⟨_, hc_110⟩ := hO.cell h_a (by decide) (ci := 9) rfl
                        refine th_calli (va_runV (As := [.int (I v7q82)]) (rest := [.int (I j), .ref b]) ⟨hx, hb, hml, hown, hts⟩ (t_keyAt l G y b0 σ a (tvE E σ a 60) v7q82 (hO.isT1 h_a) (show rng v7q82 from rv7q82)) (cwV 1 hts gX9_like_X9_keyAt rfl rfl rfl (by decide +kernel) ⟨(by first | (simp only [headSpec]; omega) | omega | (dsimp only; omega)), (by first | (simp only [headSpec]; omega) | omega | (dsimp only; omega))⟩) (th_PV hK hH rfl hc_110) rfl rfl hl.1 rfl (lv_room (Nat.le_of_ble_eq_true rfl)) dX9_like_126 ⟨(by first | (simp only [headSpec]; omega) | omega | (dsimp only; omega)), (by first | (simp only [headSpec]; omega) | omega | (dsimp only; omega))⟩) hS (fun z_113 σ_s_112 H locs rz_113 hw_111 hH hS => ?_)
                        obtain ⟨e9, hw_111⟩ := hw_111
                        replace e9 := e9.symm
                        subst e9
                        obtain ⟨_, hc_114⟩ := hO.cell h_b (by decide) (ci := 9) rfl
                        refine th_calli (va_runV (As := [.int (I j), .int (I z_113)]) (rest := []) ⟨hx, hb, hml, hown, hts⟩ (t_childBy l G y b0 σ b (tvE E σ b 60) j z_113 (hO.isT1 h_b) (show rng j from rj) (show rng z_113 from rz_113)) (cwV 2 hts gX9_like_X9_childBy rfl rfl rfl (by decide +kernel) ⟨(by first | (simp only [headSpec]; omega) | omega | (dsimp only; omega)), (by first | (simp only [headSpec]; omega) | omega | (dsimp only; omega))⟩) (th_PV hK hH rfl hc_114) rfl rfl hl.1 rfl (lv_room (Nat.le_of_ble_eq_true rfl)) dX9_like_129 ⟨(by first | (simp only [headSpec]; omega) | omega | (dsimp only; omega)), (by first | (simp only [headSpec]; omega) | omega | (dsimp only; omega))⟩) hS (fun z_117 σ_s_116 H locs rz_117 hw_115 hH hS => ?_)
                        obtain ⟨e9, hw_115⟩ := hw_115
                        replace e9 := e9.symm
                        subst e9
                        have hw_115 : z_117 = -1 ∨ (0 ≤ j ∧ j < z_117 ∧ z_117 < (gI σ b 4)) := hw_115
                        refine lv_goto (tgt := 137) hx hb dX9_like_132 (by decide) ?_
                        exact jK_95 (z_117) σ _ _ _ ⟨rfl, hH, hS, lv_sub hl [0, 1, 2, 3, 4, 5, 6, 7, 8] rfl, rz_117, by first | omega | (dsimp only; omega), by first | omega | (dsimp only; omega)⟩
                · replace c_44 := mt (I_eq (a := z_39) (b := z_43) rz_39 rz_43).mpr c_44
                  refine lv_iconst (v := I 0) hx hb dX9_like_93 (by decide) ?_
                  exact th_zret hx hb hr hlocks hH hS (z := 0) (by omega) ⟨rfl, ⟨by omega, by omega⟩, trivial⟩ dX9_like_94
              · replace c_35 := mt (I_eq (a := z_30) (b := z_34) rz_30 rz_34).mpr c_35
                refine lv_iconst (v := I 0) hx hb dX9_like_74 (by decide) ?_
                exact th_zret hx hb hr hlocks hH hS (z := 0) (by omega) ⟨rfl, ⟨by omega, by omega⟩, trivial⟩ dX9_like_75
            · replace c_26 := (I_eq (a := z_6) (b := 1) rz_6 (show rng 1 from ⟨by decide, by decide⟩)).mp c_26
              refine lv_aload_n hx hb dX9_like_42 rfl (lv_at hl 1 rfl) ?_
              refine lv_iload_n hx hb dX9_like_43 rfl (lv_at hl 2 rfl) ?_
              obtain ⟨_, hc_118⟩ := hO.cell h_a (by decide) (ci := 9) rfl
              refine th_calli (va_runV (As := [.int (I i)]) (rest := []) ⟨hx, hb, hml, hown, hts⟩ (t_valueAt l G y b0 σ a (tvE E σ a 60) i (hO.isT1 h_a) (show rng i from ri)) (cwV 1 hts gX9_like_X9_valueAt rfl rfl rfl (by decide +kernel) ⟨(by first | (simp only [headSpec]; omega) | omega | (dsimp only; omega)), (by first | (simp only [headSpec]; omega) | omega | (dsimp only; omega))⟩) (th_PV hK hH rfl hc_118) rfl rfl hl.1 rfl (lv_room (Nat.le_of_ble_eq_true rfl)) dX9_like_44 ⟨(by first | (simp only [headSpec]; omega) | omega | (dsimp only; omega)), (by first | (simp only [headSpec]; omega) | omega | (dsimp only; omega))⟩) hS (fun z_121 σ_s_120 H locs rz_121 hw_119 hH hS => ?_)
              obtain ⟨e9, hw_119⟩ := hw_119
              replace e9 := e9.symm
              subst e9
              refine lv_aload_n hx hb dX9_like_47 rfl (lv_at hl 3 rfl) ?_
              refine lv_iload_n hx hb dX9_like_48 rfl (lv_at hl 4 rfl) ?_
              obtain ⟨_, hc_122⟩ := hO.cell h_b (by decide) (ci := 9) rfl
              refine th_calli (va_runV (As := [.int (I j)]) (rest := [.int (I z_121)]) ⟨hx, hb, hml, hown, hts⟩ (t_valueAt l G y b0 σ b (tvE E σ b 60) j (hO.isT1 h_b) (show rng j from rj)) (cwV 1 hts gX9_like_X9_valueAt rfl rfl rfl (by decide +kernel) ⟨(by first | (simp only [headSpec]; omega) | omega | (dsimp only; omega)), (by first | (simp only [headSpec]; omega) | omega | (dsimp only; omega))⟩) (th_PV hK hH rfl hc_122) rfl rfl hl.1 rfl (lv_room (Nat.le_of_ble_eq_true rfl)) dX9_like_49 ⟨(by first | (simp only [headSpec]; omega) | omega | (dsimp only; omega)), (by first | (simp only [headSpec]; omega) | omega | (dsimp only; omega))⟩) hS (fun z_125 σ_s_124 H locs rz_125 hw_123 hH hS => ?_)
              obtain ⟨e9, hw_123⟩ := hw_123
              replace e9 := e9.symm
              subst e9
              refine lv_icmp_ne (tgt := 59) hx hb dX9_like_52 (by decide) (fun c_126 => ?_) (fun c_126 => ?_)
              · replace c_126 := mt (I_eq (a := z_121) (b := z_125) rz_121 rz_125).mpr c_126
                refine lv_iconst (v := I 0) hx hb dX9_like_59 (by decide) ?_
                exact th_zret hx hb hr hlocks hH hS (z := 0) (by omega) ⟨rfl, ⟨by omega, by omega⟩, trivial⟩ dX9_like_60
              · replace c_126 := (I_eq (a := z_121) (b := z_125) rz_121 rz_125).mp c_126
                refine lv_iconst (v := I 1) hx hb dX9_like_55 (by decide) ?_
                refine lv_goto (tgt := 60) hx hb dX9_like_56 (by decide) ?_
                exact th_zret hx hb hr hlocks hH hS (z := 1) (by omega) ⟨rfl, ⟨by omega, by omega⟩, trivial⟩ dX9_like_60
        · replace c_15 := mt (I_le (a := lv) (b := 16) rlv (show rng 16 from ⟨by decide, by decide⟩)).mpr c_15
          refine lv_iconst (v := I 0) hx hb dX9_like_29 (by decide) ?_
          exact th_zret hx hb hr hlocks hH hS (z := 0) (by omega) ⟨rfl, ⟨by omega, by omega⟩, trivial⟩ dX9_like_30

set_option maxHeartbeats 1000000 in
set_option maxRecDepth 100000 in
theorem t12_like (n : Nat) : ∀ (l : Launch) (G : va_G) (y : Nat → ClassId) (b0 : Nat) (σ : th_M) (E : th_E) (hO : ok y E σ) (a : Nat) (h_a : kd E a = 1) (i : Int) (ri : rng i) (b : Nat) (h_b : kd E b = 2) (j : Int) (rj : rng j) (lv : Int) (rlv : rng lv) (l_lv : 0 ≤ lv) (u_lv : lv ≤ 17) (hn : (17 - lv).toNat < n), Met l yX9_like wsX9_like ({ frames := 3*n+6, cells := 0, slots := 0, locals := (60*n+200) }) (th_P G y b0 σ [.ref a, .int (I i), .ref b, .int (I j), .int (I lv)]) (th_Qi G b0 (fun r σ1 => σ1 = σ ∧ (0 ≤ r ∧ r ≤ 1) ∧ (True))) 0 0 (th_A b0) := by
  induction n with
  | zero => intro l G y b0 σ E hO a h_a i ri b h_b j rj lv rlv l_lv u_lv hn; exact absurd hn (Nat.not_lt_zero _)
  | succ n ih =>
    intro l G y b0 σ E hO a h_a i ri b h_b j rj lv rlv l_lv u_lv hn
    refine Met.ofW (cc := cX9_like) (maxL := 11) (ret := (some .boolean)) (by decide) rfl ?_
    intro p e s m args below meth c s₁ B hml hv
    obtain ⟨rfl, hH, hK⟩ := hv
    have hx := B.exec
    have hb := B.bytes
    have hr := B.returns
    have hts := atoms_spec (ws := wsX9_like) B.pre
    have hown : s.vm.findClass RX9 = some m.cls := findClass_of_methodNamed B.named
    have hlocks := B.notSynchronized
    have h00 : b0 ≤ s.heap.size := hH.1
    have hS : va_S (th_A b0) s.heap s.heap [] := va_S.rf
    have hl := lv_entry ([.ref a, .int (I i), .ref b, .int (I j), .int (I lv)]) (n := 11) (Nat.le_of_ble_eq_true rfl)
    rw [lg_entry_eq]
    generalize (lg_sl ([.ref a, .int (I i), .ref b, .int (I j), .int (I lv)]) ++ List.replicate (11 - (lg_sl ([.ref a, .int (I i), .ref b, .int (I j), .int (I lv)])).length) Slot.unset).toArray = ls at hl ⊢
    have hl : lv_has ls 11 [(0, .ref a), (1, .int (I i)), (2, .ref b), (3, .int (I j)), (4, .int (I lv))] := hl
    refine lv_aload_n hx hb dX9_like_0 rfl (lv_at hl 0 rfl) ?_
    refine lv_iload_n hx hb dX9_like_1 rfl (lv_at hl 1 rfl) ?_
    obtain ⟨z_1, e_2, rz_1, lz_1, uz_1⟩ := hO.gi h_a (by decide) k1_4
    obtain ⟨_, hc_3⟩ := hO.cell h_a (by decide) (ci := 9) rfl
    refine th_calli (va_runV (As := [.int (I i)]) (rest := []) ⟨hx, hb, hml, hown, hts⟩ (t_kindAt l G y b0 σ a (tvE E σ a 60) i (hO.isT1 h_a) (show rng i from ri)) (cwV 1 hts gX9_like_X9_kindAt rfl rfl rfl (by decide +kernel) ⟨(by first | (simp only [headSpec]; omega) | omega | (dsimp only; omega)), (by first | (simp only [headSpec]; omega) | omega | (dsimp only; omega))⟩) (th_PV hK hH rfl hc_3) rfl rfl hl.1 rfl (lv_room (Nat.le_of_ble_eq_true rfl)) dX9_like_2 ⟨(by first | (simp only [headSpec]; omega) | omega | (dsimp only; omega)), (by first | (simp only [headSpec]; omega) | omega | (dsimp only; omega))⟩) hS (fun z_6 σ_s_5 H locs rz_6 hw_4 hH hS => ?_)
    obtain ⟨e9, hw_4⟩ := hw_4
    replace e9 := e9.symm
    subst e9
    have hw_4 : (0 ≤ i ∧ i < (gI σ a 4)) ∨ z_6 = -1 := hw_4
    refine lv_istore (lv' := [(5, .int (I z_6)), (0, .ref a), (1, .int (I i)), (2, .ref b), (3, .int (I j)), (4, .int (I lv))]) hx hb dX9_like_5 hl (by decide) rfl (fun ls hl => ?_)
    refine lv_iload hx hb dX9_like_7 (lv_at hl 0 rfl) ?_
    refine lv_if_lt (tgt := 29) hx hb dX9_like_9 (by decide) (fun c_7 => ?_) (fun c_7 => ?_)
    · replace c_7 := (I_lt (a := z_6) (b := 0) rz_6 (show rng 0 from ⟨by decide, by decide⟩)).mp c_7
      refine lv_iconst (v := I 0) hx hb dX9_like_29 (by decide) ?_
      exact th_zret hx hb hr hlocks hH hS (z := 0) (by omega) ⟨rfl, ⟨by omega, by omega⟩, trivial⟩ dX9_like_30
    · replace c_7 := mt (I_lt (a := z_6) (b := 0) rz_6 (show rng 0 from ⟨by decide, by decide⟩)).mpr c_7
      refine lv_iload hx hb dX9_like_12 (lv_at hl 0 rfl) ?_
      refine lv_aload_n hx hb dX9_like_14 rfl (lv_at hl 3 rfl) ?_
      refine lv_iload_n hx hb dX9_like_15 rfl (lv_at hl 4 rfl) ?_
      obtain ⟨z_8, e_9, rz_8, lz_8, uz_8⟩ := hO.gi h_b (by decide) k2_4
      obtain ⟨_, hc_10⟩ := hO.cell h_b (by decide) (ci := 9) rfl
      refine th_calli (va_runV (As := [.int (I j)]) (rest := [.int (I z_6)]) ⟨hx, hb, hml, hown, hts⟩ (t_kindAt l G y b0 σ b (tvE E σ b 128) j (hO.isT2 h_b) (show rng j from rj)) (cwV 1 hts gX9_like_X9_kindAt rfl rfl rfl (by decide +kernel) ⟨(by first | (simp only [headSpec]; omega) | omega | (dsimp only; omega)), (by first | (simp only [headSpec]; omega) | omega | (dsimp only; omega))⟩) (th_PV hK hH rfl hc_10) rfl rfl hl.1 rfl (lv_room (Nat.le_of_ble_eq_true rfl)) dX9_like_16 ⟨(by first | (simp only [headSpec]; omega) | omega | (dsimp only; omega)), (by first | (simp only [headSpec]; omega) | omega | (dsimp only; omega))⟩) hS (fun z_13 σ_s_12 H locs rz_13 hw_11 hH hS => ?_)
      obtain ⟨e9, hw_11⟩ := hw_11
      replace e9 := e9.symm
      subst e9
      have hw_11 : (0 ≤ j ∧ j < (gI σ b 4)) ∨ z_13 = -1 := hw_11
      refine lv_icmp_ne (tgt := 29) hx hb dX9_like_19 (by decide) (fun c_14 => ?_) (fun c_14 => ?_)
      · replace c_14 := mt (I_eq (a := z_6) (b := z_13) rz_6 rz_13).mpr c_14
        refine lv_iconst (v := I 0) hx hb dX9_like_29 (by decide) ?_
        exact th_zret hx hb hr hlocks hH hS (z := 0) (by omega) ⟨rfl, ⟨by omega, by omega⟩, trivial⟩ dX9_like_30
      · replace c_14 := (I_eq (a := z_6) (b := z_13) rz_6 rz_13).mp c_14
        refine lv_iload hx hb dX9_like_22 (lv_at hl 5 rfl) ?_
        refine lv_bipush (v := I 16) hx hb dX9_like_24 (by decide) ?_
        refine lv_icmp_le (tgt := 31) hx hb dX9_like_26 (by decide) (fun c_15 => ?_) (fun c_15 => ?_)
        · replace c_15 := (I_le (a := lv) (b := 16) rlv (show rng 16 from ⟨by decide, by decide⟩)).mp c_15
          refine lv_iload hx hb dX9_like_31 (lv_at hl 0 rfl) ?_
          refine lv_if_eq (tgt := 42) hx hb dX9_like_33 (by decide) (fun c_16 => ?_) (fun c_16 => ?_)
          · replace c_16 := (I_eq (a := z_6) (b := 0) rz_6 (show rng 0 from ⟨by decide, by decide⟩)).mp c_16
            refine lv_aload_n hx hb dX9_like_42 rfl (lv_at hl 1 rfl) ?_
            refine lv_iload_n hx hb dX9_like_43 rfl (lv_at hl 2 rfl) ?_
            obtain ⟨_, hc_17⟩ := hO.cell h_a (by decide) (ci := 9) rfl
            refine th_calli (va_runV (As := [.int (I i)]) (rest := []) ⟨hx, hb, hml, hown, hts⟩ (t_valueAt l G y b0 σ a (tvE E σ a 60) i (hO.isT1 h_a) (show rng i from ri)) (cwV 1 hts gX9_like_X9_valueAt rfl rfl rfl (by decide +kernel) ⟨(by first | (simp only [headSpec]; omega) | omega | (dsimp only; omega)), (by first | (simp only [headSpec]; omega) | omega | (dsimp only; omega))⟩) (th_PV hK hH rfl hc_17) rfl rfl hl.1 rfl (lv_room (Nat.le_of_ble_eq_true rfl)) dX9_like_44 ⟨(by first | (simp only [headSpec]; omega) | omega | (dsimp only; omega)), (by first | (simp only [headSpec]; omega) | omega | (dsimp only; omega))⟩) hS (fun z_20 σ_s_19 H locs rz_20 hw_18 hH hS => ?_)
            obtain ⟨e9, hw_18⟩ := hw_18
            replace e9 := e9.symm
            subst e9
            refine lv_aload_n hx hb dX9_like_47 rfl (lv_at hl 3 rfl) ?_
            refine lv_iload_n hx hb dX9_like_48 rfl (lv_at hl 4 rfl) ?_
            obtain ⟨_, hc_21⟩ := hO.cell h_b (by decide) (ci := 9) rfl
            refine th_calli (va_runV (As := [.int (I j)]) (rest := [.int (I z_20)]) ⟨hx, hb, hml, hown, hts⟩ (t_valueAt l G y b0 σ b (tvE E σ b 128) j (hO.isT2 h_b) (show rng j from rj)) (cwV 1 hts gX9_like_X9_valueAt rfl rfl rfl (by decide +kernel) ⟨(by first | (simp only [headSpec]; omega) | omega | (dsimp only; omega)), (by first | (simp only [headSpec]; omega) | omega | (dsimp only; omega))⟩) (th_PV hK hH rfl hc_21) rfl rfl hl.1 rfl (lv_room (Nat.le_of_ble_eq_true rfl)) dX9_like_49 ⟨(by first | (simp only [headSpec]; omega) | omega | (dsimp only; omega)), (by first | (simp only [headSpec]; omega) | omega | (dsimp only; omega))⟩) hS (fun z_24 σ_s_23 H locs rz_24 hw_22 hH hS => ?_)
            obtain ⟨e9, hw_22⟩ := hw_22
            replace e9 := e9.symm
            subst e9
            refine lv_icmp_ne (tgt := 59) hx hb dX9_like_52 (by decide) (fun c_25 => ?_) (fun c_25 => ?_)
            · replace c_25 := mt (I_eq (a := z_20) (b := z_24) rz_20 rz_24).mpr c_25
              refine lv_iconst (v := I 0) hx hb dX9_like_59 (by decide) ?_
              exact th_zret hx hb hr hlocks hH hS (z := 0) (by omega) ⟨rfl, ⟨by omega, by omega⟩, trivial⟩ dX9_like_60
            · replace c_25 := (I_eq (a := z_20) (b := z_24) rz_20 rz_24).mp c_25
              refine lv_iconst (v := I 1) hx hb dX9_like_55 (by decide) ?_
              refine lv_goto (tgt := 60) hx hb dX9_like_56 (by decide) ?_
              exact th_zret hx hb hr hlocks hH hS (z := 1) (by omega) ⟨rfl, ⟨by omega, by omega⟩, trivial⟩ dX9_like_60
          · replace c_16 := mt (I_eq (a := z_6) (b := 0) rz_6 (show rng 0 from ⟨by decide, by decide⟩)).mpr c_16
            refine lv_iload hx hb dX9_like_36 (lv_at hl 0 rfl) ?_
            refine lv_iconst (v := I 1) hx hb dX9_like_38 (by decide) ?_
            refine lv_icmp_ne (tgt := 61) hx hb dX9_like_39 (by decide) (fun c_26 => ?_) (fun c_26 => ?_)
            · replace c_26 := mt (I_eq (a := z_6) (b := 1) rz_6 (show rng 1 from ⟨by decide, by decide⟩)).mpr c_26
              refine lv_aload_n hx hb dX9_like_61 rfl (lv_at hl 1 rfl) ?_
              refine lv_iload_n hx hb dX9_like_62 rfl (lv_at hl 2 rfl) ?_
              obtain ⟨_, hc_27⟩ := hO.cell h_a (by decide) (ci := 9) rfl
              refine th_calli (va_runV (As := [.int (I i)]) (rest := []) ⟨hx, hb, hml, hown, hts⟩ (t_sizeOf l G y b0 σ a (tvE E σ a 60) i (hO.isT1 h_a) (show rng i from ri)) (cwV 1 hts gX9_like_X9_sizeOf rfl rfl rfl (by decide +kernel) ⟨(by first | (simp only [headSpec]; omega) | omega | (dsimp only; omega)), (by first | (simp only [headSpec]; omega) | omega | (dsimp only; omega))⟩) (th_PV hK hH rfl hc_27) rfl rfl hl.1 rfl (lv_room (Nat.le_of_ble_eq_true rfl)) dX9_like_63 ⟨(by first | (simp only [headSpec]; omega) | omega | (dsimp only; omega)), (by first | (simp only [headSpec]; omega) | omega | (dsimp only; omega))⟩) hS (fun z_30 σ_s_29 H locs rz_30 hw_28 hH hS => ?_)
              obtain ⟨e9, hw_28⟩ := hw_28
              replace e9 := e9.symm
              subst e9
              have hw_28 : ((0 ≤ i ∧ i < (gI σ a 4)) ∧ 1 ≤ z_30 ∧ i + z_30 ≤ (gI σ a 4)) ∨ (z_30 = 0 ∧ ¬ (0 ≤ i ∧ i < (gI σ a 4))) := hw_28
              refine lv_aload_n hx hb dX9_like_66 rfl (lv_at hl 3 rfl) ?_
              refine lv_iload_n hx hb dX9_like_67 rfl (lv_at hl 4 rfl) ?_
              obtain ⟨_, hc_31⟩ := hO.cell h_b (by decide) (ci := 9) rfl
              refine th_calli (va_runV (As := [.int (I j)]) (rest := [.int (I z_30)]) ⟨hx, hb, hml, hown, hts⟩ (t_sizeOf l G y b0 σ b (tvE E σ b 128) j (hO.isT2 h_b) (show rng j from rj)) (cwV 1 hts gX9_like_X9_sizeOf rfl rfl rfl (by decide +kernel) ⟨(by first | (simp only [headSpec]; omega) | omega | (dsimp only; omega)), (by first | (simp only [headSpec]; omega) | omega | (dsimp only; omega))⟩) (th_PV hK hH rfl hc_31) rfl rfl hl.1 rfl (lv_room (Nat.le_of_ble_eq_true rfl)) dX9_like_68 ⟨(by first | (simp only [headSpec]; omega) | omega | (dsimp only; omega)), (by first | (simp only [headSpec]; omega) | omega | (dsimp only; omega))⟩) hS (fun z_34 σ_s_33 H locs rz_34 hw_32 hH hS => ?_)
              obtain ⟨e9, hw_32⟩ := hw_32
              replace e9 := e9.symm
              subst e9
              have hw_32 : ((0 ≤ j ∧ j < (gI σ b 4)) ∧ 1 ≤ z_34 ∧ j + z_34 ≤ (gI σ b 4)) ∨ (z_34 = 0 ∧ ¬ (0 ≤ j ∧ j < (gI σ b 4))) := hw_32
              refine lv_icmp_eq (tgt := 76) hx hb dX9_like_71 (by decide) (fun c_35 => ?_) (fun c_35 => ?_)
              · replace c_35 := (I_eq (a := z_30) (b := z_34) rz_30 rz_34).mp c_35
                refine lv_aload_n hx hb dX9_like_76 rfl (lv_at hl 1 rfl) ?_
                refine lv_iload_n hx hb dX9_like_77 rfl (lv_at hl 2 rfl) ?_
                obtain ⟨_, hc_36⟩ := hO.cell h_a (by decide) (ci := 9) rfl
                refine th_calli (va_runV (As := [.int (I i)]) (rest := []) ⟨hx, hb, hml, hown, hts⟩ (t_childCount l G y b0 σ a (tvE E σ a 60) i (hO.isT1 h_a) (show rng i from ri)) (cwV 1 hts gX9_like_X9_childCount rfl rfl rfl (by decide +kernel) ⟨(by first | (simp only [headSpec]; omega) | omega | (dsimp only; omega)), (by first | (simp only [headSpec]; omega) | omega | (dsimp only; omega))⟩) (th_PV hK hH rfl hc_36) rfl rfl hl.1 rfl (lv_room (Nat.le_of_ble_eq_true rfl)) dX9_like_78 ⟨(by first | (simp only [headSpec]; omega) | omega | (dsimp only; omega)), (by first | (simp only [headSpec]; omega) | omega | (dsimp only; omega))⟩) hS (fun z_39 σ_s_38 H locs rz_39 hw_37 hH hS => ?_)
                obtain ⟨e9, hw_37⟩ := hw_37
                replace e9 := e9.symm
                subst e9
                have hw_37 : 0 ≤ z_39 ∧ z_39 ≤ (gI σ a 4) := hw_37
                refine lv_istore (lv' := [(6, .int (I z_39)), (5, .int (I z_6)), (0, .ref a), (1, .int (I i)), (2, .ref b), (3, .int (I j)), (4, .int (I lv))]) hx hb dX9_like_81 hl (by decide) rfl (fun ls hl => ?_)
                refine lv_iload hx hb dX9_like_83 (lv_at hl 0 rfl) ?_
                refine lv_aload_n hx hb dX9_like_85 rfl (lv_at hl 4 rfl) ?_
                refine lv_iload_n hx hb dX9_like_86 rfl (lv_at hl 5 rfl) ?_
                obtain ⟨_, hc_40⟩ := hO.cell h_b (by decide) (ci := 9) rfl
                refine th_calli (va_runV (As := [.int (I j)]) (rest := [.int (I z_39)]) ⟨hx, hb, hml, hown, hts⟩ (t_childCount l G y b0 σ b (tvE E σ b 128) j (hO.isT2 h_b) (show rng j from rj)) (cwV 1 hts gX9_like_X9_childCount rfl rfl rfl (by decide +kernel) ⟨(by first | (simp only [headSpec]; omega) | omega | (dsimp only; omega)), (by first | (simp only [headSpec]; omega) | omega | (dsimp only; omega))⟩) (th_PV hK hH rfl hc_40) rfl rfl hl.1 rfl (lv_room (Nat.le_of_ble_eq_true rfl)) dX9_like_87 ⟨(by first | (simp only [headSpec]; omega) | omega | (dsimp only; omega)), (by first | (simp only [headSpec]; omega) | omega | (dsimp only; omega))⟩) hS (fun z_43 σ_s_42 H locs rz_43 hw_41 hH hS => ?_)
                obtain ⟨e9, hw_41⟩ := hw_41
                replace e9 := e9.symm
                subst e9
                have hw_41 : 0 ≤ z_43 ∧ z_43 ≤ (gI σ b 4) := hw_41
                refine lv_icmp_eq (tgt := 95) hx hb dX9_like_90 (by decide) (fun c_44 => ?_) (fun c_44 => ?_)
                · replace c_44 := (I_eq (a := z_39) (b := z_43) rz_39 rz_43).mp c_44
                  refine lv_iload_n hx hb dX9_like_95 rfl (lv_at hl 3 rfl) ?_
                  refine lv_iconst (v := I 1) hx hb dX9_like_96 (by decide) ?_
                  refine lv_iadd hx hb dX9_like_97 ?_
                  refine th_addo (fun z_45 rz_45 hz_45 => ?_)
                  refine lv_istore (lv' := [(7, .int (I z_45)), (6, .int (I z_39)), (5, .int (I z_6)), (0, .ref a), (1, .int (I i)), (2, .ref b), (3, .int (I j)), (4, .int (I lv))]) hx hb dX9_like_98 hl (by decide) rfl (fun ls hl => ?_)
                  refine lv_iload_n hx hb dX9_like_100 rfl (lv_at hl 6 rfl) ?_
                  refine lv_iconst (v := I 1) hx hb dX9_like_101 (by decide) ?_
                  refine lv_iadd hx hb dX9_like_102 ?_
                  refine th_addo (fun z_46 rz_46 hz_46 => ?_)
                  refine lv_istore (lv' := [(8, .int (I z_46)), (7, .int (I z_45)), (6, .int (I z_39)), (5, .int (I z_6)), (0, .ref a), (1, .int (I i)), (2, .ref b), (3, .int (I j)), (4, .int (I lv))]) hx hb dX9_like_103 hl (by decide) rfl (fun ls hl => ?_)
                  refine lv_iconst (v := I 0) hx hb dX9_like_105 (by decide) ?_
                  refine lv_istore (lv' := [(9, .int (I 0)), (8, .int (I z_46)), (7, .int (I z_45)), (6, .int (I z_39)), (5, .int (I z_6)), (0, .ref a), (1, .int (I i)), (2, .ref b), (3, .int (I j)), (4, .int (I lv))]) hx hb dX9_like_106 hl (by decide) rfl (fun ls hl => ?_)
                  replace hl : lv_has ls 11 [(9, .int (I 0)), (8, .int (I z_46)), (7, .int (I z_45)), (6, .int (I z_39)), (5, .int (I z_6)), (0, .ref a), (2, .ref b), (3, .int (I j)), (4, .int (I lv))] := lv_sub hl [0, 1, 2, 3, 4, 5, 7, 8, 9] rfl
                  refine th_loop (α := Int × Int × Int) (pc := 108) (fun x9 => (128 - x9.2.2).toNat) (fun x9 σ9 H9 l9 ls9 => σ9 = σ ∧ th_H G b0 σ9 H9 ∧ va_S (th_A b0) s.heap H9 l9 ∧ lv_has ls9 11 [(0, .ref a), (2, .ref b), (3, .int (I j)), (4, .int (I lv)), (5, .int (I z_6)), (6, .int (I z_39)), (7, .int (I x9.1)), (8, .int (I x9.2.1)), (9, .int (I x9.2.2))] ∧ rng x9.1 ∧ rng x9.2.1 ∧ rng x9.2.2 ∧ (0 ≤ x9.2.2) ∧ (z_39 ≤ 128) ∧ (-2 ≤ x9.1) ∧ (x9.1 ≤ 200) ∧ (-2 ≤ x9.2.1) ∧ (x9.2.1 ≤ 200)) ?_ (z_45, z_46, 0) σ _ _ _ ⟨rfl, hH, hS, lv_sub hl [5, 6, 7, 8, 4, 3, 2, 1, 0] rfl, rz_45, rz_46, (show rng 0 from ⟨by decide, by decide⟩), by first | omega | (dsimp only; omega), by first | omega | (dsimp only; omega), by first | omega | (dsimp only; omega), by first | omega | (dsimp only; omega), by first | omega | (dsimp only; omega), by first | omega | (dsimp only; omega)⟩
                  intro x9 σ_J_83 H locs ls hI9 ihJ_83
                  obtain ⟨v7q82, v8q82, v9q82⟩ := x9
                  obtain ⟨eJ_83, hH, hS, hl, rv7q82, rv8q82, rv9q82, J_83_0, J_83_1, J_83_2, J_83_3, J_83_4, J_83_5⟩ := hI9
                  replace eJ_83 := eJ_83.symm
                  subst eJ_83
                  have hl : lv_has ls 11 [(0, .ref a), (2, .ref b), (3, .int (I j)), (4, .int (I lv)), (5, .int (I z_6)), (6, .int (I z_39)), (7, .int (I v7q82)), (8, .int (I v8q82)), (9, .int (I v9q82))] := hl
                  have rv7q82 : rng v7q82 := rv7q82
                  have rv8q82 : rng v8q82 := rv8q82
                  have rv9q82 : rng v9q82 := rv9q82
                  have J_83_0 : 0 ≤ v9q82 := J_83_0
                  have J_83_1 : z_39 ≤ 128 := J_83_1
                  have J_83_2 : -2 ≤ v7q82 := J_83_2
                  have J_83_3 : v7q82 ≤ 200 := J_83_3
                  have J_83_4 : -2 ≤ v8q82 := J_83_4
                  have J_83_5 : v8q82 ≤ 200 := J_83_5
                  refine lv_iload hx hb dX9_like_108 (lv_at hl 8 rfl) ?_
                  refine lv_iload hx hb dX9_like_110 (lv_at hl 5 rfl) ?_
                  refine lv_icmp_ge (tgt := 183) hx hb dX9_like_112 (by decide) (fun c_84 => ?_) (fun c_84 => ?_)
                  · replace c_84 := (I_le (a := z_39) (b := v9q82) rz_39 rv9q82).mp c_84
                    refine lv_iconst (v := I 1) hx hb dX9_like_183 (by decide) ?_
                    exact th_zret hx hb hr hlocks hH hS (z := 1) (by omega) ⟨rfl, ⟨by omega, by omega⟩, trivial⟩ dX9_like_184
                  · replace c_84 := mt (I_le (a := z_39) (b := v9q82) rz_39 rv9q82).mpr c_84
                    refine lv_iload hx hb dX9_like_115 (lv_at hl 4 rfl) ?_
                    refine lv_iconst (v := I 3) hx hb dX9_like_117 (by decide) ?_
                    refine th_join (α := Int) (J := 137) (stk := fun x9 => [.int (I x9)]) (fun x9 σ9 H9 l9 ls9 => σ9 = σ ∧ th_H G b0 σ9 H9 ∧ va_S (th_A b0) s.heap H9 l9 ∧ lv_has ls9 11 [(0, .ref a), (2, .ref b), (3, .int (I j)), (4, .int (I lv)), (5, .int (I z_6)), (6, .int (I z_39)), (7, .int (I v7q82)), (8, .int (I v8q82)), (9, .int (I v9q82))] ∧ rng x9 ∧ (-2 ≤ x9) ∧ (x9 ≤ 200)) ?_ (fun jK_95 => ?_)
                    · intro x9 σ_K_95 H locs ls hI9
                      obtain ⟨w0q94, ex9⟩ : ∃ z, z = x9 := ⟨_, rfl⟩
                      subst ex9
                      obtain ⟨eK_95, hH, hS, hl, rw0q94, K_95_0, K_95_1⟩ := hI9
                      replace eK_95 := eK_95.symm
                      subst eK_95
                      have hl : lv_has ls 11 [(0, .ref a), (2, .ref b), (3, .int (I j)), (4, .int (I lv)), (5, .int (I z_6)), (6, .int (I z_39)), (7, .int (I v7q82)), (8, .int (I v8q82)), (9, .int (I v9q82))] := hl
                      have rw0q94 : rng w0q94 := rw0q94
                      have K_95_0 : -2 ≤ w0q94 := K_95_0
                      have K_95_1 : w0q94 ≤ 200 := K_95_1
                      refine lv_istore (lv' := [(10, .int (I w0q94)), (0, .ref a), (2, .ref b), (3, .int (I j)), (4, .int (I lv)), (5, .int (I z_6)), (6, .int (I z_39)), (7, .int (I v7q82)), (8, .int (I v8q82)), (9, .int (I v9q82))]) hx hb dX9_like_137 hl (by decide) rfl (fun ls hl => ?_)
                      refine lv_aload_n hx hb dX9_like_139 rfl (lv_at hl 1 rfl) ?_
                      refine lv_iload hx hb dX9_like_140 (lv_at hl 7 rfl) ?_
                      refine lv_aload_n hx hb dX9_like_142 rfl (lv_at hl 2 rfl) ?_
                      refine lv_iload hx hb dX9_like_143 (lv_at hl 0 rfl) ?_
                      refine lv_iload hx hb dX9_like_145 (lv_at hl 4 rfl) ?_
                      refine lv_iconst (v := I 1) hx hb dX9_like_147 (by decide) ?_
                      refine lv_iadd hx hb dX9_like_148 ?_
                      refine nq_top (I_add _ _) ?_
                      obtain ⟨_, hc_96⟩ := hO.cell h_a (by decide) (ci := 9) rfl
                      refine th_calli (va_runV (As := [.int (I v7q82), .ref b, .int (I w0q94), .int (I (lv + 1))]) (rest := []) ⟨hx, hb, hml, hown, hts⟩ (ih l G y b0 σ E hO a h_a v7q82 (show rng v7q82 from rv7q82) b h_b w0q94 (show rng w0q94 from rw0q94) (lv + 1) (show rng (lv + 1) from ⟨by omega, by omega⟩) (by omega) (by omega) (by omega)) (cwV 4 hts gX9_like_X9_like rfl rfl rfl (by decide +kernel) ⟨(by first | (simp only [headSpec]; omega) | omega | (dsimp only; omega)), (by first | (simp only [headSpec]; omega) | omega | (dsimp only; omega))⟩) (th_PV hK hH rfl hc_96) rfl rfl hl.1 rfl (lv_room (Nat.le_of_ble_eq_true rfl)) dX9_like_149 ⟨(by first | (simp only [headSpec]; omega) | omega | (dsimp only; omega)), (by first | (simp only [headSpec]; omega) | omega | (dsimp only; omega))⟩) hS (fun z_99 σ_s_98 H locs rz_99 hw_97 hH hS => ?_)
                      obtain ⟨e9, bhw_97, hw_97⟩ := hw_97
                      replace e9 := e9.symm
                      subst e9
                      refine lv_if_ne (tgt := 157) hx hb dX9_like_152 (by decide) (fun c_100 => ?_) (fun c_100 => ?_)
                      · replace c_100 := mt (I_eq (a := z_99) (b := 0) rz_99 (show rng 0 from ⟨by decide, by decide⟩)).mpr c_100
                        refine lv_aload_n hx hb dX9_like_157 rfl (lv_at hl 1 rfl) ?_
                        refine lv_iload hx hb dX9_like_158 (lv_at hl 7 rfl) ?_
                        obtain ⟨_, hc_101⟩ := hO.cell h_a (by decide) (ci := 9) rfl
                        refine th_calli (va_runV (As := [.int (I v7q82)]) (rest := []) ⟨hx, hb, hml, hown, hts⟩ (t_end l G y b0 σ a (tvE E σ a 60) v7q82 (hO.isT1 h_a) (show rng v7q82 from rv7q82)) (cwV 1 hts gX9_like_X9_end rfl rfl rfl (by decide +kernel) ⟨(by first | (simp only [headSpec]; omega) | omega | (dsimp only; omega)), (by first | (simp only [headSpec]; omega) | omega | (dsimp only; omega))⟩) (th_PV hK hH rfl hc_101) rfl rfl hl.1 rfl (lv_room (Nat.le_of_ble_eq_true rfl)) dX9_like_160 ⟨(by first | (simp only [headSpec]; omega) | omega | (dsimp only; omega)), (by first | (simp only [headSpec]; omega) | omega | (dsimp only; omega))⟩) hS (fun z_104 σ_s_103 H locs rz_104 hw_102 hH hS => ?_)
                        obtain ⟨e9, hw_102⟩ := hw_102
                        replace e9 := e9.symm
                        subst e9
                        have hw_102 : ((0 ≤ v7q82 ∧ v7q82 < (gI σ a 4)) ∧ v7q82 ≤ z_104 ∧ z_104 < (gI σ a 4)) ∨ (z_104 = -1 ∧ ¬ (0 ≤ v7q82 ∧ v7q82 < (gI σ a 4))) := hw_102
                        refine lv_iconst (v := I 1) hx hb dX9_like_163 (by decide) ?_
                        refine lv_iadd hx hb dX9_like_164 ?_
                        refine nq_top (I_add _ _) ?_
                        refine lv_istore (lv' := [(7, .int (I (z_104 + 1))), (10, .int (I w0q94)), (0, .ref a), (2, .ref b), (3, .int (I j)), (4, .int (I lv)), (5, .int (I z_6)), (6, .int (I z_39)), (8, .int (I v8q82)), (9, .int (I v9q82))]) hx hb dX9_like_165 hl (by decide) rfl (fun ls hl => ?_)
                        refine lv_aload_n hx hb dX9_like_167 rfl (lv_at hl 3 rfl) ?_
                        refine lv_iload hx hb dX9_like_168 (lv_at hl 8 rfl) ?_
                        obtain ⟨_, hc_105⟩ := hO.cell h_b (by decide) (ci := 9) rfl
                        refine th_calli (va_runV (As := [.int (I v8q82)]) (rest := []) ⟨hx, hb, hml, hown, hts⟩ (t_end l G y b0 σ b (tvE E σ b 128) v8q82 (hO.isT2 h_b) (show rng v8q82 from rv8q82)) (cwV 1 hts gX9_like_X9_end rfl rfl rfl (by decide +kernel) ⟨(by first | (simp only [headSpec]; omega) | omega | (dsimp only; omega)), (by first | (simp only [headSpec]; omega) | omega | (dsimp only; omega))⟩) (th_PV hK hH rfl hc_105) rfl rfl hl.1 rfl (lv_room (Nat.le_of_ble_eq_true rfl)) dX9_like_170 ⟨(by first | (simp only [headSpec]; omega) | omega | (dsimp only; omega)), (by first | (simp only [headSpec]; omega) | omega | (dsimp only; omega))⟩) hS (fun z_108 σ_s_107 H locs rz_108 hw_106 hH hS => ?_)
                        obtain ⟨e9, hw_106⟩ := hw_106
                        replace e9 := e9.symm
                        subst e9
                        have hw_106 : ((0 ≤ v8q82 ∧ v8q82 < (gI σ b 4)) ∧ v8q82 ≤ z_108 ∧ z_108 < (gI σ b 4)) ∨ (z_108 = -1 ∧ ¬ (0 ≤ v8q82 ∧ v8q82 < (gI σ b 4))) := hw_106
                        refine lv_iconst (v := I 1) hx hb dX9_like_173 (by decide) ?_
                        refine lv_iadd hx hb dX9_like_174 ?_
                        refine nq_top (I_add _ _) ?_
                        refine lv_istore (lv' := [(8, .int (I (z_108 + 1))), (7, .int (I (z_104 + 1))), (10, .int (I w0q94)), (0, .ref a), (2, .ref b), (3, .int (I j)), (4, .int (I lv)), (5, .int (I z_6)), (6, .int (I z_39)), (9, .int (I v9q82))]) hx hb dX9_like_175 hl (by decide) rfl (fun ls hl => ?_)
                        refine lv_iinc (v := I (v9q82 + 1)) (lv' := [(9, .int (I (v9q82 + 1))), (8, .int (I (z_108 + 1))), (7, .int (I (z_104 + 1))), (10, .int (I w0q94)), (0, .ref a), (2, .ref b), (3, .int (I j)), (4, .int (I lv)), (5, .int (I z_6)), (6, .int (I z_39))]) hx hb dX9_like_177 hl (k := 9) rfl (I_add _ _) (by decide) rfl (fun ls hl => ?_)
                        refine lv_goto (tgt := 108) hx hb dX9_like_180 (by decide) ?_
                        replace hl : lv_has ls 11 [(9, .int (I (v9q82 + 1))), (8, .int (I (z_108 + 1))), (7, .int (I (z_104 + 1))), (0, .ref a), (2, .ref b), (3, .int (I j)), (4, .int (I lv)), (5, .int (I z_6)), (6, .int (I z_39))] := lv_sub hl [0, 1, 2, 4, 5, 6, 7, 8, 9] rfl
                        exact ihJ_83 (z_104 + 1, z_108 + 1, v9q82 + 1) σ _ _ _ (by first | omega | (dsimp only; omega)) ⟨rfl, hH, hS, lv_sub hl [3, 4, 5, 6, 7, 8, 2, 1, 0] rfl, ⟨by first | omega | (dsimp only; omega), by first | omega | (dsimp only; omega)⟩, ⟨by first | omega | (dsimp only; omega), by first | omega | (dsimp only; omega)⟩, ⟨by first | omega | (dsimp only; omega), by first | omega | (dsimp only; omega)⟩, by first | omega | (dsimp only; omega), by first | omega | (dsimp only; omega), by first | omega | (dsimp only; omega), by first | omega | (dsimp only; omega), by first | omega | (dsimp only; omega), by first | omega | (dsimp only; omega)⟩
                      · replace c_100 := (I_eq (a := z_99) (b := 0) rz_99 (show rng 0 from ⟨by decide, by decide⟩)).mp c_100
                        refine lv_iconst (v := I 0) hx hb dX9_like_155 (by decide) ?_
                        exact th_zret hx hb hr hlocks hH hS (z := 0) (by omega) ⟨rfl, ⟨by omega, by omega⟩, trivial⟩ dX9_like_156
                    · refine lv_icmp_ne (tgt := 135) hx hb dX9_like_118 (by decide) (fun c_109 => ?_) (fun c_109 => ?_)
                      · replace c_109 := mt (I_eq (a := z_6) (b := 3) rz_6 (show rng 3 from ⟨by decide, by decide⟩)).mpr c_109
                        refine lv_iload hx hb dX9_like_135 (lv_at hl 7 rfl) ?_
                        exact jK_95 (v8q82) σ _ _ _ ⟨rfl, hH, hS, lv_sub hl [0, 1, 2, 3, 4, 5, 6, 7, 8] rfl, rv8q82, by first | omega | (dsimp only; omega), by first | omega | (dsimp only; omega)⟩
                      · replace c_109 := (I_eq (a := z_6) (b := 3) rz_6 (show rng 3 from ⟨by decide, by decide⟩)).mp c_109
                        refine lv_aload_n hx hb dX9_like_121 rfl (lv_at hl 1 rfl) ?_
                        refine lv_iload_n hx hb dX9_like_122 rfl (lv_at hl 2 rfl) ?_
                        refine lv_aload_n hx hb dX9_like_123 rfl (lv_at hl 0 rfl) ?_
                        refine lv_iload hx hb dX9_like_124 (lv_at hl 6 rfl) ?_
                        obtain ⟨_, hc_110⟩ := hO.cell h_a (by decide) (ci := 9) rfl
                        refine th_calli (va_runV (As := [.int (I v7q82)]) (rest := [.int (I j), .ref b]) ⟨hx, hb, hml, hown, hts⟩ (t_keyAt l G y b0 σ a (tvE E σ a 60) v7q82 (hO.isT1 h_a) (show rng v7q82 from rv7q82)) (cwV 1 hts gX9_like_X9_keyAt rfl rfl rfl (by decide +kernel) ⟨(by first | (simp only [headSpec]; omega) | omega | (dsimp only; omega)), (by first | (simp only [headSpec]; omega) | omega | (dsimp only; omega))⟩) (th_PV hK hH rfl hc_110) rfl rfl hl.1 rfl (lv_room (Nat.le_of_ble_eq_true rfl)) dX9_like_126 ⟨(by first | (simp only [headSpec]; omega) | omega | (dsimp only; omega)), (by first | (simp only [headSpec]; omega) | omega | (dsimp only; omega))⟩) hS (fun z_113 σ_s_112 H locs rz_113 hw_111 hH hS => ?_)
                        obtain ⟨e9, hw_111⟩ := hw_111
                        replace e9 := e9.symm
                        subst e9
                        obtain ⟨_, hc_114⟩ := hO.cell h_b (by decide) (ci := 9) rfl
                        refine th_calli (va_runV (As := [.int (I j), .int (I z_113)]) (rest := []) ⟨hx, hb, hml, hown, hts⟩ (t_childBy l G y b0 σ b (tvE E σ b 128) j z_113 (hO.isT2 h_b) (show rng j from rj) (show rng z_113 from rz_113)) (cwV 2 hts gX9_like_X9_childBy rfl rfl rfl (by decide +kernel) ⟨(by first | (simp only [headSpec]; omega) | omega | (dsimp only; omega)), (by first | (simp only [headSpec]; omega) | omega | (dsimp only; omega))⟩) (th_PV hK hH rfl hc_114) rfl rfl hl.1 rfl (lv_room (Nat.le_of_ble_eq_true rfl)) dX9_like_129 ⟨(by first | (simp only [headSpec]; omega) | omega | (dsimp only; omega)), (by first | (simp only [headSpec]; omega) | omega | (dsimp only; omega))⟩) hS (fun z_117 σ_s_116 H locs rz_117 hw_115 hH hS => ?_)
                        obtain ⟨e9, hw_115⟩ := hw_115
                        replace e9 := e9.symm
                        subst e9
                        have hw_115 : z_117 = -1 ∨ (0 ≤ j ∧ j < z_117 ∧ z_117 < (gI σ b 4)) := hw_115
                        refine lv_goto (tgt := 137) hx hb dX9_like_132 (by decide) ?_
                        exact jK_95 (z_117) σ _ _ _ ⟨rfl, hH, hS, lv_sub hl [0, 1, 2, 3, 4, 5, 6, 7, 8] rfl, rz_117, by first | omega | (dsimp only; omega), by first | omega | (dsimp only; omega)⟩
                · replace c_44 := mt (I_eq (a := z_39) (b := z_43) rz_39 rz_43).mpr c_44
                  refine lv_iconst (v := I 0) hx hb dX9_like_93 (by decide) ?_
                  exact th_zret hx hb hr hlocks hH hS (z := 0) (by omega) ⟨rfl, ⟨by omega, by omega⟩, trivial⟩ dX9_like_94
              · replace c_35 := mt (I_eq (a := z_30) (b := z_34) rz_30 rz_34).mpr c_35
                refine lv_iconst (v := I 0) hx hb dX9_like_74 (by decide) ?_
                exact th_zret hx hb hr hlocks hH hS (z := 0) (by omega) ⟨rfl, ⟨by omega, by omega⟩, trivial⟩ dX9_like_75
            · replace c_26 := (I_eq (a := z_6) (b := 1) rz_6 (show rng 1 from ⟨by decide, by decide⟩)).mp c_26
              refine lv_aload_n hx hb dX9_like_42 rfl (lv_at hl 1 rfl) ?_
              refine lv_iload_n hx hb dX9_like_43 rfl (lv_at hl 2 rfl) ?_
              obtain ⟨_, hc_118⟩ := hO.cell h_a (by decide) (ci := 9) rfl
              refine th_calli (va_runV (As := [.int (I i)]) (rest := []) ⟨hx, hb, hml, hown, hts⟩ (t_valueAt l G y b0 σ a (tvE E σ a 60) i (hO.isT1 h_a) (show rng i from ri)) (cwV 1 hts gX9_like_X9_valueAt rfl rfl rfl (by decide +kernel) ⟨(by first | (simp only [headSpec]; omega) | omega | (dsimp only; omega)), (by first | (simp only [headSpec]; omega) | omega | (dsimp only; omega))⟩) (th_PV hK hH rfl hc_118) rfl rfl hl.1 rfl (lv_room (Nat.le_of_ble_eq_true rfl)) dX9_like_44 ⟨(by first | (simp only [headSpec]; omega) | omega | (dsimp only; omega)), (by first | (simp only [headSpec]; omega) | omega | (dsimp only; omega))⟩) hS (fun z_121 σ_s_120 H locs rz_121 hw_119 hH hS => ?_)
              obtain ⟨e9, hw_119⟩ := hw_119
              replace e9 := e9.symm
              subst e9
              refine lv_aload_n hx hb dX9_like_47 rfl (lv_at hl 3 rfl) ?_
              refine lv_iload_n hx hb dX9_like_48 rfl (lv_at hl 4 rfl) ?_
              obtain ⟨_, hc_122⟩ := hO.cell h_b (by decide) (ci := 9) rfl
              refine th_calli (va_runV (As := [.int (I j)]) (rest := [.int (I z_121)]) ⟨hx, hb, hml, hown, hts⟩ (t_valueAt l G y b0 σ b (tvE E σ b 128) j (hO.isT2 h_b) (show rng j from rj)) (cwV 1 hts gX9_like_X9_valueAt rfl rfl rfl (by decide +kernel) ⟨(by first | (simp only [headSpec]; omega) | omega | (dsimp only; omega)), (by first | (simp only [headSpec]; omega) | omega | (dsimp only; omega))⟩) (th_PV hK hH rfl hc_122) rfl rfl hl.1 rfl (lv_room (Nat.le_of_ble_eq_true rfl)) dX9_like_49 ⟨(by first | (simp only [headSpec]; omega) | omega | (dsimp only; omega)), (by first | (simp only [headSpec]; omega) | omega | (dsimp only; omega))⟩) hS (fun z_125 σ_s_124 H locs rz_125 hw_123 hH hS => ?_)
              obtain ⟨e9, hw_123⟩ := hw_123
              replace e9 := e9.symm
              subst e9
              refine lv_icmp_ne (tgt := 59) hx hb dX9_like_52 (by decide) (fun c_126 => ?_) (fun c_126 => ?_)
              · replace c_126 := mt (I_eq (a := z_121) (b := z_125) rz_121 rz_125).mpr c_126
                refine lv_iconst (v := I 0) hx hb dX9_like_59 (by decide) ?_
                exact th_zret hx hb hr hlocks hH hS (z := 0) (by omega) ⟨rfl, ⟨by omega, by omega⟩, trivial⟩ dX9_like_60
              · replace c_126 := (I_eq (a := z_121) (b := z_125) rz_121 rz_125).mp c_126
                refine lv_iconst (v := I 1) hx hb dX9_like_55 (by decide) ?_
                refine lv_goto (tgt := 60) hx hb dX9_like_56 (by decide) ?_
                exact th_zret hx hb hr hlocks hH hS (z := 1) (by omega) ⟨rfl, ⟨by omega, by omega⟩, trivial⟩ dX9_like_60
        · replace c_15 := mt (I_le (a := lv) (b := 16) rlv (show rng 16 from ⟨by decide, by decide⟩)).mpr c_15
          refine lv_iconst (v := I 0) hx hb dX9_like_29 (by decide) ?_
          exact th_zret hx hb hr hlocks hH hS (z := 0) (by omega) ⟨rfl, ⟨by omega, by omega⟩, trivial⟩ dX9_like_30

set_option maxHeartbeats 1000000 in
set_option maxRecDepth 100000 in
theorem t1_twins (l : Launch) (G : va_G) (y : Nat → ClassId) (b0 : Nat) (σ : th_M) (E : th_E) (hO : ok y E σ) (a : Nat) (h_a : kd E a = 1) (i : Int) (ri : rng i) : Met l yX9_twinsOf wsX9_twinsOf ({ frames := 61, cells := 0, slots := 0, locals := 1314 }) (th_P G y b0 σ [.ref a, .int (I i)]) (th_Qi G b0 (fun r σ1 => σ1 = σ ∧ (True))) 0 0 (th_A b0) := by
  refine Met.ofW (cc := cX9_twinsOf) (maxL := 4) (ret := (some .int)) (by decide) rfl ?_
  intro p e s m args below meth c s₁ B hml hv
  obtain ⟨rfl, hH, hK⟩ := hv
  have hx := B.exec
  have hb := B.bytes
  have hr := B.returns
  have hts := atoms_spec (ws := wsX9_twinsOf) B.pre
  have hown : s.vm.findClass RX9 = some m.cls := findClass_of_methodNamed B.named
  have hlocks := B.notSynchronized
  have h00 : b0 ≤ s.heap.size := hH.1
  have hS : va_S (th_A b0) s.heap s.heap [] := va_S.rf
  have inX9 : ∀ w ∈ wsX90, w ∈ wsX9_twinsOf := by decide +kernel
  have fl0 := hts (.fieldLink RX9 24 "NestQuery$Tree" "size" "I") (by decide +kernel)
  have hl := lv_entry ([.ref a, .int (I i)]) (n := 4) (Nat.le_of_ble_eq_true rfl)
  rw [lg_entry_eq]
  generalize (lg_sl ([.ref a, .int (I i)]) ++ List.replicate (4 - (lg_sl ([.ref a, .int (I i)])).length) Slot.unset).toArray = ls at hl ⊢
  have hl : lv_has ls 4 [(0, .ref a), (1, .int (I i))] := hl
  refine lv_iconst (v := I 0) hx hb dX9_twinsOf_0 (by decide) ?_
  refine lv_istore_n (lv' := [(2, .int (I 0)), (0, .ref a), (1, .int (I i))]) hx hb dX9_twinsOf_1 rfl hl (by decide) rfl (fun ls hl => ?_)
  refine lv_iconst (v := I 0) hx hb dX9_twinsOf_2 (by decide) ?_
  refine lv_istore_n (lv' := [(3, .int (I 0)), (2, .int (I 0)), (0, .ref a), (1, .int (I i))]) hx hb dX9_twinsOf_3 rfl hl (by decide) rfl (fun ls hl => ?_)
  refine th_loop (α := Int × Int) (pc := 4) (fun x9 => (60 - x9.2).toNat) (fun x9 σ9 H9 l9 ls9 => σ9 = σ ∧ th_H G b0 σ9 H9 ∧ va_S (th_A b0) s.heap H9 l9 ∧ lv_has ls9 4 [(0, .ref a), (1, .int (I i)), (2, .int (I x9.1)), (3, .int (I x9.2))] ∧ rng x9.1 ∧ rng x9.2 ∧ (0 ≤ x9.2) ∧ (0 ≤ x9.1) ∧ (x9.1 ≤ x9.2)) ?_ (0, 0) σ _ _ _ ⟨rfl, hH, hS, lv_sub hl [2, 3, 1, 0] rfl, (show rng 0 from ⟨by decide, by decide⟩), (show rng 0 from ⟨by decide, by decide⟩), by first | omega | (dsimp only; omega), by first | omega | (dsimp only; omega), by first | omega | (dsimp only; omega)⟩
  intro x9 σ_J_12 H locs ls hI9 ihJ_12
  obtain ⟨v2q11, v3q11⟩ := x9
  obtain ⟨eJ_12, hH, hS, hl, rv2q11, rv3q11, J_12_0, J_12_1, J_12_2⟩ := hI9
  replace eJ_12 := eJ_12.symm
  subst eJ_12
  have hl : lv_has ls 4 [(0, .ref a), (1, .int (I i)), (2, .int (I v2q11)), (3, .int (I v3q11))] := hl
  have rv2q11 : rng v2q11 := rv2q11
  have rv3q11 : rng v3q11 := rv3q11
  have J_12_0 : 0 ≤ v3q11 := J_12_0
  have J_12_1 : 0 ≤ v2q11 := J_12_1
  have J_12_2 : v2q11 ≤ v3q11 := J_12_2
  refine lv_iload_n hx hb dX9_twinsOf_4 rfl (lv_at hl 3 rfl) ?_
  refine lv_aload_n hx hb dX9_twinsOf_5 rfl (lv_at hl 0 rfl) ?_
  refine ok.getI hO h_a (by decide) k1_4 (fun _ _ he hv kk => th_get (ci := 9) (C := RX9) (T := TX9) (N := 5) hx hb hts inX9 hown hK hH he rfl 4 (by decide) fl0 hv dX9_twinsOf_6 kk) (fun z_13 e_14 rz_13 lz_13 uz_13 => ?_)
  refine lv_icmp_ge (tgt := 37) hx hb dX9_twinsOf_9 (by decide) (fun c_15 => ?_) (fun c_15 => ?_)
  · replace c_15 := (I_le (a := z_13) (b := v3q11) rz_13 rv3q11).mp c_15
    refine lv_iload_n hx hb dX9_twinsOf_37 rfl (lv_at hl 2 rfl) ?_
    exact th_iret hx hb hr hlocks hH hS (z := v2q11) rv2q11 ⟨rfl, trivial⟩ dX9_twinsOf_38
  · replace c_15 := mt (I_le (a := z_13) (b := v3q11) rz_13 rv3q11).mpr c_15
    refine lv_iload_n hx hb dX9_twinsOf_12 rfl (lv_at hl 3 rfl) ?_
    refine lv_iload_n hx hb dX9_twinsOf_13 rfl (lv_at hl 1 rfl) ?_
    refine lv_icmp_eq (tgt := 31) hx hb dX9_twinsOf_14 (by decide) (fun c_16 => ?_) (fun c_16 => ?_)
    · replace c_16 := (I_eq (a := v3q11) (b := i) rv3q11 ri).mp c_16
      refine lv_iinc (v := I (v3q11 + 1)) (lv' := [(3, .int (I (v3q11 + 1))), (0, .ref a), (1, .int (I i)), (2, .int (I v2q11))]) hx hb dX9_twinsOf_31 hl (k := 3) rfl (I_add _ _) (by decide) rfl (fun ls hl => ?_)
      refine lv_goto (tgt := 4) hx hb dX9_twinsOf_34 (by decide) ?_
      exact ihJ_12 (v2q11, v3q11 + 1) σ _ _ _ (by first | omega | (dsimp only; omega)) ⟨rfl, hH, hS, lv_sub hl [1, 2, 3, 0] rfl, rv2q11, ⟨by first | omega | (dsimp only; omega), by first | omega | (dsimp only; omega)⟩, by first | omega | (dsimp only; omega), by first | omega | (dsimp only; omega), by first | omega | (dsimp only; omega)⟩
    · replace c_16 := mt (I_eq (a := v3q11) (b := i) rv3q11 ri).mpr c_16
      refine lv_aload_n hx hb dX9_twinsOf_17 rfl (lv_at hl 0 rfl) ?_
      refine lv_iload_n hx hb dX9_twinsOf_18 rfl (lv_at hl 1 rfl) ?_
      refine lv_aload_n hx hb dX9_twinsOf_19 rfl (lv_at hl 0 rfl) ?_
      refine lv_iload_n hx hb dX9_twinsOf_20 rfl (lv_at hl 3 rfl) ?_
      refine lv_iconst (v := I 0) hx hb dX9_twinsOf_21 (by decide) ?_
      obtain ⟨_, hc_17⟩ := hO.cell h_a (by decide) (ci := 9) rfl
      refine th_calli (va_runV (As := [.int (I i), .ref a, .int (I v3q11), .int (I 0)]) (rest := []) ⟨hx, hb, hml, hown, hts⟩ (t11_like 18 l G y b0 σ E hO a h_a i (show rng i from ri) a h_a v3q11 (show rng v3q11 from rv3q11) 0 (show rng 0 from (show rng 0 from ⟨by decide, by decide⟩)) (by omega) (by omega) (by omega)) (cwV 4 hts gX9_twinsOf_X9_like rfl rfl rfl (by decide +kernel) ⟨Nat.le_of_ble_eq_true rfl, Nat.le_of_ble_eq_true rfl⟩) (th_PV hK hH rfl hc_17) rfl rfl hl.1 rfl (lv_room (Nat.le_of_ble_eq_true rfl)) dX9_twinsOf_22 ⟨Nat.le_of_ble_eq_true rfl, Nat.le_of_ble_eq_true rfl⟩) hS (fun z_20 σ_s_19 H locs rz_20 hw_18 hH hS => ?_)
      obtain ⟨e9, bhw_18, hw_18⟩ := hw_18
      replace e9 := e9.symm
      subst e9
      refine lv_if_eq (tgt := 31) hx hb dX9_twinsOf_25 (by decide) (fun c_21 => ?_) (fun c_21 => ?_)
      · replace c_21 := (I_eq (a := z_20) (b := 0) rz_20 (show rng 0 from ⟨by decide, by decide⟩)).mp c_21
        refine lv_iinc (v := I (v3q11 + 1)) (lv' := [(3, .int (I (v3q11 + 1))), (0, .ref a), (1, .int (I i)), (2, .int (I v2q11))]) hx hb dX9_twinsOf_31 hl (k := 3) rfl (I_add _ _) (by decide) rfl (fun ls hl => ?_)
        refine lv_goto (tgt := 4) hx hb dX9_twinsOf_34 (by decide) ?_
        exact ihJ_12 (v2q11, v3q11 + 1) σ _ _ _ (by first | omega | (dsimp only; omega)) ⟨rfl, hH, hS, lv_sub hl [1, 2, 3, 0] rfl, rv2q11, ⟨by first | omega | (dsimp only; omega), by first | omega | (dsimp only; omega)⟩, by first | omega | (dsimp only; omega), by first | omega | (dsimp only; omega), by first | omega | (dsimp only; omega)⟩
      · replace c_21 := mt (I_eq (a := z_20) (b := 0) rz_20 (show rng 0 from ⟨by decide, by decide⟩)).mpr c_21
        refine lv_iinc (v := I (v2q11 + 1)) (lv' := [(2, .int (I (v2q11 + 1))), (0, .ref a), (1, .int (I i)), (3, .int (I v3q11))]) hx hb dX9_twinsOf_28 hl (k := 2) rfl (I_add _ _) (by decide) rfl (fun ls hl => ?_)
        refine lv_iinc (v := I (v3q11 + 1)) (lv' := [(3, .int (I (v3q11 + 1))), (2, .int (I (v2q11 + 1))), (0, .ref a), (1, .int (I i))]) hx hb dX9_twinsOf_31 hl (k := 3) rfl (I_add _ _) (by decide) rfl (fun ls hl => ?_)
        refine lv_goto (tgt := 4) hx hb dX9_twinsOf_34 (by decide) ?_
        exact ihJ_12 (v2q11 + 1, v3q11 + 1) σ _ _ _ (by first | omega | (dsimp only; omega)) ⟨rfl, hH, hS, lv_sub hl [2, 3, 1, 0] rfl, ⟨by first | omega | (dsimp only; omega), by first | omega | (dsimp only; omega)⟩, ⟨by first | omega | (dsimp only; omega), by first | omega | (dsimp only; omega)⟩, by first | omega | (dsimp only; omega), by first | omega | (dsimp only; omega), by first | omega | (dsimp only; omega)⟩

set_option maxHeartbeats 1000000 in
set_option maxRecDepth 100000 in
theorem t1_unlike (l : Launch) (G : va_G) (y : Nat → ClassId) (b0 : Nat) (σ : th_M) (E : th_E) (hO : ok y E σ) (a : Nat) (h_a : kd E a = 1) : Met l yX9_unlike wsX9_unlike ({ frames := 61, cells := 0, slots := 0, locals := 1314 }) (th_P G y b0 σ [.ref a]) (th_Qi G b0 (fun r σ1 => σ1 = σ ∧ (True))) 0 0 (th_A b0) := by
  refine Met.ofW (cc := cX9_unlike) (maxL := 5) (ret := (some .int)) (by decide) rfl ?_
  intro p e s m args below meth c s₁ B hml hv
  obtain ⟨rfl, hH, hK⟩ := hv
  have hx := B.exec
  have hb := B.bytes
  have hr := B.returns
  have hts := atoms_spec (ws := wsX9_unlike) B.pre
  have hown : s.vm.findClass RX9 = some m.cls := findClass_of_methodNamed B.named
  have hlocks := B.notSynchronized
  have h00 : b0 ≤ s.heap.size := hH.1
  have hS : va_S (th_A b0) s.heap s.heap [] := va_S.rf
  have inX9 : ∀ w ∈ wsX90, w ∈ wsX9_unlike := by decide +kernel
  have fl0 := hts (.fieldLink RX9 24 "NestQuery$Tree" "size" "I") (by decide +kernel)
  have hl := lv_entry ([.ref a]) (n := 5) (Nat.le_of_ble_eq_true rfl)
  rw [lg_entry_eq]
  generalize (lg_sl ([.ref a]) ++ List.replicate (5 - (lg_sl ([.ref a])).length) Slot.unset).toArray = ls at hl ⊢
  have hl : lv_has ls 5 [(0, .ref a)] := hl
  refine lv_iconst (v := I 0) hx hb dX9_unlike_0 (by decide) ?_
  refine lv_istore_n (lv' := [(1, .int (I 0)), (0, .ref a)]) hx hb dX9_unlike_1 rfl hl (by decide) rfl (fun ls hl => ?_)
  refine lv_iconst (v := I 0) hx hb dX9_unlike_2 (by decide) ?_
  refine lv_istore_n (lv' := [(2, .int (I 0)), (1, .int (I 0)), (0, .ref a)]) hx hb dX9_unlike_3 rfl hl (by decide) rfl (fun ls hl => ?_)
  refine th_loop (α := Int × Int) (pc := 4) (fun x9 => (60 - x9.2).toNat) (fun x9 σ9 H9 l9 ls9 => σ9 = σ ∧ th_H G b0 σ9 H9 ∧ va_S (th_A b0) s.heap H9 l9 ∧ lv_has ls9 5 [(0, .ref a), (1, .int (I x9.1)), (2, .int (I x9.2))] ∧ rng x9.1 ∧ rng x9.2 ∧ (0 ≤ x9.2) ∧ (0 ≤ x9.1) ∧ (x9.1 ≤ x9.2)) ?_ (0, 0) σ _ _ _ ⟨rfl, hH, hS, lv_sub hl [2, 1, 0] rfl, (show rng 0 from ⟨by decide, by decide⟩), (show rng 0 from ⟨by decide, by decide⟩), by first | omega | (dsimp only; omega), by first | omega | (dsimp only; omega), by first | omega | (dsimp only; omega)⟩
  intro x9 σ_J_25 H locs ls hI9 ihJ_25
  obtain ⟨v1q24, v2q24⟩ := x9
  obtain ⟨eJ_25, hH, hS, hl, rv1q24, rv2q24, J_25_0, J_25_1, J_25_2⟩ := hI9
  replace eJ_25 := eJ_25.symm
  subst eJ_25
  have hl : lv_has ls 5 [(0, .ref a), (1, .int (I v1q24)), (2, .int (I v2q24))] := hl
  have rv1q24 : rng v1q24 := rv1q24
  have rv2q24 : rng v2q24 := rv2q24
  have J_25_0 : 0 ≤ v2q24 := J_25_0
  have J_25_1 : 0 ≤ v1q24 := J_25_1
  have J_25_2 : v1q24 ≤ v2q24 := J_25_2
  refine lv_iload_n hx hb dX9_unlike_4 rfl (lv_at hl 2 rfl) ?_
  refine lv_aload_n hx hb dX9_unlike_5 rfl (lv_at hl 0 rfl) ?_
  refine ok.getI hO h_a (by decide) k1_4 (fun _ _ he hv kk => th_get (ci := 9) (C := RX9) (T := TX9) (N := 5) hx hb hts inX9 hown hK hH he rfl 4 (by decide) fl0 hv dX9_unlike_6 kk) (fun z_26 e_27 rz_26 lz_26 uz_26 => ?_)
  refine lv_icmp_ge (tgt := 64) hx hb dX9_unlike_9 (by decide) (fun c_28 => ?_) (fun c_28 => ?_)
  · replace c_28 := (I_le (a := z_26) (b := v2q24) rz_26 rv2q24).mp c_28
    refine lv_iload_n hx hb dX9_unlike_64 rfl (lv_at hl 1 rfl) ?_
    exact th_iret hx hb hr hlocks hH hS (z := v1q24) rv1q24 ⟨rfl, trivial⟩ dX9_unlike_65
  · replace c_28 := mt (I_le (a := z_26) (b := v2q24) rz_26 rv2q24).mpr c_28
    refine lv_iconst (v := I 1) hx hb dX9_unlike_12 (by decide) ?_
    refine lv_istore_n (lv' := [(3, .int (I 1)), (0, .ref a), (1, .int (I v1q24)), (2, .int (I v2q24))]) hx hb dX9_unlike_13 rfl hl (by decide) rfl (fun ls hl => ?_)
    refine lv_iconst (v := I 0) hx hb dX9_unlike_14 (by decide) ?_
    refine lv_istore (lv' := [(4, .int (I 0)), (3, .int (I 1)), (0, .ref a), (1, .int (I v1q24)), (2, .int (I v2q24))]) hx hb dX9_unlike_15 hl (by decide) rfl (fun ls hl => ?_)
    refine th_loop (α := Int × Int) (pc := 17) (fun x9 => (60 - x9.2).toNat) (fun x9 σ9 H9 l9 ls9 => σ9 = σ ∧ th_H G b0 σ9 H9 ∧ va_S (th_A b0) s.heap H9 l9 ∧ lv_has ls9 5 [(0, .ref a), (1, .int (I v1q24)), (2, .int (I v2q24)), (3, .int (I x9.1)), (4, .int (I x9.2))] ∧ rng x9.1 ∧ rng x9.2 ∧ (0 ≤ x9.2) ∧ (x9.2 ≤ v2q24) ∧ (0 ≤ x9.1) ∧ (x9.1 ≤ 1)) ?_ (1, 0) σ _ _ _ ⟨rfl, hH, hS, lv_sub hl [2, 3, 4, 1, 0] rfl, (show rng 1 from ⟨by decide, by decide⟩), (show rng 0 from ⟨by decide, by decide⟩), by first | omega | (dsimp only; omega), by first | omega | (dsimp only; omega), by first | omega | (dsimp only; omega), by first | omega | (dsimp only; omega)⟩
    intro x9 σ_J_30 H locs ls hI9 ihJ_30
    obtain ⟨v3q29, v4q29⟩ := x9
    obtain ⟨eJ_30, hH, hS, hl, rv3q29, rv4q29, J_30_0, J_30_1, J_30_2, J_30_3⟩ := hI9
    replace eJ_30 := eJ_30.symm
    subst eJ_30
    have hl : lv_has ls 5 [(0, .ref a), (1, .int (I v1q24)), (2, .int (I v2q24)), (3, .int (I v3q29)), (4, .int (I v4q29))] := hl
    have rv3q29 : rng v3q29 := rv3q29
    have rv4q29 : rng v4q29 := rv4q29
    have J_30_0 : 0 ≤ v4q29 := J_30_0
    have J_30_1 : v4q29 ≤ v2q24 := J_30_1
    have J_30_2 : 0 ≤ v3q29 := J_30_2
    have J_30_3 : v3q29 ≤ 1 := J_30_3
    refine lv_iload hx hb dX9_unlike_17 (lv_at hl 4 rfl) ?_
    refine lv_iload_n hx hb dX9_unlike_19 rfl (lv_at hl 2 rfl) ?_
    refine lv_icmp_ge (tgt := 51) hx hb dX9_unlike_20 (by decide) (fun c_31 => ?_) (fun c_31 => ?_)
    · replace c_31 := (I_le (a := v2q24) (b := v4q29) rv2q24 rv4q29).mp c_31
      refine lv_iload_n hx hb dX9_unlike_51 rfl (lv_at hl 3 rfl) ?_
      refine lv_if_eq (tgt := 58) hx hb dX9_unlike_52 (by decide) (fun c_32 => ?_) (fun c_32 => ?_)
      · replace c_32 := (I_eq (a := v3q29) (b := 0) rv3q29 (show rng 0 from ⟨by decide, by decide⟩)).mp c_32
        refine lv_iinc (v := I (v2q24 + 1)) (lv' := [(2, .int (I (v2q24 + 1))), (0, .ref a), (1, .int (I v1q24)), (3, .int (I v3q29)), (4, .int (I v4q29))]) hx hb dX9_unlike_58 hl (k := 2) rfl (I_add _ _) (by decide) rfl (fun ls hl => ?_)
        refine lv_goto (tgt := 4) hx hb dX9_unlike_61 (by decide) ?_
        replace hl : lv_has ls 5 [(2, .int (I (v2q24 + 1))), (0, .ref a), (1, .int (I v1q24))] := lv_sub hl [0, 1, 2] rfl
        exact ihJ_25 (v1q24, v2q24 + 1) σ _ _ _ (by first | omega | (dsimp only; omega)) ⟨rfl, hH, hS, lv_sub hl [1, 2, 0] rfl, rv1q24, ⟨by first | omega | (dsimp only; omega), by first | omega | (dsimp only; omega)⟩, by first | omega | (dsimp only; omega), by first | omega | (dsimp only; omega), by first | omega | (dsimp only; omega)⟩
      · replace c_32 := mt (I_eq (a := v3q29) (b := 0) rv3q29 (show rng 0 from ⟨by decide, by decide⟩)).mpr c_32
        refine lv_iinc (v := I (v1q24 + 1)) (lv' := [(1, .int (I (v1q24 + 1))), (0, .ref a), (2, .int (I v2q24)), (3, .int (I v3q29)), (4, .int (I v4q29))]) hx hb dX9_unlike_55 hl (k := 1) rfl (I_add _ _) (by decide) rfl (fun ls hl => ?_)
        refine lv_iinc (v := I (v2q24 + 1)) (lv' := [(2, .int (I (v2q24 + 1))), (1, .int (I (v1q24 + 1))), (0, .ref a), (3, .int (I v3q29)), (4, .int (I v4q29))]) hx hb dX9_unlike_58 hl (k := 2) rfl (I_add _ _) (by decide) rfl (fun ls hl => ?_)
        refine lv_goto (tgt := 4) hx hb dX9_unlike_61 (by decide) ?_
        replace hl : lv_has ls 5 [(2, .int (I (v2q24 + 1))), (1, .int (I (v1q24 + 1))), (0, .ref a)] := lv_sub hl [0, 1, 2] rfl
        exact ihJ_25 (v1q24 + 1, v2q24 + 1) σ _ _ _ (by first | omega | (dsimp only; omega)) ⟨rfl, hH, hS, lv_sub hl [2, 1, 0] rfl, ⟨by first | omega | (dsimp only; omega), by first | omega | (dsimp only; omega)⟩, ⟨by first | omega | (dsimp only; omega), by first | omega | (dsimp only; omega)⟩, by first | omega | (dsimp only; omega), by first | omega | (dsimp only; omega), by first | omega | (dsimp only; omega)⟩
    · replace c_31 := mt (I_le (a := v2q24) (b := v4q29) rv2q24 rv4q29).mpr c_31
      refine lv_iload_n hx hb dX9_unlike_23 rfl (lv_at hl 3 rfl) ?_
      refine lv_if_eq (tgt := 51) hx hb dX9_unlike_24 (by decide) (fun c_33 => ?_) (fun c_33 => ?_)
      · replace c_33 := (I_eq (a := v3q29) (b := 0) rv3q29 (show rng 0 from ⟨by decide, by decide⟩)).mp c_33
        refine lv_iload_n hx hb dX9_unlike_51 rfl (lv_at hl 3 rfl) ?_
        refine lv_if_eq (tgt := 58) hx hb dX9_unlike_52 (by decide) (fun c_34 => ?_) (fun c_34 => ?_)
        · replace c_34 := (I_eq (a := v3q29) (b := 0) rv3q29 (show rng 0 from ⟨by decide, by decide⟩)).mp c_34
          refine lv_iinc (v := I (v2q24 + 1)) (lv' := [(2, .int (I (v2q24 + 1))), (0, .ref a), (1, .int (I v1q24)), (3, .int (I v3q29)), (4, .int (I v4q29))]) hx hb dX9_unlike_58 hl (k := 2) rfl (I_add _ _) (by decide) rfl (fun ls hl => ?_)
          refine lv_goto (tgt := 4) hx hb dX9_unlike_61 (by decide) ?_
          replace hl : lv_has ls 5 [(2, .int (I (v2q24 + 1))), (0, .ref a), (1, .int (I v1q24))] := lv_sub hl [0, 1, 2] rfl
          exact ihJ_25 (v1q24, v2q24 + 1) σ _ _ _ (by first | omega | (dsimp only; omega)) ⟨rfl, hH, hS, lv_sub hl [1, 2, 0] rfl, rv1q24, ⟨by first | omega | (dsimp only; omega), by first | omega | (dsimp only; omega)⟩, by first | omega | (dsimp only; omega), by first | omega | (dsimp only; omega), by first | omega | (dsimp only; omega)⟩
        · replace c_34 := mt (I_eq (a := v3q29) (b := 0) rv3q29 (show rng 0 from ⟨by decide, by decide⟩)).mpr c_34
          refine lv_iinc (v := I (v1q24 + 1)) (lv' := [(1, .int (I (v1q24 + 1))), (0, .ref a), (2, .int (I v2q24)), (3, .int (I v3q29)), (4, .int (I v4q29))]) hx hb dX9_unlike_55 hl (k := 1) rfl (I_add _ _) (by decide) rfl (fun ls hl => ?_)
          refine lv_iinc (v := I (v2q24 + 1)) (lv' := [(2, .int (I (v2q24 + 1))), (1, .int (I (v1q24 + 1))), (0, .ref a), (3, .int (I v3q29)), (4, .int (I v4q29))]) hx hb dX9_unlike_58 hl (k := 2) rfl (I_add _ _) (by decide) rfl (fun ls hl => ?_)
          refine lv_goto (tgt := 4) hx hb dX9_unlike_61 (by decide) ?_
          replace hl : lv_has ls 5 [(2, .int (I (v2q24 + 1))), (1, .int (I (v1q24 + 1))), (0, .ref a)] := lv_sub hl [0, 1, 2] rfl
          exact ihJ_25 (v1q24 + 1, v2q24 + 1) σ _ _ _ (by first | omega | (dsimp only; omega)) ⟨rfl, hH, hS, lv_sub hl [2, 1, 0] rfl, ⟨by first | omega | (dsimp only; omega), by first | omega | (dsimp only; omega)⟩, ⟨by first | omega | (dsimp only; omega), by first | omega | (dsimp only; omega)⟩, by first | omega | (dsimp only; omega), by first | omega | (dsimp only; omega), by first | omega | (dsimp only; omega)⟩
      · replace c_33 := mt (I_eq (a := v3q29) (b := 0) rv3q29 (show rng 0 from ⟨by decide, by decide⟩)).mpr c_33
        refine lv_aload_n hx hb dX9_unlike_27 rfl (lv_at hl 0 rfl) ?_
        refine lv_iload hx hb dX9_unlike_28 (lv_at hl 4 rfl) ?_
        refine lv_aload_n hx hb dX9_unlike_30 rfl (lv_at hl 0 rfl) ?_
        refine lv_iload_n hx hb dX9_unlike_31 rfl (lv_at hl 2 rfl) ?_
        refine lv_iconst (v := I 0) hx hb dX9_unlike_32 (by decide) ?_
        obtain ⟨_, hc_35⟩ := hO.cell h_a (by decide) (ci := 9) rfl
        refine th_calli (va_runV (As := [.int (I v4q29), .ref a, .int (I v2q24), .int (I 0)]) (rest := []) ⟨hx, hb, hml, hown, hts⟩ (t11_like 18 l G y b0 σ E hO a h_a v4q29 (show rng v4q29 from rv4q29) a h_a v2q24 (show rng v2q24 from rv2q24) 0 (show rng 0 from (show rng 0 from ⟨by decide, by decide⟩)) (by omega) (by omega) (by omega)) (cwV 4 hts gX9_unlike_X9_like rfl rfl rfl (by decide +kernel) ⟨Nat.le_of_ble_eq_true rfl, Nat.le_of_ble_eq_true rfl⟩) (th_PV hK hH rfl hc_35) rfl rfl hl.1 rfl (lv_room (Nat.le_of_ble_eq_true rfl)) dX9_unlike_33 ⟨Nat.le_of_ble_eq_true rfl, Nat.le_of_ble_eq_true rfl⟩) hS (fun z_38 σ_s_37 H locs rz_38 hw_36 hH hS => ?_)
        obtain ⟨e9, bhw_36, hw_36⟩ := hw_36
        replace e9 := e9.symm
        subst e9
        refine lv_if_ne (tgt := 43) hx hb dX9_unlike_36 (by decide) (fun c_39 => ?_) (fun c_39 => ?_)
        · replace c_39 := mt (I_eq (a := z_38) (b := 0) rz_38 (show rng 0 from ⟨by decide, by decide⟩)).mpr c_39
          refine lv_iconst (v := I 0) hx hb dX9_unlike_43 (by decide) ?_
          refine lv_istore_n (lv' := [(3, .int (I 0)), (0, .ref a), (1, .int (I v1q24)), (2, .int (I v2q24)), (4, .int (I v4q29))]) hx hb dX9_unlike_44 rfl hl (by decide) rfl (fun ls hl => ?_)
          refine lv_iinc (v := I (v4q29 + 1)) (lv' := [(4, .int (I (v4q29 + 1))), (3, .int (I 0)), (0, .ref a), (1, .int (I v1q24)), (2, .int (I v2q24))]) hx hb dX9_unlike_45 hl (k := 4) rfl (I_add _ _) (by decide) rfl (fun ls hl => ?_)
          refine lv_goto (tgt := 17) hx hb dX9_unlike_48 (by decide) ?_
          exact ihJ_30 (0, v4q29 + 1) σ _ _ _ (by first | omega | (dsimp only; omega)) ⟨rfl, hH, hS, lv_sub hl [2, 3, 4, 1, 0] rfl, (show rng 0 from ⟨by decide, by decide⟩), ⟨by first | omega | (dsimp only; omega), by first | omega | (dsimp only; omega)⟩, by first | omega | (dsimp only; omega), by first | omega | (dsimp only; omega), by first | omega | (dsimp only; omega), by first | omega | (dsimp only; omega)⟩
        · replace c_39 := (I_eq (a := z_38) (b := 0) rz_38 (show rng 0 from ⟨by decide, by decide⟩)).mp c_39
          refine lv_iconst (v := I 1) hx hb dX9_unlike_39 (by decide) ?_
          refine lv_goto (tgt := 44) hx hb dX9_unlike_40 (by decide) ?_
          refine lv_istore_n (lv' := [(3, .int (I 1)), (0, .ref a), (1, .int (I v1q24)), (2, .int (I v2q24)), (4, .int (I v4q29))]) hx hb dX9_unlike_44 rfl hl (by decide) rfl (fun ls hl => ?_)
          refine lv_iinc (v := I (v4q29 + 1)) (lv' := [(4, .int (I (v4q29 + 1))), (3, .int (I 1)), (0, .ref a), (1, .int (I v1q24)), (2, .int (I v2q24))]) hx hb dX9_unlike_45 hl (k := 4) rfl (I_add _ _) (by decide) rfl (fun ls hl => ?_)
          refine lv_goto (tgt := 17) hx hb dX9_unlike_48 (by decide) ?_
          exact ihJ_30 (1, v4q29 + 1) σ _ _ _ (by first | omega | (dsimp only; omega)) ⟨rfl, hH, hS, lv_sub hl [2, 3, 4, 1, 0] rfl, (show rng 1 from ⟨by decide, by decide⟩), ⟨by first | omega | (dsimp only; omega), by first | omega | (dsimp only; omega)⟩, by first | omega | (dsimp only; omega), by first | omega | (dsimp only; omega), by first | omega | (dsimp only; omega), by first | omega | (dsimp only; omega)⟩

set_option maxHeartbeats 1000000 in
set_option maxRecDepth 100000 in
theorem t11_become (l : Launch) (G : va_G) (y : Nat → ClassId) (b0 : Nat) (σ : th_M) (E : th_E) (hO : ok y E σ) (a : Nat) (h_a : kd E a = 1) (b : Nat) (h_b : kd E b = 1) : Met l yX9_become wsX9_become ({ frames := 1, cells := 0, slots := 0, locals := 60 }) (th_P G y b0 σ [.ref a, .ref b]) (th_Qv G b0 (fun σ1 => ok y E σ1 ∧ fr [1] E σ σ1 ∧ (True))) 0 0 (th_A b0) := by
  refine Met.ofW (cc := cX9_become) (maxL := 3) (ret := none) (by decide) rfl ?_
  intro p e s m args below meth c s₁ B hml hv
  obtain ⟨rfl, hH, hK⟩ := hv
  have hx := B.exec
  have hb := B.bytes
  have hr := B.returns
  have hts := atoms_spec (ws := wsX9_become) B.pre
  have hown : s.vm.findClass RX9 = some m.cls := findClass_of_methodNamed B.named
  have hlocks := B.notSynchronized
  have h00 : b0 ≤ s.heap.size := hH.1
  have hS : va_S (th_A b0) s.heap s.heap [] := va_S.rf
  have hF : fr [1] E σ σ := fr.rf
  have inX9 : ∀ w ∈ wsX90, w ∈ wsX9_become := by decide +kernel
  have fl0 := hts (.fieldLink RX9 24 "NestQuery$Tree" "size" "I") (by decide +kernel)
  have fl1 := hts (.fieldLink RX9 9 "NestQuery$Tree" "kinds" "[I") (by decide +kernel)
  have fl2 := hts (.methodLink RX9 60 arraycopyName) (by decide +kernel)
  have fl3 := hts (.native arraycopyName) (by decide +kernel)
  have fl4 := hts (.static arraycopyName) (by decide +kernel)
  have fl5 := hts (.initialized "java/lang/System") (by decide +kernel)
  have fl6 := hts (.fieldLink RX9 15 "NestQuery$Tree" "values" "[I") (by decide +kernel)
  have fl7 := hts (.fieldLink RX9 18 "NestQuery$Tree" "keys" "[I") (by decide +kernel)
  have fl8 := hts (.fieldLink RX9 21 "NestQuery$Tree" "depths" "[I") (by decide +kernel)
  have hl := lv_entry ([.ref a, .ref b]) (n := 3) (Nat.le_of_ble_eq_true rfl)
  rw [lg_entry_eq]
  generalize (lg_sl ([.ref a, .ref b]) ++ List.replicate (3 - (lg_sl ([.ref a, .ref b])).length) Slot.unset).toArray = ls at hl ⊢
  have hl : lv_has ls 3 [(0, .ref a), (1, .ref b)] := hl
  refine lv_aload_n hx hb dX9_become_0 rfl (lv_at hl 1 rfl) ?_
  refine ok.getI hO h_b (by decide) k1_4 (fun _ _ he hv kk => th_get (ci := 9) (C := RX9) (T := TX9) (N := 5) hx hb hts inX9 hown hK hH he rfl 4 (by decide) fl0 hv dX9_become_1 kk) (fun z_1 e_2 rz_1 lz_1 uz_1 => ?_)
  refine lv_istore_n (lv' := [(2, .int (I z_1)), (0, .ref a), (1, .ref b)]) hx hb dX9_become_4 rfl hl (by decide) rfl (fun ls hl => ?_)
  refine lv_iload_n hx hb dX9_become_5 rfl (lv_at hl 0 rfl) ?_
  refine lv_if_lt (tgt := 88) hx hb dX9_become_6 (by decide) (fun c_3 => ?_) (fun c_3 => ?_)
  · replace c_3 := (I_lt (a := z_1) (b := 0) rz_1 (show rng 0 from ⟨by decide, by decide⟩)).mp c_3
    exact th_vret hx hb hr hlocks hH hS ⟨hO, hF, trivial⟩ dX9_become_88
  · replace c_3 := mt (I_lt (a := z_1) (b := 0) rz_1 (show rng 0 from ⟨by decide, by decide⟩)).mpr c_3
    refine lv_iload_n hx hb dX9_become_9 rfl (lv_at hl 0 rfl) ?_
    refine lv_aload_n hx hb dX9_become_10 rfl (lv_at hl 1 rfl) ?_
    refine ok.getR hO h_a (by decide) k1_0 (by decide) (fun _ _ he hv kk => th_get (ci := 9) (C := RX9) (T := TX9) (N := 5) hx hb hts inX9 hown hK hH he rfl 0 (by decide) fl1 hv dX9_become_11 kk) ?_
    refine ok_alen hx hb hK hH hO h_a (by decide) k1_0 isA1 (by decide) dX9_become_14 ?_
    refine lv_icmp_gt (tgt := 88) hx hb dX9_become_15 (by decide) (fun c_4 => ?_) (fun c_4 => ?_)
    · replace c_4 := (I_lt (a := 60) (b := z_1) (show rng 60 from ⟨by decide, by decide⟩) rz_1).mp c_4
      exact th_vret hx hb hr hlocks hH hS ⟨hO, hF, trivial⟩ dX9_become_88
    · replace c_4 := mt (I_lt (a := 60) (b := z_1) (show rng 60 from ⟨by decide, by decide⟩) rz_1).mpr c_4
      refine lv_iload_n hx hb dX9_become_18 rfl (lv_at hl 0 rfl) ?_
      refine lv_aload_n hx hb dX9_become_19 rfl (lv_at hl 2 rfl) ?_
      refine ok.getR hO h_b (by decide) k1_0 (by decide) (fun _ _ he hv kk => th_get (ci := 9) (C := RX9) (T := TX9) (N := 5) hx hb hts inX9 hown hK hH he rfl 0 (by decide) fl1 hv dX9_become_20 kk) ?_
      refine ok_alen hx hb hK hH hO h_b (by decide) k1_0 isA1 (by decide) dX9_become_23 ?_
      refine lv_icmp_gt (tgt := 88) hx hb dX9_become_24 (by decide) (fun c_5 => ?_) (fun c_5 => ?_)
      · replace c_5 := (I_lt (a := 60) (b := z_1) (show rng 60 from ⟨by decide, by decide⟩) rz_1).mp c_5
        exact th_vret hx hb hr hlocks hH hS ⟨hO, hF, trivial⟩ dX9_become_88
      · replace c_5 := mt (I_lt (a := 60) (b := z_1) (show rng 60 from ⟨by decide, by decide⟩) rz_1).mpr c_5
        refine lv_aload_n hx hb dX9_become_27 rfl (lv_at hl 2 rfl) ?_
        refine ok.getR hO h_b (by decide) k1_0 (by decide) (fun _ _ he hv kk => th_get (ci := 9) (C := RX9) (T := TX9) (N := 5) hx hb hts inX9 hown hK hH he rfl 0 (by decide) fl1 hv dX9_become_28 kk) ?_
        refine lv_iconst (v := I 0) hx hb dX9_become_31 (by decide) ?_
        refine lv_aload_n hx hb dX9_become_32 rfl (lv_at hl 1 rfl) ?_
        refine ok.getR hO h_a (by decide) k1_0 (by decide) (fun _ _ he hv kk => th_get (ci := 9) (C := RX9) (T := TX9) (N := 5) hx hb hts inX9 hown hK hH he rfl 0 (by decide) fl1 hv dX9_become_33 kk) ?_
        refine lv_iconst (v := I 0) hx hb dX9_become_36 (by decide) ?_
        refine lv_iload_n hx hb dX9_become_37 rfl (lv_at hl 0 rfl) ?_
        refine ok_copy hx hb (by rw [hml]; exact hl.1.symm) hown fl2 fl3 fl4 fl5 hK hH hS h00 hO h_a (by decide) k1_0 isA1 h_b (by decide) k1_0 isA1 (show rng 0 from ⟨by decide, by decide⟩) (show rng 0 from ⟨by decide, by decide⟩) rz_1 (by omega) (by omega) (by omega) (by omega) (by omega) (fun _ => el1) (Nat.le_of_ble_eq_true rfl) (Nat.le_of_ble_eq_true rfl) dX9_become_38 (fun σ_s_6 H locs hO hF9 hi9 hH hS => ?_)
        replace hF := hF.tu hF9 (by decide)
        have e_7 : gI σ_s_6 b 4 = z_1 := (hi9 _ _).trans e_2
        refine lv_aload_n hx hb dX9_become_41 rfl (lv_at hl 2 rfl) ?_
        refine ok.getR hO h_b (by decide) k1_1 (by decide) (fun _ _ he hv kk => th_get (ci := 9) (C := RX9) (T := TX9) (N := 5) hx hb hts inX9 hown hK hH he rfl 1 (by decide) fl6 hv dX9_become_42 kk) ?_
        refine lv_iconst (v := I 0) hx hb dX9_become_45 (by decide) ?_
        refine lv_aload_n hx hb dX9_become_46 rfl (lv_at hl 1 rfl) ?_
        refine ok.getR hO h_a (by decide) k1_1 (by decide) (fun _ _ he hv kk => th_get (ci := 9) (C := RX9) (T := TX9) (N := 5) hx hb hts inX9 hown hK hH he rfl 1 (by decide) fl6 hv dX9_become_47 kk) ?_
        refine lv_iconst (v := I 0) hx hb dX9_become_50 (by decide) ?_
        refine lv_iload_n hx hb dX9_become_51 rfl (lv_at hl 0 rfl) ?_
        refine ok_copy hx hb (by rw [hml]; exact hl.1.symm) hown fl2 fl3 fl4 fl5 hK hH hS h00 hO h_a (by decide) k1_1 isA1 h_b (by decide) k1_1 isA1 (show rng 0 from ⟨by decide, by decide⟩) (show rng 0 from ⟨by decide, by decide⟩) rz_1 (by omega) (by omega) (by omega) (by omega) (by omega) (fun _ => el1) (Nat.le_of_ble_eq_true rfl) (Nat.le_of_ble_eq_true rfl) dX9_become_52 (fun σ_s_8 H locs hO hF9 hi9 hH hS => ?_)
        replace hF := hF.tu hF9 (by decide)
        have e_9 : gI σ_s_8 b 4 = z_1 := (hi9 _ _).trans e_7
        refine lv_aload_n hx hb dX9_become_55 rfl (lv_at hl 2 rfl) ?_
        refine ok.getR hO h_b (by decide) k1_2 (by decide) (fun _ _ he hv kk => th_get (ci := 9) (C := RX9) (T := TX9) (N := 5) hx hb hts inX9 hown hK hH he rfl 2 (by decide) fl7 hv dX9_become_56 kk) ?_
        refine lv_iconst (v := I 0) hx hb dX9_become_59 (by decide) ?_
        refine lv_aload_n hx hb dX9_become_60 rfl (lv_at hl 1 rfl) ?_
        refine ok.getR hO h_a (by decide) k1_2 (by decide) (fun _ _ he hv kk => th_get (ci := 9) (C := RX9) (T := TX9) (N := 5) hx hb hts inX9 hown hK hH he rfl 2 (by decide) fl7 hv dX9_become_61 kk) ?_
        refine lv_iconst (v := I 0) hx hb dX9_become_64 (by decide) ?_
        refine lv_iload_n hx hb dX9_become_65 rfl (lv_at hl 0 rfl) ?_
        refine ok_copy hx hb (by rw [hml]; exact hl.1.symm) hown fl2 fl3 fl4 fl5 hK hH hS h00 hO h_a (by decide) k1_2 isA1 h_b (by decide) k1_2 isA1 (show rng 0 from ⟨by decide, by decide⟩) (show rng 0 from ⟨by decide, by decide⟩) rz_1 (by omega) (by omega) (by omega) (by omega) (by omega) (fun _ => el1) (Nat.le_of_ble_eq_true rfl) (Nat.le_of_ble_eq_true rfl) dX9_become_66 (fun σ_s_10 H locs hO hF9 hi9 hH hS => ?_)
        replace hF := hF.tu hF9 (by decide)
        have e_11 : gI σ_s_10 b 4 = z_1 := (hi9 _ _).trans e_9
        refine lv_aload_n hx hb dX9_become_69 rfl (lv_at hl 2 rfl) ?_
        refine ok.getR hO h_b (by decide) k1_3 (by decide) (fun _ _ he hv kk => th_get (ci := 9) (C := RX9) (T := TX9) (N := 5) hx hb hts inX9 hown hK hH he rfl 3 (by decide) fl8 hv dX9_become_70 kk) ?_
        refine lv_iconst (v := I 0) hx hb dX9_become_73 (by decide) ?_
        refine lv_aload_n hx hb dX9_become_74 rfl (lv_at hl 1 rfl) ?_
        refine ok.getR hO h_a (by decide) k1_3 (by decide) (fun _ _ he hv kk => th_get (ci := 9) (C := RX9) (T := TX9) (N := 5) hx hb hts inX9 hown hK hH he rfl 3 (by decide) fl8 hv dX9_become_75 kk) ?_
        refine lv_iconst (v := I 0) hx hb dX9_become_78 (by decide) ?_
        refine lv_iload_n hx hb dX9_become_79 rfl (lv_at hl 0 rfl) ?_
        refine ok_copy hx hb (by rw [hml]; exact hl.1.symm) hown fl2 fl3 fl4 fl5 hK hH hS h00 hO h_a (by decide) k1_3 isA7 h_b (by decide) k1_3 isA7 (show rng 0 from ⟨by decide, by decide⟩) (show rng 0 from ⟨by decide, by decide⟩) rz_1 (by omega) (by omega) (by omega) (by omega) (by omega) (va_cpy_el (hO.arr h_b (by decide) k1_3 isA7).2.2 (hO.arr h_a (by decide) k1_3 isA7).2.2) (Nat.le_of_ble_eq_true rfl) (Nat.le_of_ble_eq_true rfl) dX9_become_80 (fun σ_s_12 H locs hO hF9 hi9 hH hS => ?_)
        replace hF := hF.tu hF9 (by decide)
        have e_13 : gI σ_s_12 b 4 = z_1 := (hi9 _ _).trans e_11
        refine lv_aload_n hx hb dX9_become_83 rfl (lv_at hl 1 rfl) ?_
        refine lv_iload_n hx hb dX9_become_84 rfl (lv_at hl 0 rfl) ?_
        refine ok.putI hO h_a (by decide) k1_4 rz_1 (by omega) (by omega) (fun _ he hl9 kk => th_put (ci := 9) (v := .int (I z_1)) (ty := .int) (C := RX9) (T := TX9) (N := 5) hx hb hts inX9 tyX9 tyX9_ok nmX9 hown hK hH hS h00 he rfl 4 (by decide) fl0 rfl (by decide +kernel) rfl rfl hl9 dX9_become_85 kk) (fun σ_s_14 H locs hO hF9 hg9 hi9 ha9 hH hS => ?_)
        replace hF := hF.tu hF9 (by decide)
        have e_15 := hg9
        exact th_vret hx hb hr hlocks hH hS ⟨hO, hF, trivial⟩ dX9_become_88

set_option maxHeartbeats 1000000 in
set_option maxRecDepth 100000 in
theorem t21_become (l : Launch) (G : va_G) (y : Nat → ClassId) (b0 : Nat) (σ : th_M) (E : th_E) (hO : ok y E σ) (a : Nat) (h_a : kd E a = 2) (b : Nat) (h_b : kd E b = 1) : Met l yX9_become wsX9_become ({ frames := 1, cells := 0, slots := 0, locals := 60 }) (th_P G y b0 σ [.ref a, .ref b]) (th_Qv G b0 (fun σ1 => ok y E σ1 ∧ fr [2] E σ σ1 ∧ (gI σ1 a 4 = gI σ b 4))) 0 0 (th_A b0) := by
  refine Met.ofW (cc := cX9_become) (maxL := 3) (ret := none) (by decide) rfl ?_
  intro p e s m args below meth c s₁ B hml hv
  obtain ⟨rfl, hH, hK⟩ := hv
  have hx := B.exec
  have hb := B.bytes
  have hr := B.returns
  have hts := atoms_spec (ws := wsX9_become) B.pre
  have hown : s.vm.findClass RX9 = some m.cls := findClass_of_methodNamed B.named
  have hlocks := B.notSynchronized
  have h00 : b0 ≤ s.heap.size := hH.1
  have hS : va_S (th_A b0) s.heap s.heap [] := va_S.rf
  have hF : fr [2] E σ σ := fr.rf
  have inX9 : ∀ w ∈ wsX90, w ∈ wsX9_become := by decide +kernel
  have fl0 := hts (.fieldLink RX9 24 "NestQuery$Tree" "size" "I") (by decide +kernel)
  have fl1 := hts (.fieldLink RX9 9 "NestQuery$Tree" "kinds" "[I") (by decide +kernel)
  have fl2 := hts (.methodLink RX9 60 arraycopyName) (by decide +kernel)
  have fl3 := hts (.native arraycopyName) (by decide +kernel)
  have fl4 := hts (.static arraycopyName) (by decide +kernel)
  have fl5 := hts (.initialized "java/lang/System") (by decide +kernel)
  have fl6 := hts (.fieldLink RX9 15 "NestQuery$Tree" "values" "[I") (by decide +kernel)
  have fl7 := hts (.fieldLink RX9 18 "NestQuery$Tree" "keys" "[I") (by decide +kernel)
  have fl8 := hts (.fieldLink RX9 21 "NestQuery$Tree" "depths" "[I") (by decide +kernel)
  have hl := lv_entry ([.ref a, .ref b]) (n := 3) (Nat.le_of_ble_eq_true rfl)
  rw [lg_entry_eq]
  generalize (lg_sl ([.ref a, .ref b]) ++ List.replicate (3 - (lg_sl ([.ref a, .ref b])).length) Slot.unset).toArray = ls at hl ⊢
  have hl : lv_has ls 3 [(0, .ref a), (1, .ref b)] := hl
  refine lv_aload_n hx hb dX9_become_0 rfl (lv_at hl 1 rfl) ?_
  refine ok.getI hO h_b (by decide) k1_4 (fun _ _ he hv kk => th_get (ci := 9) (C := RX9) (T := TX9) (N := 5) hx hb hts inX9 hown hK hH he rfl 4 (by decide) fl0 hv dX9_become_1 kk) (fun z_1 e_2 rz_1 lz_1 uz_1 => ?_)
  refine lv_istore_n (lv' := [(2, .int (I z_1)), (0, .ref a), (1, .ref b)]) hx hb dX9_become_4 rfl hl (by decide) rfl (fun ls hl => ?_)
  refine lv_iload_n hx hb dX9_become_5 rfl (lv_at hl 0 rfl) ?_
  refine lv_if_lt (tgt := 88) hx hb dX9_become_6 (by decide) (fun c_3 => ?_) (fun c_3 => ?_)
  · replace c_3 := (I_lt (a := z_1) (b := 0) rz_1 (show rng 0 from ⟨by decide, by decide⟩)).mp c_3
    exact th_vret hx hb hr hlocks hH hS ⟨hO, hF, by omega⟩ dX9_become_88
  · replace c_3 := mt (I_lt (a := z_1) (b := 0) rz_1 (show rng 0 from ⟨by decide, by decide⟩)).mpr c_3
    refine lv_iload_n hx hb dX9_become_9 rfl (lv_at hl 0 rfl) ?_
    refine lv_aload_n hx hb dX9_become_10 rfl (lv_at hl 1 rfl) ?_
    refine ok.getR hO h_a (by decide) k2_0 (by decide) (fun _ _ he hv kk => th_get (ci := 9) (C := RX9) (T := TX9) (N := 5) hx hb hts inX9 hown hK hH he rfl 0 (by decide) fl1 hv dX9_become_11 kk) ?_
    refine ok_alen hx hb hK hH hO h_a (by decide) k2_0 isA1 (by decide) dX9_become_14 ?_
    refine lv_icmp_gt (tgt := 88) hx hb dX9_become_15 (by decide) (fun c_4 => ?_) (fun c_4 => ?_)
    · replace c_4 := (I_lt (a := 128) (b := z_1) (show rng 128 from ⟨by decide, by decide⟩) rz_1).mp c_4
      exact th_vret hx hb hr hlocks hH hS ⟨hO, hF, by omega⟩ dX9_become_88
    · replace c_4 := mt (I_lt (a := 128) (b := z_1) (show rng 128 from ⟨by decide, by decide⟩) rz_1).mpr c_4
      refine lv_iload_n hx hb dX9_become_18 rfl (lv_at hl 0 rfl) ?_
      refine lv_aload_n hx hb dX9_become_19 rfl (lv_at hl 2 rfl) ?_
      refine ok.getR hO h_b (by decide) k1_0 (by decide) (fun _ _ he hv kk => th_get (ci := 9) (C := RX9) (T := TX9) (N := 5) hx hb hts inX9 hown hK hH he rfl 0 (by decide) fl1 hv dX9_become_20 kk) ?_
      refine ok_alen hx hb hK hH hO h_b (by decide) k1_0 isA1 (by decide) dX9_become_23 ?_
      refine lv_icmp_gt (tgt := 88) hx hb dX9_become_24 (by decide) (fun c_5 => ?_) (fun c_5 => ?_)
      · replace c_5 := (I_lt (a := 60) (b := z_1) (show rng 60 from ⟨by decide, by decide⟩) rz_1).mp c_5
        exact th_vret hx hb hr hlocks hH hS ⟨hO, hF, by omega⟩ dX9_become_88
      · replace c_5 := mt (I_lt (a := 60) (b := z_1) (show rng 60 from ⟨by decide, by decide⟩) rz_1).mpr c_5
        refine lv_aload_n hx hb dX9_become_27 rfl (lv_at hl 2 rfl) ?_
        refine ok.getR hO h_b (by decide) k1_0 (by decide) (fun _ _ he hv kk => th_get (ci := 9) (C := RX9) (T := TX9) (N := 5) hx hb hts inX9 hown hK hH he rfl 0 (by decide) fl1 hv dX9_become_28 kk) ?_
        refine lv_iconst (v := I 0) hx hb dX9_become_31 (by decide) ?_
        refine lv_aload_n hx hb dX9_become_32 rfl (lv_at hl 1 rfl) ?_
        refine ok.getR hO h_a (by decide) k2_0 (by decide) (fun _ _ he hv kk => th_get (ci := 9) (C := RX9) (T := TX9) (N := 5) hx hb hts inX9 hown hK hH he rfl 0 (by decide) fl1 hv dX9_become_33 kk) ?_
        refine lv_iconst (v := I 0) hx hb dX9_become_36 (by decide) ?_
        refine lv_iload_n hx hb dX9_become_37 rfl (lv_at hl 0 rfl) ?_
        refine ok_copy hx hb (by rw [hml]; exact hl.1.symm) hown fl2 fl3 fl4 fl5 hK hH hS h00 hO h_a (by decide) k2_0 isA1 h_b (by decide) k1_0 isA1 (show rng 0 from ⟨by decide, by decide⟩) (show rng 0 from ⟨by decide, by decide⟩) rz_1 (by omega) (by omega) (by omega) (by omega) (by omega) (fun _ => el1) (Nat.le_of_ble_eq_true rfl) (Nat.le_of_ble_eq_true rfl) dX9_become_38 (fun σ_s_6 H locs hO hF9 hi9 hH hS => ?_)
        replace hF := hF.tu hF9 (by decide)
        have e_7 : gI σ_s_6 b 4 = z_1 := (hi9 _ _).trans e_2
        refine lv_aload_n hx hb dX9_become_41 rfl (lv_at hl 2 rfl) ?_
        refine ok.getR hO h_b (by decide) k1_1 (by decide) (fun _ _ he hv kk => th_get (ci := 9) (C := RX9) (T := TX9) (N := 5) hx hb hts inX9 hown hK hH he rfl 1 (by decide) fl6 hv dX9_become_42 kk) ?_
        refine lv_iconst (v := I 0) hx hb dX9_become_45 (by decide) ?_
        refine lv_aload_n hx hb dX9_become_46 rfl (lv_at hl 1 rfl) ?_
        refine ok.getR hO h_a (by decide) k2_1 (by decide) (fun _ _ he hv kk => th_get (ci := 9) (C := RX9) (T := TX9) (N := 5) hx hb hts inX9 hown hK hH he rfl 1 (by decide) fl6 hv dX9_become_47 kk) ?_
        refine lv_iconst (v := I 0) hx hb dX9_become_50 (by decide) ?_
        refine lv_iload_n hx hb dX9_become_51 rfl (lv_at hl 0 rfl) ?_
        refine ok_copy hx hb (by rw [hml]; exact hl.1.symm) hown fl2 fl3 fl4 fl5 hK hH hS h00 hO h_a (by decide) k2_1 isA1 h_b (by decide) k1_1 isA1 (show rng 0 from ⟨by decide, by decide⟩) (show rng 0 from ⟨by decide, by decide⟩) rz_1 (by omega) (by omega) (by omega) (by omega) (by omega) (fun _ => el1) (Nat.le_of_ble_eq_true rfl) (Nat.le_of_ble_eq_true rfl) dX9_become_52 (fun σ_s_8 H locs hO hF9 hi9 hH hS => ?_)
        replace hF := hF.tu hF9 (by decide)
        have e_9 : gI σ_s_8 b 4 = z_1 := (hi9 _ _).trans e_7
        refine lv_aload_n hx hb dX9_become_55 rfl (lv_at hl 2 rfl) ?_
        refine ok.getR hO h_b (by decide) k1_2 (by decide) (fun _ _ he hv kk => th_get (ci := 9) (C := RX9) (T := TX9) (N := 5) hx hb hts inX9 hown hK hH he rfl 2 (by decide) fl7 hv dX9_become_56 kk) ?_
        refine lv_iconst (v := I 0) hx hb dX9_become_59 (by decide) ?_
        refine lv_aload_n hx hb dX9_become_60 rfl (lv_at hl 1 rfl) ?_
        refine ok.getR hO h_a (by decide) k2_2 (by decide) (fun _ _ he hv kk => th_get (ci := 9) (C := RX9) (T := TX9) (N := 5) hx hb hts inX9 hown hK hH he rfl 2 (by decide) fl7 hv dX9_become_61 kk) ?_
        refine lv_iconst (v := I 0) hx hb dX9_become_64 (by decide) ?_
        refine lv_iload_n hx hb dX9_become_65 rfl (lv_at hl 0 rfl) ?_
        refine ok_copy hx hb (by rw [hml]; exact hl.1.symm) hown fl2 fl3 fl4 fl5 hK hH hS h00 hO h_a (by decide) k2_2 isA1 h_b (by decide) k1_2 isA1 (show rng 0 from ⟨by decide, by decide⟩) (show rng 0 from ⟨by decide, by decide⟩) rz_1 (by omega) (by omega) (by omega) (by omega) (by omega) (fun _ => el1) (Nat.le_of_ble_eq_true rfl) (Nat.le_of_ble_eq_true rfl) dX9_become_66 (fun σ_s_10 H locs hO hF9 hi9 hH hS => ?_)
        replace hF := hF.tu hF9 (by decide)
        have e_11 : gI σ_s_10 b 4 = z_1 := (hi9 _ _).trans e_9
        refine lv_aload_n hx hb dX9_become_69 rfl (lv_at hl 2 rfl) ?_
        refine ok.getR hO h_b (by decide) k1_3 (by decide) (fun _ _ he hv kk => th_get (ci := 9) (C := RX9) (T := TX9) (N := 5) hx hb hts inX9 hown hK hH he rfl 3 (by decide) fl8 hv dX9_become_70 kk) ?_
        refine lv_iconst (v := I 0) hx hb dX9_become_73 (by decide) ?_
        refine lv_aload_n hx hb dX9_become_74 rfl (lv_at hl 1 rfl) ?_
        refine ok.getR hO h_a (by decide) k2_3 (by decide) (fun _ _ he hv kk => th_get (ci := 9) (C := RX9) (T := TX9) (N := 5) hx hb hts inX9 hown hK hH he rfl 3 (by decide) fl8 hv dX9_become_75 kk) ?_
        refine lv_iconst (v := I 0) hx hb dX9_become_78 (by decide) ?_
        refine lv_iload_n hx hb dX9_become_79 rfl (lv_at hl 0 rfl) ?_
        refine ok_copy hx hb (by rw [hml]; exact hl.1.symm) hown fl2 fl3 fl4 fl5 hK hH hS h00 hO h_a (by decide) k2_3 isA1 h_b (by decide) k1_3 isA7 (show rng 0 from ⟨by decide, by decide⟩) (show rng 0 from ⟨by decide, by decide⟩) rz_1 (by omega) (by omega) (by omega) (by omega) (by omega) (fun _ => el1) (Nat.le_of_ble_eq_true rfl) (Nat.le_of_ble_eq_true rfl) dX9_become_80 (fun σ_s_12 H locs hO hF9 hi9 hH hS => ?_)
        replace hF := hF.tu hF9 (by decide)
        have e_13 : gI σ_s_12 b 4 = z_1 := (hi9 _ _).trans e_11
        refine lv_aload_n hx hb dX9_become_83 rfl (lv_at hl 1 rfl) ?_
        refine lv_iload_n hx hb dX9_become_84 rfl (lv_at hl 0 rfl) ?_
        refine ok.putI hO h_a (by decide) k2_4 rz_1 (by omega) (by omega) (fun _ he hl9 kk => th_put (ci := 9) (v := .int (I z_1)) (ty := .int) (C := RX9) (T := TX9) (N := 5) hx hb hts inX9 tyX9 tyX9_ok nmX9 hown hK hH hS h00 he rfl 4 (by decide) fl0 rfl (by decide +kernel) rfl rfl hl9 dX9_become_85 kk) (fun σ_s_14 H locs hO hF9 hg9 hi9 ha9 hH hS => ?_)
        replace hF := hF.tu hF9 (by decide)
        have e_15 := hg9
        exact th_vret hx hb hr hlocks hH hS ⟨hO, hF, by omega⟩ dX9_become_88

set_option maxHeartbeats 1000000 in
set_option maxRecDepth 100000 in
theorem t22_copyFrom (l : Launch) (G : va_G) (y : Nat → ClassId) (b0 : Nat) (σ : th_M) (E : th_E) (hO : ok y E σ) (a : Nat) (h_a : kd E a = 2) (b : Nat) (h_b : kd E b = 2) (x : Int) (rx : rng x) (l_x : -200 ≤ x) (u_x : x ≤ 400) (z : Int) (rz : rng z) (l_z : -200 ≤ z) (u_z : z ≤ 400) (w : Int) (rw : rng w) (l_w : -200 ≤ w) (u_w : w ≤ 400) : Met l yX9_copyFrom wsX9_copyFrom ({ frames := 1, cells := 0, slots := 0, locals := 60 }) (th_P G y b0 σ [.ref a, .ref b, .int (I x), .int (I z), .int (I w)]) (th_Qv G b0 (fun σ1 => ok y E σ1 ∧ fr [2] E σ σ1 ∧ (gI σ1 a 4 = gI σ a 4))) 0 0 (th_A b0) := by
  refine Met.ofW (cc := cX9_copyFrom) (maxL := 5) (ret := none) (by decide) rfl ?_
  intro p e s m args below meth c s₁ B hml hv
  obtain ⟨rfl, hH, hK⟩ := hv
  have hx := B.exec
  have hb := B.bytes
  have hr := B.returns
  have hts := atoms_spec (ws := wsX9_copyFrom) B.pre
  have hown : s.vm.findClass RX9 = some m.cls := findClass_of_methodNamed B.named
  have hlocks := B.notSynchronized
  have h00 : b0 ≤ s.heap.size := hH.1
  have hS : va_S (th_A b0) s.heap s.heap [] := va_S.rf
  have hF : fr [2] E σ σ := fr.rf
  have inX9 : ∀ w ∈ wsX90, w ∈ wsX9_copyFrom := by decide +kernel
  have fl0 := hts (.fieldLink RX9 9 "NestQuery$Tree" "kinds" "[I") (by decide +kernel)
  have fl1 := hts (.methodLink RX9 60 arraycopyName) (by decide +kernel)
  have fl2 := hts (.native arraycopyName) (by decide +kernel)
  have fl3 := hts (.static arraycopyName) (by decide +kernel)
  have fl4 := hts (.initialized "java/lang/System") (by decide +kernel)
  have fl5 := hts (.fieldLink RX9 15 "NestQuery$Tree" "values" "[I") (by decide +kernel)
  have fl6 := hts (.fieldLink RX9 18 "NestQuery$Tree" "keys" "[I") (by decide +kernel)
  have fl7 := hts (.fieldLink RX9 21 "NestQuery$Tree" "depths" "[I") (by decide +kernel)
  have hl := lv_entry ([.ref a, .ref b, .int (I x), .int (I z), .int (I w)]) (n := 5) (Nat.le_of_ble_eq_true rfl)
  rw [lg_entry_eq]
  generalize (lg_sl ([.ref a, .ref b, .int (I x), .int (I z), .int (I w)]) ++ List.replicate (5 - (lg_sl ([.ref a, .ref b, .int (I x), .int (I z), .int (I w)])).length) Slot.unset).toArray = ls at hl ⊢
  have hl : lv_has ls 5 [(0, .ref a), (1, .ref b), (2, .int (I x)), (3, .int (I z)), (4, .int (I w))] := hl
  obtain ⟨a40, ea40, ra40, la40, ua40⟩ := hO.gi h_a (by decide) k2_4
  refine lv_iload hx hb dX9_copyFrom_0 (lv_at hl 4 rfl) ?_
  refine lv_if_le (tgt := 97) hx hb dX9_copyFrom_2 (by decide) (fun c_1 => ?_) (fun c_1 => ?_)
  · replace c_1 := (I_le (a := w) (b := 0) rw (show rng 0 from ⟨by decide, by decide⟩)).mp c_1
    exact th_vret hx hb hr hlocks hH hS ⟨hO, hF, by omega⟩ dX9_copyFrom_97
  · replace c_1 := mt (I_le (a := w) (b := 0) rw (show rng 0 from ⟨by decide, by decide⟩)).mpr c_1
    refine lv_iload_n hx hb dX9_copyFrom_5 rfl (lv_at hl 2 rfl) ?_
    refine lv_if_lt (tgt := 97) hx hb dX9_copyFrom_6 (by decide) (fun c_2 => ?_) (fun c_2 => ?_)
    · replace c_2 := (I_lt (a := x) (b := 0) rx (show rng 0 from ⟨by decide, by decide⟩)).mp c_2
      exact th_vret hx hb hr hlocks hH hS ⟨hO, hF, by omega⟩ dX9_copyFrom_97
    · replace c_2 := mt (I_lt (a := x) (b := 0) rx (show rng 0 from ⟨by decide, by decide⟩)).mpr c_2
      refine lv_iload_n hx hb dX9_copyFrom_9 rfl (lv_at hl 3 rfl) ?_
      refine lv_if_lt (tgt := 97) hx hb dX9_copyFrom_10 (by decide) (fun c_3 => ?_) (fun c_3 => ?_)
      · replace c_3 := (I_lt (a := z) (b := 0) rz (show rng 0 from ⟨by decide, by decide⟩)).mp c_3
        exact th_vret hx hb hr hlocks hH hS ⟨hO, hF, by omega⟩ dX9_copyFrom_97
      · replace c_3 := mt (I_lt (a := z) (b := 0) rz (show rng 0 from ⟨by decide, by decide⟩)).mpr c_3
        refine lv_iload_n hx hb dX9_copyFrom_13 rfl (lv_at hl 2 rfl) ?_
        refine lv_iload hx hb dX9_copyFrom_14 (lv_at hl 4 rfl) ?_
        refine lv_iadd hx hb dX9_copyFrom_16 ?_
        refine nq_top (I_add _ _) ?_
        refine lv_aload_n hx hb dX9_copyFrom_17 rfl (lv_at hl 1 rfl) ?_
        refine ok.getR hO h_b (by decide) k2_0 (by decide) (fun _ _ he hv kk => th_get (ci := 9) (C := RX9) (T := TX9) (N := 5) hx hb hts inX9 hown hK hH he rfl 0 (by decide) fl0 hv dX9_copyFrom_18 kk) ?_
        refine ok_alen hx hb hK hH hO h_b (by decide) k2_0 isA1 (by decide) dX9_copyFrom_21 ?_
        refine lv_icmp_gt (tgt := 97) hx hb dX9_copyFrom_22 (by decide) (fun c_4 => ?_) (fun c_4 => ?_)
        · replace c_4 := (I_lt (a := 128) (b := x + w) (show rng 128 from ⟨by decide, by decide⟩) ⟨by omega, by omega⟩).mp c_4
          exact th_vret hx hb hr hlocks hH hS ⟨hO, hF, by omega⟩ dX9_copyFrom_97
        · replace c_4 := mt (I_lt (a := 128) (b := x + w) (show rng 128 from ⟨by decide, by decide⟩) ⟨by omega, by omega⟩).mpr c_4
          refine lv_iload_n hx hb dX9_copyFrom_25 rfl (lv_at hl 3 rfl) ?_
          refine lv_iload hx hb dX9_copyFrom_26 (lv_at hl 4 rfl) ?_
          refine lv_iadd hx hb dX9_copyFrom_28 ?_
          refine nq_top (I_add _ _) ?_
          refine lv_aload_n hx hb dX9_copyFrom_29 rfl (lv_at hl 0 rfl) ?_
          refine ok.getR hO h_a (by decide) k2_0 (by decide) (fun _ _ he hv kk => th_get (ci := 9) (C := RX9) (T := TX9) (N := 5) hx hb hts inX9 hown hK hH he rfl 0 (by decide) fl0 hv dX9_copyFrom_30 kk) ?_
          refine ok_alen hx hb hK hH hO h_a (by decide) k2_0 isA1 (by decide) dX9_copyFrom_33 ?_
          refine lv_icmp_gt (tgt := 97) hx hb dX9_copyFrom_34 (by decide) (fun c_5 => ?_) (fun c_5 => ?_)
          · replace c_5 := (I_lt (a := 128) (b := z + w) (show rng 128 from ⟨by decide, by decide⟩) ⟨by omega, by omega⟩).mp c_5
            exact th_vret hx hb hr hlocks hH hS ⟨hO, hF, by omega⟩ dX9_copyFrom_97
          · replace c_5 := mt (I_lt (a := 128) (b := z + w) (show rng 128 from ⟨by decide, by decide⟩) ⟨by omega, by omega⟩).mpr c_5
            refine lv_aload_n hx hb dX9_copyFrom_37 rfl (lv_at hl 1 rfl) ?_
            refine ok.getR hO h_b (by decide) k2_0 (by decide) (fun _ _ he hv kk => th_get (ci := 9) (C := RX9) (T := TX9) (N := 5) hx hb hts inX9 hown hK hH he rfl 0 (by decide) fl0 hv dX9_copyFrom_38 kk) ?_
            refine lv_iload_n hx hb dX9_copyFrom_41 rfl (lv_at hl 2 rfl) ?_
            refine lv_aload_n hx hb dX9_copyFrom_42 rfl (lv_at hl 0 rfl) ?_
            refine ok.getR hO h_a (by decide) k2_0 (by decide) (fun _ _ he hv kk => th_get (ci := 9) (C := RX9) (T := TX9) (N := 5) hx hb hts inX9 hown hK hH he rfl 0 (by decide) fl0 hv dX9_copyFrom_43 kk) ?_
            refine lv_iload_n hx hb dX9_copyFrom_46 rfl (lv_at hl 3 rfl) ?_
            refine lv_iload hx hb dX9_copyFrom_47 (lv_at hl 4 rfl) ?_
            refine ok_copy hx hb (by rw [hml]; exact hl.1.symm) hown fl1 fl2 fl3 fl4 hK hH hS h00 hO h_a (by decide) k2_0 isA1 h_b (by decide) k2_0 isA1 rx rz rw (by omega) (by omega) (by omega) (by omega) (by omega) (fun _ => el1) (Nat.le_of_ble_eq_true rfl) (Nat.le_of_ble_eq_true rfl) dX9_copyFrom_49 (fun σ_s_6 H locs hO hF9 hi9 hH hS => ?_)
            replace hF := hF.tu hF9 (by decide)
            have e_7 : gI σ_s_6 a 4 = a40 := (hi9 _ _).trans ea40
            refine lv_aload_n hx hb dX9_copyFrom_52 rfl (lv_at hl 1 rfl) ?_
            refine ok.getR hO h_b (by decide) k2_1 (by decide) (fun _ _ he hv kk => th_get (ci := 9) (C := RX9) (T := TX9) (N := 5) hx hb hts inX9 hown hK hH he rfl 1 (by decide) fl5 hv dX9_copyFrom_53 kk) ?_
            refine lv_iload_n hx hb dX9_copyFrom_56 rfl (lv_at hl 2 rfl) ?_
            refine lv_aload_n hx hb dX9_copyFrom_57 rfl (lv_at hl 0 rfl) ?_
            refine ok.getR hO h_a (by decide) k2_1 (by decide) (fun _ _ he hv kk => th_get (ci := 9) (C := RX9) (T := TX9) (N := 5) hx hb hts inX9 hown hK hH he rfl 1 (by decide) fl5 hv dX9_copyFrom_58 kk) ?_
            refine lv_iload_n hx hb dX9_copyFrom_61 rfl (lv_at hl 3 rfl) ?_
            refine lv_iload hx hb dX9_copyFrom_62 (lv_at hl 4 rfl) ?_
            refine ok_copy hx hb (by rw [hml]; exact hl.1.symm) hown fl1 fl2 fl3 fl4 hK hH hS h00 hO h_a (by decide) k2_1 isA1 h_b (by decide) k2_1 isA1 rx rz rw (by omega) (by omega) (by omega) (by omega) (by omega) (fun _ => el1) (Nat.le_of_ble_eq_true rfl) (Nat.le_of_ble_eq_true rfl) dX9_copyFrom_64 (fun σ_s_8 H locs hO hF9 hi9 hH hS => ?_)
            replace hF := hF.tu hF9 (by decide)
            have e_9 : gI σ_s_8 a 4 = a40 := (hi9 _ _).trans e_7
            refine lv_aload_n hx hb dX9_copyFrom_67 rfl (lv_at hl 1 rfl) ?_
            refine ok.getR hO h_b (by decide) k2_2 (by decide) (fun _ _ he hv kk => th_get (ci := 9) (C := RX9) (T := TX9) (N := 5) hx hb hts inX9 hown hK hH he rfl 2 (by decide) fl6 hv dX9_copyFrom_68 kk) ?_
            refine lv_iload_n hx hb dX9_copyFrom_71 rfl (lv_at hl 2 rfl) ?_
            refine lv_aload_n hx hb dX9_copyFrom_72 rfl (lv_at hl 0 rfl) ?_
            refine ok.getR hO h_a (by decide) k2_2 (by decide) (fun _ _ he hv kk => th_get (ci := 9) (C := RX9) (T := TX9) (N := 5) hx hb hts inX9 hown hK hH he rfl 2 (by decide) fl6 hv dX9_copyFrom_73 kk) ?_
            refine lv_iload_n hx hb dX9_copyFrom_76 rfl (lv_at hl 3 rfl) ?_
            refine lv_iload hx hb dX9_copyFrom_77 (lv_at hl 4 rfl) ?_
            refine ok_copy hx hb (by rw [hml]; exact hl.1.symm) hown fl1 fl2 fl3 fl4 hK hH hS h00 hO h_a (by decide) k2_2 isA1 h_b (by decide) k2_2 isA1 rx rz rw (by omega) (by omega) (by omega) (by omega) (by omega) (fun _ => el1) (Nat.le_of_ble_eq_true rfl) (Nat.le_of_ble_eq_true rfl) dX9_copyFrom_79 (fun σ_s_10 H locs hO hF9 hi9 hH hS => ?_)
            replace hF := hF.tu hF9 (by decide)
            have e_11 : gI σ_s_10 a 4 = a40 := (hi9 _ _).trans e_9
            refine lv_aload_n hx hb dX9_copyFrom_82 rfl (lv_at hl 1 rfl) ?_
            refine ok.getR hO h_b (by decide) k2_3 (by decide) (fun _ _ he hv kk => th_get (ci := 9) (C := RX9) (T := TX9) (N := 5) hx hb hts inX9 hown hK hH he rfl 3 (by decide) fl7 hv dX9_copyFrom_83 kk) ?_
            refine lv_iload_n hx hb dX9_copyFrom_86 rfl (lv_at hl 2 rfl) ?_
            refine lv_aload_n hx hb dX9_copyFrom_87 rfl (lv_at hl 0 rfl) ?_
            refine ok.getR hO h_a (by decide) k2_3 (by decide) (fun _ _ he hv kk => th_get (ci := 9) (C := RX9) (T := TX9) (N := 5) hx hb hts inX9 hown hK hH he rfl 3 (by decide) fl7 hv dX9_copyFrom_88 kk) ?_
            refine lv_iload_n hx hb dX9_copyFrom_91 rfl (lv_at hl 3 rfl) ?_
            refine lv_iload hx hb dX9_copyFrom_92 (lv_at hl 4 rfl) ?_
            refine ok_copy hx hb (by rw [hml]; exact hl.1.symm) hown fl1 fl2 fl3 fl4 hK hH hS h00 hO h_a (by decide) k2_3 isA1 h_b (by decide) k2_3 isA1 rx rz rw (by omega) (by omega) (by omega) (by omega) (by omega) (fun _ => el1) (Nat.le_of_ble_eq_true rfl) (Nat.le_of_ble_eq_true rfl) dX9_copyFrom_94 (fun σ_s_12 H locs hO hF9 hi9 hH hS => ?_)
            replace hF := hF.tu hF9 (by decide)
            have e_13 : gI σ_s_12 a 4 = a40 := (hi9 _ _).trans e_11
            exact th_vret hx hb hr hlocks hH hS ⟨hO, hF, by omega⟩ dX9_copyFrom_97

set_option maxHeartbeats 1000000 in
set_option maxRecDepth 100000 in
theorem t21_copyFrom (l : Launch) (G : va_G) (y : Nat → ClassId) (b0 : Nat) (σ : th_M) (E : th_E) (hO : ok y E σ) (a : Nat) (h_a : kd E a = 2) (b : Nat) (h_b : kd E b = 1) (x : Int) (rx : rng x) (l_x : -200 ≤ x) (u_x : x ≤ 400) (z : Int) (rz : rng z) (l_z : -200 ≤ z) (u_z : z ≤ 400) (w : Int) (rw : rng w) (l_w : -200 ≤ w) (u_w : w ≤ 400) : Met l yX9_copyFrom wsX9_copyFrom ({ frames := 1, cells := 0, slots := 0, locals := 60 }) (th_P G y b0 σ [.ref a, .ref b, .int (I x), .int (I z), .int (I w)]) (th_Qv G b0 (fun σ1 => ok y E σ1 ∧ fr [2] E σ σ1 ∧ (gI σ1 a 4 = gI σ a 4))) 0 0 (th_A b0) := by
  refine Met.ofW (cc := cX9_copyFrom) (maxL := 5) (ret := none) (by decide) rfl ?_
  intro p e s m args below meth c s₁ B hml hv
  obtain ⟨rfl, hH, hK⟩ := hv
  have hx := B.exec
  have hb := B.bytes
  have hr := B.returns
  have hts := atoms_spec (ws := wsX9_copyFrom) B.pre
  have hown : s.vm.findClass RX9 = some m.cls := findClass_of_methodNamed B.named
  have hlocks := B.notSynchronized
  have h00 : b0 ≤ s.heap.size := hH.1
  have hS : va_S (th_A b0) s.heap s.heap [] := va_S.rf
  have hF : fr [2] E σ σ := fr.rf
  have inX9 : ∀ w ∈ wsX90, w ∈ wsX9_copyFrom := by decide +kernel
  have fl0 := hts (.fieldLink RX9 9 "NestQuery$Tree" "kinds" "[I") (by decide +kernel)
  have fl1 := hts (.methodLink RX9 60 arraycopyName) (by decide +kernel)
  have fl2 := hts (.native arraycopyName) (by decide +kernel)
  have fl3 := hts (.static arraycopyName) (by decide +kernel)
  have fl4 := hts (.initialized "java/lang/System") (by decide +kernel)
  have fl5 := hts (.fieldLink RX9 15 "NestQuery$Tree" "values" "[I") (by decide +kernel)
  have fl6 := hts (.fieldLink RX9 18 "NestQuery$Tree" "keys" "[I") (by decide +kernel)
  have fl7 := hts (.fieldLink RX9 21 "NestQuery$Tree" "depths" "[I") (by decide +kernel)
  have hl := lv_entry ([.ref a, .ref b, .int (I x), .int (I z), .int (I w)]) (n := 5) (Nat.le_of_ble_eq_true rfl)
  rw [lg_entry_eq]
  generalize (lg_sl ([.ref a, .ref b, .int (I x), .int (I z), .int (I w)]) ++ List.replicate (5 - (lg_sl ([.ref a, .ref b, .int (I x), .int (I z), .int (I w)])).length) Slot.unset).toArray = ls at hl ⊢
  have hl : lv_has ls 5 [(0, .ref a), (1, .ref b), (2, .int (I x)), (3, .int (I z)), (4, .int (I w))] := hl
  obtain ⟨a40, ea40, ra40, la40, ua40⟩ := hO.gi h_a (by decide) k2_4
  refine lv_iload hx hb dX9_copyFrom_0 (lv_at hl 4 rfl) ?_
  refine lv_if_le (tgt := 97) hx hb dX9_copyFrom_2 (by decide) (fun c_1 => ?_) (fun c_1 => ?_)
  · replace c_1 := (I_le (a := w) (b := 0) rw (show rng 0 from ⟨by decide, by decide⟩)).mp c_1
    exact th_vret hx hb hr hlocks hH hS ⟨hO, hF, by omega⟩ dX9_copyFrom_97
  · replace c_1 := mt (I_le (a := w) (b := 0) rw (show rng 0 from ⟨by decide, by decide⟩)).mpr c_1
    refine lv_iload_n hx hb dX9_copyFrom_5 rfl (lv_at hl 2 rfl) ?_
    refine lv_if_lt (tgt := 97) hx hb dX9_copyFrom_6 (by decide) (fun c_2 => ?_) (fun c_2 => ?_)
    · replace c_2 := (I_lt (a := x) (b := 0) rx (show rng 0 from ⟨by decide, by decide⟩)).mp c_2
      exact th_vret hx hb hr hlocks hH hS ⟨hO, hF, by omega⟩ dX9_copyFrom_97
    · replace c_2 := mt (I_lt (a := x) (b := 0) rx (show rng 0 from ⟨by decide, by decide⟩)).mpr c_2
      refine lv_iload_n hx hb dX9_copyFrom_9 rfl (lv_at hl 3 rfl) ?_
      refine lv_if_lt (tgt := 97) hx hb dX9_copyFrom_10 (by decide) (fun c_3 => ?_) (fun c_3 => ?_)
      · replace c_3 := (I_lt (a := z) (b := 0) rz (show rng 0 from ⟨by decide, by decide⟩)).mp c_3
        exact th_vret hx hb hr hlocks hH hS ⟨hO, hF, by omega⟩ dX9_copyFrom_97
      · replace c_3 := mt (I_lt (a := z) (b := 0) rz (show rng 0 from ⟨by decide, by decide⟩)).mpr c_3
        refine lv_iload_n hx hb dX9_copyFrom_13 rfl (lv_at hl 2 rfl) ?_
        refine lv_iload hx hb dX9_copyFrom_14 (lv_at hl 4 rfl) ?_
        refine lv_iadd hx hb dX9_copyFrom_16 ?_
        refine nq_top (I_add _ _) ?_
        refine lv_aload_n hx hb dX9_copyFrom_17 rfl (lv_at hl 1 rfl) ?_
        refine ok.getR hO h_b (by decide) k1_0 (by decide) (fun _ _ he hv kk => th_get (ci := 9) (C := RX9) (T := TX9) (N := 5) hx hb hts inX9 hown hK hH he rfl 0 (by decide) fl0 hv dX9_copyFrom_18 kk) ?_
        refine ok_alen hx hb hK hH hO h_b (by decide) k1_0 isA1 (by decide) dX9_copyFrom_21 ?_
        refine lv_icmp_gt (tgt := 97) hx hb dX9_copyFrom_22 (by decide) (fun c_4 => ?_) (fun c_4 => ?_)
        · replace c_4 := (I_lt (a := 60) (b := x + w) (show rng 60 from ⟨by decide, by decide⟩) ⟨by omega, by omega⟩).mp c_4
          exact th_vret hx hb hr hlocks hH hS ⟨hO, hF, by omega⟩ dX9_copyFrom_97
        · replace c_4 := mt (I_lt (a := 60) (b := x + w) (show rng 60 from ⟨by decide, by decide⟩) ⟨by omega, by omega⟩).mpr c_4
          refine lv_iload_n hx hb dX9_copyFrom_25 rfl (lv_at hl 3 rfl) ?_
          refine lv_iload hx hb dX9_copyFrom_26 (lv_at hl 4 rfl) ?_
          refine lv_iadd hx hb dX9_copyFrom_28 ?_
          refine nq_top (I_add _ _) ?_
          refine lv_aload_n hx hb dX9_copyFrom_29 rfl (lv_at hl 0 rfl) ?_
          refine ok.getR hO h_a (by decide) k2_0 (by decide) (fun _ _ he hv kk => th_get (ci := 9) (C := RX9) (T := TX9) (N := 5) hx hb hts inX9 hown hK hH he rfl 0 (by decide) fl0 hv dX9_copyFrom_30 kk) ?_
          refine ok_alen hx hb hK hH hO h_a (by decide) k2_0 isA1 (by decide) dX9_copyFrom_33 ?_
          refine lv_icmp_gt (tgt := 97) hx hb dX9_copyFrom_34 (by decide) (fun c_5 => ?_) (fun c_5 => ?_)
          · replace c_5 := (I_lt (a := 128) (b := z + w) (show rng 128 from ⟨by decide, by decide⟩) ⟨by omega, by omega⟩).mp c_5
            exact th_vret hx hb hr hlocks hH hS ⟨hO, hF, by omega⟩ dX9_copyFrom_97
          · replace c_5 := mt (I_lt (a := 128) (b := z + w) (show rng 128 from ⟨by decide, by decide⟩) ⟨by omega, by omega⟩).mpr c_5
            refine lv_aload_n hx hb dX9_copyFrom_37 rfl (lv_at hl 1 rfl) ?_
            refine ok.getR hO h_b (by decide) k1_0 (by decide) (fun _ _ he hv kk => th_get (ci := 9) (C := RX9) (T := TX9) (N := 5) hx hb hts inX9 hown hK hH he rfl 0 (by decide) fl0 hv dX9_copyFrom_38 kk) ?_
            refine lv_iload_n hx hb dX9_copyFrom_41 rfl (lv_at hl 2 rfl) ?_
            refine lv_aload_n hx hb dX9_copyFrom_42 rfl (lv_at hl 0 rfl) ?_
            refine ok.getR hO h_a (by decide) k2_0 (by decide) (fun _ _ he hv kk => th_get (ci := 9) (C := RX9) (T := TX9) (N := 5) hx hb hts inX9 hown hK hH he rfl 0 (by decide) fl0 hv dX9_copyFrom_43 kk) ?_
            refine lv_iload_n hx hb dX9_copyFrom_46 rfl (lv_at hl 3 rfl) ?_
            refine lv_iload hx hb dX9_copyFrom_47 (lv_at hl 4 rfl) ?_
            refine ok_copy hx hb (by rw [hml]; exact hl.1.symm) hown fl1 fl2 fl3 fl4 hK hH hS h00 hO h_a (by decide) k2_0 isA1 h_b (by decide) k1_0 isA1 rx rz rw (by omega) (by omega) (by omega) (by omega) (by omega) (fun _ => el1) (Nat.le_of_ble_eq_true rfl) (Nat.le_of_ble_eq_true rfl) dX9_copyFrom_49 (fun σ_s_6 H locs hO hF9 hi9 hH hS => ?_)
            replace hF := hF.tu hF9 (by decide)
            have e_7 : gI σ_s_6 a 4 = a40 := (hi9 _ _).trans ea40
            refine lv_aload_n hx hb dX9_copyFrom_52 rfl (lv_at hl 1 rfl) ?_
            refine ok.getR hO h_b (by decide) k1_1 (by decide) (fun _ _ he hv kk => th_get (ci := 9) (C := RX9) (T := TX9) (N := 5) hx hb hts inX9 hown hK hH he rfl 1 (by decide) fl5 hv dX9_copyFrom_53 kk) ?_
            refine lv_iload_n hx hb dX9_copyFrom_56 rfl (lv_at hl 2 rfl) ?_
            refine lv_aload_n hx hb dX9_copyFrom_57 rfl (lv_at hl 0 rfl) ?_
            refine ok.getR hO h_a (by decide) k2_1 (by decide) (fun _ _ he hv kk => th_get (ci := 9) (C := RX9) (T := TX9) (N := 5) hx hb hts inX9 hown hK hH he rfl 1 (by decide) fl5 hv dX9_copyFrom_58 kk) ?_
            refine lv_iload_n hx hb dX9_copyFrom_61 rfl (lv_at hl 3 rfl) ?_
            refine lv_iload hx hb dX9_copyFrom_62 (lv_at hl 4 rfl) ?_
            refine ok_copy hx hb (by rw [hml]; exact hl.1.symm) hown fl1 fl2 fl3 fl4 hK hH hS h00 hO h_a (by decide) k2_1 isA1 h_b (by decide) k1_1 isA1 rx rz rw (by omega) (by omega) (by omega) (by omega) (by omega) (fun _ => el1) (Nat.le_of_ble_eq_true rfl) (Nat.le_of_ble_eq_true rfl) dX9_copyFrom_64 (fun σ_s_8 H locs hO hF9 hi9 hH hS => ?_)
            replace hF := hF.tu hF9 (by decide)
            have e_9 : gI σ_s_8 a 4 = a40 := (hi9 _ _).trans e_7
            refine lv_aload_n hx hb dX9_copyFrom_67 rfl (lv_at hl 1 rfl) ?_
            refine ok.getR hO h_b (by decide) k1_2 (by decide) (fun _ _ he hv kk => th_get (ci := 9) (C := RX9) (T := TX9) (N := 5) hx hb hts inX9 hown hK hH he rfl 2 (by decide) fl6 hv dX9_copyFrom_68 kk) ?_
            refine lv_iload_n hx hb dX9_copyFrom_71 rfl (lv_at hl 2 rfl) ?_
            refine lv_aload_n hx hb dX9_copyFrom_72 rfl (lv_at hl 0 rfl) ?_
            refine ok.getR hO h_a (by decide) k2_2 (by decide) (fun _ _ he hv kk => th_get (ci := 9) (C := RX9) (T := TX9) (N := 5) hx hb hts inX9 hown hK hH he rfl 2 (by decide) fl6 hv dX9_copyFrom_73 kk) ?_
            refine lv_iload_n hx hb dX9_copyFrom_76 rfl (lv_at hl 3 rfl) ?_
            refine lv_iload hx hb dX9_copyFrom_77 (lv_at hl 4 rfl) ?_
            refine ok_copy hx hb (by rw [hml]; exact hl.1.symm) hown fl1 fl2 fl3 fl4 hK hH hS h00 hO h_a (by decide) k2_2 isA1 h_b (by decide) k1_2 isA1 rx rz rw (by omega) (by omega) (by omega) (by omega) (by omega) (fun _ => el1) (Nat.le_of_ble_eq_true rfl) (Nat.le_of_ble_eq_true rfl) dX9_copyFrom_79 (fun σ_s_10 H locs hO hF9 hi9 hH hS => ?_)
            replace hF := hF.tu hF9 (by decide)
            have e_11 : gI σ_s_10 a 4 = a40 := (hi9 _ _).trans e_9
            refine lv_aload_n hx hb dX9_copyFrom_82 rfl (lv_at hl 1 rfl) ?_
            refine ok.getR hO h_b (by decide) k1_3 (by decide) (fun _ _ he hv kk => th_get (ci := 9) (C := RX9) (T := TX9) (N := 5) hx hb hts inX9 hown hK hH he rfl 3 (by decide) fl7 hv dX9_copyFrom_83 kk) ?_
            refine lv_iload_n hx hb dX9_copyFrom_86 rfl (lv_at hl 2 rfl) ?_
            refine lv_aload_n hx hb dX9_copyFrom_87 rfl (lv_at hl 0 rfl) ?_
            refine ok.getR hO h_a (by decide) k2_3 (by decide) (fun _ _ he hv kk => th_get (ci := 9) (C := RX9) (T := TX9) (N := 5) hx hb hts inX9 hown hK hH he rfl 3 (by decide) fl7 hv dX9_copyFrom_88 kk) ?_
            refine lv_iload_n hx hb dX9_copyFrom_91 rfl (lv_at hl 3 rfl) ?_
            refine lv_iload hx hb dX9_copyFrom_92 (lv_at hl 4 rfl) ?_
            refine ok_copy hx hb (by rw [hml]; exact hl.1.symm) hown fl1 fl2 fl3 fl4 hK hH hS h00 hO h_a (by decide) k2_3 isA1 h_b (by decide) k1_3 isA7 rx rz rw (by omega) (by omega) (by omega) (by omega) (by omega) (fun _ => el1) (Nat.le_of_ble_eq_true rfl) (Nat.le_of_ble_eq_true rfl) dX9_copyFrom_94 (fun σ_s_12 H locs hO hF9 hi9 hH hS => ?_)
            replace hF := hF.tu hF9 (by decide)
            have e_13 : gI σ_s_12 a 4 = a40 := (hi9 _ _).trans e_11
            exact th_vret hx hb hr hlocks hH hS ⟨hO, hF, by omega⟩ dX9_copyFrom_97
