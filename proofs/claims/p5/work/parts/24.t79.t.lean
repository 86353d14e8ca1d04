set_option maxHeartbeats 20000000 in
set_option maxRecDepth 100000 in
theorem n_readThing (n : Nat) : ∀ (l : Launch) (G : va_G) (y : Nat → ClassId) (b0 : Nat) (σ : th_M) (E : th_E) (hO : ok y E σ) (a : Nat) (h_a : kd E a = 13) (ky : Int) (rky : rng ky) (dp : Int) (rdp : rng dp) (l_dp : 0 ≤ dp) (u_dp : dp ≤ 8) (f2 : Nat → Int32) (ef2 : aF σ (ad E a 2) = f2) (Bf : Int → Int) (hsr : sr E σ a Bf) (T : tkT) (hSt : tkSt Bf T) (fc jt : Int) (hR0 : RSt σ a T fc jt) (hy0 : 0 ≤ gI σ a 17 ∧ gI σ a 17 ≤ gI σ a 13 ∧ gI σ a 13 ≤ gI σ a 11 ∧ gI σ a 11 ≤ 400) (hy1 : gI σ a 19 = 0) (hn : (8 - dp).toNat < n), Met l yX11_readThing wsX11_readThing ({ frames := 4*n+12, cells := 0, slots := 0, locals := (120*n+900) }) (th_P G y b0 σ [.ref a, .int (I ky), .int (I dp)]) (th_Qv G b0 (fun σ1 => ok y E σ1 ∧ fr [13] E σ σ1 ∧ fm [13, 14, 15, 16, 17, 18, 19, 20, 2, 22] E σ σ1 a ∧ ((((gI σ a 13 ≤ gI σ1 a 13 ∧ gI σ1 a 13 ≤ gI σ a 11 ∧ 0 ≤ gI σ1 a 17 ∧ gI σ1 a 17 ≤ gI σ1 a 13) ∧ pgo (gI σ1 a 19) (gI σ1 a 14) (gI σ a 13) (gI σ1 a 13)) ∧ gI σ a 22 ≤ gI σ1 a 22 ∧ (¬ gI σ1 a 19 = 0 ∨ rdT f2 (aF σ1 (ad E a 2)) (gI σ a 22) (gI σ1 a 22) ky dp)) ∧ ∃ c1 j1, RSt σ1 a T c1 j1 ∧ PTh T dp jt (gI σ a 22) c1 j1 (gI σ1 a 22)))) 0 0 (th_A b0) := by
  induction n with
  | zero => intro l G y b0 σ E hO a h_a ky rky dp rdp l_dp u_dp f2 ef2 Bf hsr T hSt fc jt hR0 hy0 hy1 hn; exact absurd hn (Nat.not_lt_zero _)
  | succ n ih =>
    intro l G y b0 σ E hO a h_a ky rky dp rdp l_dp u_dp f2 ef2 Bf hsr T hSt fc jt hR0 hy0 hy1 hn
    refine Met.ofW (cc := cX11_readThing) (maxL := 5) (ret := none) (by decide) rfl ?_
    intro p e s m args below meth c s₁ B hml hv
    obtain ⟨rfl, hH, hK⟩ := hv
    have hx := B.exec
    have hb := B.bytes
    have hr := B.returns
    have hts := atoms_spec (ws := wsX11_readThing) B.pre
    have hown : s.vm.findClass RX11 = some m.cls := findClass_of_methodNamed B.named
    have hlocks := B.notSynchronized
    have h00 : b0 ≤ s.heap.size := hH.1
    have hS : va_S (th_A b0) s.heap s.heap [] := va_S.rf
    have hF : fr [13] E σ σ := fr.rf
    have hM : fm [13, 14, 15, 16, 17, 18, 19, 20, 2, 22] E σ σ a := fm.rf
    have inX11 : ∀ w ∈ wsX110, w ∈ wsX11_readThing := by decide +kernel
    have fl0 := hts (.fieldLink RX11 136 "NestQueryModel" "token" "I") (by decide +kernel)
    have fl1 := hts (.fieldLink RX11 162 "NestQueryModel" "bad" "I") (by decide +kernel)
    have fl2 := hts (.fieldLink RX11 188 "NestQueryModel" "dataMany" "I") (by decide +kernel)
    have fl3 := hts (.fieldLink RX11 13 "NestQueryModel" "data" "[I") (by decide +kernel)
    have hl := lv_entry ([.ref a, .int (I ky), .int (I dp)]) (n := 5) (Nat.le_of_ble_eq_true rfl)
    rw [lg_entry_eq]
    generalize (lg_sl ([.ref a, .int (I ky), .int (I dp)]) ++ List.replicate (5 - (lg_sl ([.ref a, .int (I ky), .int (I dp)])).length) Slot.unset).toArray = ls at hl ⊢
    have hl : lv_has ls 5 [(0, .ref a), (1, .int (I ky)), (2, .int (I dp))] := hl
    obtain ⟨a110, ea110, ra110, la110, ua110⟩ := hO.gi h_a (by decide) k13_11
    obtain ⟨a130, ea130, ra130, la130, ua130⟩ := hO.gi h_a (by decide) k13_13
    obtain ⟨a140, ea140, ra140, la140, ua140⟩ := hO.gi h_a (by decide) k13_14
    obtain ⟨a170, ea170, ra170, la170, ua170⟩ := hO.gi h_a (by decide) k13_17
    obtain ⟨a190, ea190, ra190, la190, ua190⟩ := hO.gi h_a (by decide) k13_19
    obtain ⟨a220, ea220, ra220, la220, ua220⟩ := hO.gi h_a (by decide) k13_22
    have hV0 := hR0.1
    have h0_1 : fc = 0 := by omega
    try simp only [h0_1, ne_eq, not_true_eq_false, not_false_eq_true, false_implies, true_implies, true_and, and_true, eq_self, false_or, or_false, false_and, and_false] at hV0
    refine lv_aload_n hx hb dX11_readThing_0 rfl (lv_at hl 0 rfl) ?_
    refine ok.getIc hO h_a (by decide) k13_14 ea140 (fun _ _ he hv kk => th_get (ci := 11) (C := RX11) (T := TX11) (N := 66) hx hb hts inX11 hown hK hH he rfl 14 (by decide) fl0 hv dX11_readThing_1 kk) ?_
    have ht_2 := hR0.t1
    have ht_3 := hR0.t2
    refine lv_iconst (v := I 2) hx hb dX11_readThing_4 (by decide) ?_
    refine th_join (α := Int) (J := 48) (stk := fun x9 => [.int (I x9)]) (fun x9 σ9 H9 l9 ls9 => σ9 = σ ∧ th_H G b0 σ9 H9 ∧ va_S (th_A b0) s.heap H9 l9 ∧ lv_has ls9 5 [(0, .ref a), (1, .int (I ky)), (2, .int (I dp))] ∧ rng x9 ∧ ((x9 = 1 ∧ (tK T jt = 45 ∨ tK T jt = 257 ∨ tK T jt = 256 ∨ tK T jt = 91 ∨ tK T jt = 123)) ∨ (x9 = 0 ∧ ¬ (tK T jt = 45 ∨ tK T jt = 257 ∨ tK T jt = 256 ∨ tK T jt = 91 ∨ tK T jt = 123))) ∧ (x9 = 0 ∨ x9 = 1)) ?_ (fun jK_24 => ?_)
    · intro x9 σ_K_24 H locs ls hI9
      obtain ⟨w0q23, ex9⟩ : ∃ z, z = x9 := ⟨_, rfl⟩
      subst ex9
      obtain ⟨eK_24, hH, hS, hl, rw0q23, K_24_0, K_24_1⟩ := hI9
      replace eK_24 := eK_24.symm
      subst eK_24
      have hl : lv_has ls 5 [(0, .ref a), (1, .int (I ky)), (2, .int (I dp))] := hl
      have rw0q23 : rng w0q23 := rw0q23
      replace K_24_0 : (w0q23 = 1 ∧ (tK T jt = 45 ∨ tK T jt = 257 ∨ tK T jt = 256 ∨ tK T jt = 91 ∨ tK T jt = 123)) ∨ (w0q23 = 0 ∧ ¬ (tK T jt = 45 ∨ tK T jt = 257 ∨ tK T jt = 256 ∨ tK T jt = 91 ∨ tK T jt = 123)) := K_24_0
      replace K_24_1 : w0q23 = 0 ∨ w0q23 = 1 := K_24_1
      refine lv_istore_n (lv' := [(3, .int (I w0q23)), (0, .ref a), (1, .int (I ky)), (2, .int (I dp))]) hx hb dX11_readThing_48 rfl hl (by decide) rfl (fun ls hl => ?_)
      refine lv_iload_n hx hb dX11_readThing_49 rfl (lv_at hl 0 rfl) ?_
      refine lv_if_ne (tgt := 58) hx hb dX11_readThing_50 (by decide) (fun c_25 => ?_) (fun c_25 => ?_)
      · replace c_25 := mt (I_eq (a := w0q23) (b := 0) rw0q23 (show rng 0 from ⟨by decide, by decide⟩)).mpr c_25
        have hbg9 : beg (tK T jt) := by unfold beg; omega
        replace K_24_0 := hid.mk K_24_0
        refine lv_aload_n hx hb dX11_readThing_58 rfl (lv_at hl 1 rfl) ?_
        refine ok.getIc hO h_a (by decide) k13_19 ea190 (fun _ _ he hv kk => th_get (ci := 11) (C := RX11) (T := TX11) (N := 66) hx hb hts inX11 hown hK hH he rfl 19 (by decide) fl1 hv dX11_readThing_59 kk) ?_
        refine lv_if_ne (tgt := 85) hx hb dX11_readThing_62 (by decide) (fun c_26 => ?_) (fun c_26 => ?_)
        · replace c_26 := mt (I_eq (a := a190) (b := 0) ra190 (show rng 0 from ⟨by decide, by decide⟩)).mpr c_26
          exfalso; omega
        · replace c_26 := (I_eq (a := a190) (b := 0) ra190 (show rng 0 from ⟨by decide, by decide⟩)).mp c_26
          refine lv_aload_n hx hb dX11_readThing_65 rfl (lv_at hl 1 rfl) ?_
          refine ok.getIc hO h_a (by decide) k13_22 ea220 (fun _ _ he hv kk => th_get (ci := 11) (C := RX11) (T := TX11) (N := 66) hx hb hts inX11 hown hK hH he rfl 22 (by decide) fl2 hv dX11_readThing_66 kk) ?_
          refine lv_bipush (v := I 60) hx hb dX11_readThing_69 (by decide) ?_
          refine lv_icmp_eq (tgt := 80) hx hb dX11_readThing_71 (by decide) (fun c_27 => ?_) (fun c_27 => ?_)
          · replace c_27 := (I_eq (a := a220) (b := 60) ra220 (show rng 60 from ⟨by decide, by decide⟩)).mp c_27
            refine lv_aload_n hx hb dX11_readThing_80 rfl (lv_at hl 1 rfl) ?_
            refine lv_iconst (v := I 2) hx hb dX11_readThing_81 (by decide) ?_
            obtain ⟨_, hc_28⟩ := hO.cell h_a (by decide) (ci := 11) rfl
            refine th_callv (va_runV (As := [.int (I 2)]) (rest := []) ⟨hx, hb, hml, hown, hts⟩ (n_wrong l G y b0 σ E hO a h_a 2 (show rng 2 from (show rng 2 from ⟨by decide, by decide⟩)) (by omega) (by omega) Bf hsr T hSt fc jt hR0) (cwV 1 hts gX11_readThing_X11_wrong rfl rfl rfl (by decide +kernel) ⟨(by first | exact fr_q (by decide) | exact fr_r (by decide) | exact fr_s (by decide) | (simp only [headSpec]; omega) | omega | (dsimp only; omega)), (by first | exact fr_q (by decide) | exact fr_r (by decide) | exact fr_s (by decide) | (simp only [headSpec]; omega) | omega | (dsimp only; omega))⟩) (th_PV hK hH rfl hc_28) rfl rfl hl.1 rfl (lv_room (Nat.le_of_ble_eq_true rfl)) dX11_readThing_82 ⟨(by first | exact fr_q (by decide) | exact fr_r (by decide) | exact fr_s (by decide) | (simp only [headSpec]; omega) | omega | (dsimp only; omega)), (by first | exact fr_q (by decide) | exact fr_r (by decide) | exact fr_s (by decide) | (simp only [headSpec]; omega) | omega | (dsimp only; omega))⟩) hS (fun σ_s_30 H locs hw_29 hH hS => ?_)
            obtain ⟨hO9, hF9, hM9, hw_29⟩ := hw_29
            replace hM := hM.tu hM9 (by decide)
            replace hF := hF.tu hF9 (by decide)
            have e_31 : aF σ_s_30 (ad E a 2) = f2 := (hM9.a (by decide) (by decide)).trans ef2
            have e_32 : gI σ_s_30 a 11 = a110 := (hM9.i (by decide)).trans ea110
            have e_33 : gI σ_s_30 a 13 = a130 := (hM9.i (by decide)).trans ea130
            have e_34 : gI σ_s_30 a 14 = a140 := (hM9.i (by decide)).trans ea140
            have e_35 : gI σ_s_30 a 17 = a170 := (hM9.i (by decide)).trans ea170
            have e_36 : gI σ_s_30 a 22 = a220 := (hM9.i (by decide)).trans ea220
            replace hsr := hsr.mv hM9 (by decide) (by decide) (by decide) (by decide) (by decide)
            replace hO := hO9
            replace hw_29 : (¬ gI σ_s_30 a 19 = 0 ∧ (gI σ a 19 = 0 ∨ gI σ_s_30 a 19 = gI σ a 19)) ∧ ∃ c1 j1, RSt σ_s_30 a T c1 j1 ∧ (j1 = jt ∧ (fc = 0 → c1 = 2) ∧ (fc ≠ 0 → c1 = fc)) := hw_29
            replace hV0 := hid.mk hV0
            have hn_37 := hw_29.2
            replace hw_29 := hw_29.1
            obtain ⟨cc_38, jj_39, hR_40, hn_37⟩ := hn_37
            have hVhR_40 := hR_40.1
            have hj9 := hn_37.1.symm
            subst hj9
            have h0_41 : ¬ cc_38 = 0 := by omega
            try simp only [h0_41, ne_eq, not_true_eq_false, not_false_eq_true, false_implies, true_implies, true_and, and_true, eq_self, false_or, or_false, false_and, and_false] at hVhR_40
            try simp only [h0_1, h0_41, ne_eq, not_true_eq_false, not_false_eq_true, false_implies, true_implies, true_and, and_true, eq_self, false_or, or_false, false_and, and_false] at hn_37
            refine lv_aload_n hx hb dX11_readThing_85 rfl (lv_at hl 1 rfl) ?_
            refine ok.getI hO h_a (by decide) k13_19 (fun _ _ he hv kk => th_get (ci := 11) (C := RX11) (T := TX11) (N := 66) hx hb hts inX11 hown hK hH he rfl 19 (by decide) fl1 hv dX11_readThing_86 kk) (fun z_42 e_43 rz_42 lz_42 uz_42 => ?_)
            refine lv_if_eq (tgt := 93) hx hb dX11_readThing_89 (by decide) (fun c_44 => ?_) (fun c_44 => ?_)
            · replace c_44 := (I_eq (a := z_42) (b := 0) rz_42 (show rng 0 from ⟨by decide, by decide⟩)).mp c_44
              exfalso; omega
            · replace c_44 := mt (I_eq (a := z_42) (b := 0) rz_42 (show rng 0 from ⟨by decide, by decide⟩)).mpr c_44
              exact th_vret hx hb hr hlocks hH hS ⟨hO, hF, hM, ⟨⟨⟨⟨by omega, by omega, by omega, by omega⟩, pgo.of (by omega)⟩, by omega, Or.inl (by omega)⟩, cc_38, jt, hR_40, PTh.much hbg9 (by omega) (by omega) (by omega)⟩⟩ dX11_readThing_92
          · replace c_27 := mt (I_eq (a := a220) (b := 60) ra220 (show rng 60 from ⟨by decide, by decide⟩)).mpr c_27
            refine lv_iload_n hx hb dX11_readThing_74 rfl (lv_at hl 3 rfl) ?_
            refine lv_bipush (v := I 7) hx hb dX11_readThing_75 (by decide) ?_
            refine lv_icmp_le (tgt := 85) hx hb dX11_readThing_77 (by decide) (fun c_45 => ?_) (fun c_45 => ?_)
            · replace c_45 := (I_le (a := dp) (b := 7) rdp (show rng 7 from ⟨by decide, by decide⟩)).mp c_45
              refine lv_aload_n hx hb dX11_readThing_85 rfl (lv_at hl 1 rfl) ?_
              refine ok.getIc hO h_a (by decide) k13_19 ea190 (fun _ _ he hv kk => th_get (ci := 11) (C := RX11) (T := TX11) (N := 66) hx hb hts inX11 hown hK hH he rfl 19 (by decide) fl1 hv dX11_readThing_86 kk) ?_
              refine lv_if_eq (tgt := 93) hx hb dX11_readThing_89 (by decide) (fun c_46 => ?_) (fun c_46 => ?_)
              · replace c_46 := (I_eq (a := a190) (b := 0) ra190 (show rng 0 from ⟨by decide, by decide⟩)).mp c_46
                have hn8 : (8 : Int) - dp < n + 1 := by omega
                have hq71 : a220 < 60 := by omega
                have hq72 : dp ≤ 7 := by omega
                clear hn
                replace hV0 := hid.mk hV0
                refine lv_iconst (v := I 4) hx hb dX11_readThing_93 (by decide) ?_
                refine lv_aload_n hx hb dX11_readThing_94 rfl (lv_at hl 1 rfl) ?_
                refine ok.getIc hO h_a (by decide) k13_22 ea220 (fun _ _ he hv kk => th_get (ci := 11) (C := RX11) (T := TX11) (N := 66) hx hb hts inX11 hown hK hH he rfl 22 (by decide) fl2 hv dX11_readThing_95 kk) ?_
                refine lv_imul hx hb dX11_readThing_98 ?_
                refine nq_top (I_mul _ _) ?_
                refine lv_istore (lv' := [(4, .int (I (4 * a220))), (3, .int (I w0q23)), (0, .ref a), (1, .int (I ky)), (2, .int (I dp))]) hx hb dX11_readThing_99 hl (by decide) rfl (fun ls hl => ?_)
                refine lv_aload_n hx hb dX11_readThing_101 rfl (lv_at hl 2 rfl) ?_
                refine lv_dup hx hb dX11_readThing_102 rfl ?_
                refine ok.getIc hO h_a (by decide) k13_22 ea220 (fun _ _ he hv kk => th_get (ci := 11) (C := RX11) (T := TX11) (N := 66) hx hb hts inX11 hown hK hH he rfl 22 (by decide) fl2 hv dX11_readThing_103 kk) ?_
                refine lv_iconst (v := I 1) hx hb dX11_readThing_106 (by decide) ?_
                refine lv_iadd hx hb dX11_readThing_107 ?_
                refine nq_top (I_add _ _) ?_
                refine ok.putJ hO h_a k13_22 ⟨by omega, by omega⟩ (by omega) (by omega) (fun _ he hl9 kk => th_put (ci := 11) (v := .int (I (a220 + 1))) (ty := .int) (C := RX11) (T := TX11) (N := 66) hx hb hts inX11 tyX11 tyX11_ok nmX11 hown hK hH hS h00 he rfl 22 (by decide) fl2 rfl (by decide +kernel) rfl rfl hl9 dX11_readThing_108 kk) (fun σ_s_47 H locs hO hF9 hM9 hg9 ha9 hH hS => ?_)
                replace hM := hM.tu hM9 (by decide)
                replace hF := hF.tu hF9 (by decide)
                have e_48 : aF σ_s_47 (ad E a 2) = f2 := (hM9.a (by decide) (by decide)).trans ef2
                have e_49 : gI σ_s_47 a 11 = a110 := (hM9.i (by decide)).trans ea110
                have e_50 : gI σ_s_47 a 13 = a130 := (hM9.i (by decide)).trans ea130
                have e_51 : gI σ_s_47 a 14 = a140 := (hM9.i (by decide)).trans ea140
                have e_52 : gI σ_s_47 a 17 = a170 := (hM9.i (by decide)).trans ea170
                have e_53 : gI σ_s_47 a 19 = a190 := (hM9.i (by decide)).trans ea190
                replace hsr := hsr.mv hM9 (by decide) (by decide) (by decide) (by decide) (by decide)
                have hR_54 : RSt σ_s_47 a T fc jt := RSt.mv hM9 (by decide) (by decide) (by decide) (by decide) (by decide) (by decide) (by decide) hR0
                have e_55 := hg9
                refine lv_aload_n hx hb dX11_readThing_111 rfl (lv_at hl 2 rfl) ?_
                refine ok.getR hO h_a (by decide) k13_2 (by decide) (fun _ _ he hv kk => th_get (ci := 11) (C := RX11) (T := TX11) (N := 66) hx hb hts inX11 hown hK hH he rfl 2 (by decide) fl3 hv dX11_readThing_112 kk) ?_
                refine lv_iload hx hb dX11_readThing_115 (lv_at hl 0 rfl) ?_
                refine lv_iconst (v := I 2) hx hb dX11_readThing_117 (by decide) ?_
                refine lv_iadd hx hb dX11_readThing_118 ?_
                refine nq_top (I_add _ _) ?_
                refine lv_iload_n hx hb dX11_readThing_119 rfl (lv_at hl 3 rfl) ?_
                refine m_iast hx hb hK hH hS h00 hO h_a k13_2 isA1 (by decide) e_48 ⟨by omega, by omega⟩ (by omega) (by omega) rky el1 dX11_readThing_120 (fun σ_s_56 H locs hO hF9 hM9 ha9 hH hS => ?_)
                replace hM := hM.tu hM9 (by decide)
                replace hF := hF.tu hF9 (by decide)
                have e_57 : gI σ_s_56 a 11 = a110 := (hM9.i (by decide)).trans e_49
                have e_58 : gI σ_s_56 a 13 = a130 := (hM9.i (by decide)).trans e_50
                have e_59 : gI σ_s_56 a 14 = a140 := (hM9.i (by decide)).trans e_51
                have e_60 : gI σ_s_56 a 17 = a170 := (hM9.i (by decide)).trans e_52
                have e_61 : gI σ_s_56 a 19 = a190 := (hM9.i (by decide)).trans e_53
                have e_62 : gI σ_s_56 a 22 = a220 + 1 := (hM9.i (by decide)).trans e_55
                replace hsr := hsr.mv hM9 (by decide) (by decide) (by decide) (by decide) (by decide)
                have hR_63 : RSt σ_s_56 a T fc jt := RSt.mv hM9 (by decide) (by decide) (by decide) (by decide) (by decide) (by decide) (by decide) hR_54
                obtain ⟨g_64, dg_64⟩ : ∃ g9, g9 = upd f2 (4 * a220 + 2).toNat (I ky) := ⟨_, rfl⟩
                rw [← dg_64] at ha9
                have ef_65 := ha9
                refine lv_aload_n hx hb dX11_readThing_121 rfl (lv_at hl 2 rfl) ?_
                refine ok.getR hO h_a (by decide) k13_2 (by decide) (fun _ _ he hv kk => th_get (ci := 11) (C := RX11) (T := TX11) (N := 66) hx hb hts inX11 hown hK hH he rfl 2 (by decide) fl3 hv dX11_readThing_122 kk) ?_
                refine lv_iload hx hb dX11_readThing_125 (lv_at hl 0 rfl) ?_
                refine lv_iconst (v := I 1) hx hb dX11_readThing_127 (by decide) ?_
                refine lv_iadd hx hb dX11_readThing_128 ?_
                refine nq_top (I_add _ _) ?_
                refine lv_iconst (v := I 0) hx hb dX11_readThing_129 (by decide) ?_
                refine m_iast hx hb hK hH hS h00 hO h_a k13_2 isA1 (by decide) ef_65 ⟨by omega, by omega⟩ (by omega) (by omega) (show rng 0 from ⟨by decide, by decide⟩) el1 dX11_readThing_130 (fun σ_s_66 H locs hO hF9 hM9 ha9 hH hS => ?_)
                replace hM := hM.tu hM9 (by decide)
                replace hF := hF.tu hF9 (by decide)
                have e_67 : gI σ_s_66 a 11 = a110 := (hM9.i (by decide)).trans e_57
                have e_68 : gI σ_s_66 a 13 = a130 := (hM9.i (by decide)).trans e_58
                have e_69 : gI σ_s_66 a 14 = a140 := (hM9.i (by decide)).trans e_59
                have e_70 : gI σ_s_66 a 17 = a170 := (hM9.i (by decide)).trans e_60
                have e_71 : gI σ_s_66 a 19 = a190 := (hM9.i (by decide)).trans e_61
                have e_72 : gI σ_s_66 a 22 = a220 + 1 := (hM9.i (by decide)).trans e_62
                replace hsr := hsr.mv hM9 (by decide) (by decide) (by decide) (by decide) (by decide)
                have hR_73 : RSt σ_s_66 a T fc jt := RSt.mv hM9 (by decide) (by decide) (by decide) (by decide) (by decide) (by decide) (by decide) hR_63
                obtain ⟨g_74, dg_74⟩ : ∃ g9, g9 = upd g_64 (4 * a220 + 1).toNat (I 0) := ⟨_, rfl⟩
                rw [← dg_74] at ha9
                have ef_75 := ha9
                refine lv_aload_n hx hb dX11_readThing_131 rfl (lv_at hl 2 rfl) ?_
                refine ok.getIc hO h_a (by decide) k13_14 e_69 (fun _ _ he hv kk => th_get (ci := 11) (C := RX11) (T := TX11) (N := 66) hx hb hts inX11 hown hK hH he rfl 14 (by decide) fl0 hv dX11_readThing_132 kk) ?_
                have ht_76 := hR_73.t1
                have ht_77 := hR_73.t2
                refine lv_iconst (v := I 1) hx hb dX11_readThing_135 (by decide) ?_
                refine lv_icmp_ne (tgt := 163) hx hb dX11_readThing_136 (by decide) (fun c_78 => ?_) (fun c_78 => ?_)
                · replace c_78 := mt (I_eq (a := a140) (b := 1) ra140 (show rng 1 from ⟨by decide, by decide⟩)).mpr c_78
                  refine lv_aload_n hx hb dX11_readThing_163 rfl (lv_at hl 2 rfl) ?_
                  refine lv_bipush (v := I 91) hx hb dX11_readThing_164 (by decide) ?_
                  obtain ⟨_, hc_79⟩ := hO.cell h_a (by decide) (ci := 11) rfl
                  refine th_calli (va_runV (As := [.int (I 91)]) (rest := []) ⟨hx, hb, hml, hown, hts⟩ (n_isMarked l G y b0 σ_s_66 E hO a h_a 91 (show rng 91 from (show rng 91 from ⟨by decide, by decide⟩)) (by omega) (by omega) Bf hsr T hSt fc jt hR_73 (by omega)) (cwV 1 hts gX11_readThing_X11_isMarked rfl rfl rfl (by decide +kernel) ⟨(by first | exact fr_q (by decide) | exact fr_r (by decide) | exact fr_s (by decide) | (simp only [headSpec]; omega) | omega | (dsimp only; omega)), (by first | exact fr_q (by decide) | exact fr_r (by decide) | exact fr_s (by decide) | (simp only [headSpec]; omega) | omega | (dsimp only; omega))⟩) (th_PV hK hH rfl hc_79) rfl rfl hl.1 rfl (lv_room (Nat.le_of_ble_eq_true rfl)) dX11_readThing_166 ⟨(by first | exact fr_q (by decide) | exact fr_r (by decide) | exact fr_s (by decide) | (simp only [headSpec]; omega) | omega | (dsimp only; omega)), (by first | exact fr_q (by decide) | exact fr_r (by decide) | exact fr_s (by decide) | (simp only [headSpec]; omega) | omega | (dsimp only; omega))⟩) hS (fun z_82 σ_s_81 H locs rz_82 hw_80 hH hS => ?_)
                  obtain ⟨e9, bhw_80, hw_80⟩ := hw_80
                  replace e9 := e9.symm
                  subst e9
                  replace hw_80 : (z_82 = 1 ∧ fc = 0 ∧ tK T jt = 91) ∨ (z_82 = 0 ∧ (fc ≠ 0 ∨ tK T jt ≠ 91)) := hw_80
                  refine lv_if_eq (tgt := 192) hx hb dX11_readThing_169 (by decide) (fun c_83 => ?_) (fun c_83 => ?_)
                  · replace c_83 := (I_eq (a := z_82) (b := 0) rz_82 (show rng 0 from ⟨by decide, by decide⟩)).mp c_83
                    refine lv_aload_n hx hb dX11_readThing_192 rfl (lv_at hl 2 rfl) ?_
                    refine lv_bipush (v := I 123) hx hb dX11_readThing_193 (by decide) ?_
                    obtain ⟨_, hc_84⟩ := hO.cell h_a (by decide) (ci := 11) rfl
                    refine th_calli (va_runV (As := [.int (I 123)]) (rest := []) ⟨hx, hb, hml, hown, hts⟩ (n_isMarked l G y b0 σ_s_66 E hO a h_a 123 (show rng 123 from (show rng 123 from ⟨by decide, by decide⟩)) (by omega) (by omega) Bf hsr T hSt fc jt hR_73 (by omega)) (cwV 1 hts gX11_readThing_X11_isMarked rfl rfl rfl (by decide +kernel) ⟨(by first | exact fr_q (by decide) | exact fr_r (by decide) | exact fr_s (by decide) | (simp only [headSpec]; omega) | omega | (dsimp only; omega)), (by first | exact fr_q (by decide) | exact fr_r (by decide) | exact fr_s (by decide) | (simp only [headSpec]; omega) | omega | (dsimp only; omega))⟩) (th_PV hK hH rfl hc_84) rfl rfl hl.1 rfl (lv_room (Nat.le_of_ble_eq_true rfl)) dX11_readThing_195 ⟨(by first | exact fr_q (by decide) | exact fr_r (by decide) | exact fr_s (by decide) | (simp only [headSpec]; omega) | omega | (dsimp only; omega)), (by first | exact fr_q (by decide) | exact fr_r (by decide) | exact fr_s (by decide) | (simp only [headSpec]; omega) | omega | (dsimp only; omega))⟩) hS (fun z_87 σ_s_86 H locs rz_87 hw_85 hH hS => ?_)
                    obtain ⟨e9, bhw_85, hw_85⟩ := hw_85
                    replace e9 := e9.symm
                    subst e9
                    replace hw_85 : (z_87 = 1 ∧ fc = 0 ∧ tK T jt = 123) ∨ (z_87 = 0 ∧ (fc ≠ 0 ∨ tK T jt ≠ 123)) := hw_85
                    first | replace hw_80 := hw_80.resolve_right (by omega) | replace hw_80 := hw_80.resolve_left (by omega) | skip
                    refine lv_if_eq (tgt := 221) hx hb dX11_readThing_198 (by decide) (fun c_88 => ?_) (fun c_88 => ?_)
                    · replace c_88 := (I_eq (a := z_87) (b := 0) rz_87 (show rng 0 from ⟨by decide, by decide⟩)).mp c_88
                      have hk9 : tK T jt = 45 ∨ tK T jt = 257 := by
                        have h9 := hid.out K_24_0
                        omega
                      try clear hw_80
                      try clear hw_85
                      try clear K_24_0
                      try clear ht_2
                      try clear ht_3
                      try clear ht_76
                      try clear ht_77
                      refine lv_aload_n hx hb dX11_readThing_221 rfl (lv_at hl 2 rfl) ?_
                      refine ok.getR hO h_a (by decide) k13_2 (by decide) (fun _ _ he hv kk => th_get (ci := 11) (C := RX11) (T := TX11) (N := 66) hx hb hts inX11 hown hK hH he rfl 2 (by decide) fl3 hv dX11_readThing_222 kk) ?_
                      refine lv_iload hx hb dX11_readThing_225 (lv_at hl 0 rfl) ?_
                      refine lv_iconst (v := I 0) hx hb dX11_readThing_227 (by decide) ?_
                      refine m_iast hx hb hK hH hS h00 hO h_a k13_2 isA1 (by decide) ef_75 ⟨by omega, by omega⟩ (by omega) (by omega) (show rng 0 from ⟨by decide, by decide⟩) el1 dX11_readThing_228 (fun σ_s_89 H locs hO hF9 hM9 ha9 hH hS => ?_)
                      replace hM := hM.tu hM9 (by decide)
                      replace hF := hF.tu hF9 (by decide)
                      have e_90 : gI σ_s_89 a 11 = a110 := (hM9.i (by decide)).trans e_67
                      have e_91 : gI σ_s_89 a 13 = a130 := (hM9.i (by decide)).trans e_68
                      have e_92 : gI σ_s_89 a 14 = a140 := (hM9.i (by decide)).trans e_69
                      have e_93 : gI σ_s_89 a 17 = a170 := (hM9.i (by decide)).trans e_70
                      have e_94 : gI σ_s_89 a 19 = a190 := (hM9.i (by decide)).trans e_71
                      have e_95 : gI σ_s_89 a 22 = a220 + 1 := (hM9.i (by decide)).trans e_72
                      replace hsr := hsr.mv hM9 (by decide) (by decide) (by decide) (by decide) (by decide)
                      have hR_96 : RSt σ_s_89 a T fc jt := RSt.mv hM9 (by decide) (by decide) (by decide) (by decide) (by decide) (by decide) (by decide) hR_73
                      obtain ⟨g_97, dg_97⟩ : ∃ g9, g9 = upd g_74 (4 * a220).toNat (I 0) := ⟨_, rfl⟩
                      rw [← dg_97] at ha9
                      have ef_98 := ha9
                      refine lv_aload_n hx hb dX11_readThing_229 rfl (lv_at hl 2 rfl) ?_
                      refine ok.getR hO h_a (by decide) k13_2 (by decide) (fun _ _ he hv kk => th_get (ci := 11) (C := RX11) (T := TX11) (N := 66) hx hb hts inX11 hown hK hH he rfl 2 (by decide) fl3 hv dX11_readThing_230 kk) ?_
                      refine lv_iload hx hb dX11_readThing_233 (lv_at hl 0 rfl) ?_
                      refine lv_iconst (v := I 1) hx hb dX11_readThing_235 (by decide) ?_
                      refine lv_iadd hx hb dX11_readThing_236 ?_
                      refine nq_top (I_add _ _) ?_
                      refine lv_aload_n hx hb dX11_readThing_237 rfl (lv_at hl 2 rfl) ?_
                      obtain ⟨_, hc_99⟩ := hO.cell h_a (by decide) (ci := 11) rfl
                      refine th_calli (va_runV (As := []) (rest := [.int (I (4 * a220 + 1)), .ref (ad E a 2)]) ⟨hx, hb, hml, hown, hts⟩ (n_readNumber l G y b0 σ_s_89 E hO a h_a Bf hsr T hSt fc jt hR_96 (by omega)) (cwV 0 hts gX11_readThing_X11_readNumber rfl rfl rfl (by decide +kernel) ⟨(by first | exact fr_q (by decide) | exact fr_r (by decide) | exact fr_s (by decide) | (simp only [headSpec]; omega) | omega | (dsimp only; omega)), (by first | exact fr_q (by decide) | exact fr_r (by decide) | exact fr_s (by decide) | (simp only [headSpec]; omega) | omega | (dsimp only; omega))⟩) (th_PV hK hH rfl hc_99) rfl rfl hl.1 rfl (lv_room (Nat.le_of_ble_eq_true rfl)) dX11_readThing_238 ⟨(by first | exact fr_q (by decide) | exact fr_r (by decide) | exact fr_s (by decide) | (simp only [headSpec]; omega) | omega | (dsimp only; omega)), (by first | exact fr_q (by decide) | exact fr_r (by decide) | exact fr_s (by decide) | (simp only [headSpec]; omega) | omega | (dsimp only; omega))⟩) hS (fun z_102 σ_s_101 H locs rz_102 hw_100 hH hS => ?_)
                      obtain ⟨hO9, hF9, hM9, hw_100⟩ := hw_100
                      replace hM := hM.tu hM9 (by decide)
                      replace hF := hF.tu hF9 (by decide)
                      have e_103 : gI σ_s_101 a 11 = a110 := (hM9.i (by decide)).trans e_90
                      have e_104 : gI σ_s_101 a 22 = a220 + 1 := (hM9.i (by decide)).trans e_95
                      have e_105 : aF σ_s_101 (ad E a 2) = g_97 := (hM9.a (by decide) (by decide)).trans ef_98
                      replace hsr := hsr.mv hM9 (by decide) (by decide) (by decide) (by decide) (by decide)
                      replace hO := hO9
                      replace hw_100 : ((gI σ_s_89 a 13 ≤ gI σ_s_101 a 13 ∧ gI σ_s_101 a 13 ≤ gI σ_s_89 a 11 ∧ 0 ≤ gI σ_s_101 a 17 ∧ gI σ_s_101 a 17 ≤ gI σ_s_101 a 13) ∧ pgo (gI σ_s_101 a 19) (gI σ_s_101 a 14) (gI σ_s_89 a 13) (gI σ_s_101 a 13) ∧ bdo (gI σ_s_89 a 19) (gI σ_s_101 a 19)) ∧ ∃ c1 j1, RSt σ_s_101 a T c1 j1 ∧ ((fc ≠ 0 → c1 = fc ∧ j1 = jt) ∧ (fc = 0 → nuR T jt c1 j1)) := hw_100
                      have hn_106 := hw_100.2
                      replace hw_100 := hw_100.1
                      obtain ⟨cc_107, jj_108, hR_109, hn_106⟩ := hn_106
                      have hb_110 := hw_100.1
                      replace hw_100 := hid.mk hw_100
                      replace hn_106 := hid.mk hn_106
                      obtain ⟨z_111, e_112, rz_111, lz_111, uz_111⟩ := hO.gi h_a (by decide) k13_13
                      obtain ⟨z_113, e_114, rz_113, lz_113, uz_113⟩ := hO.gi h_a (by decide) k13_14
                      obtain ⟨z_115, e_116, rz_115, lz_115, uz_115⟩ := hO.gi h_a (by decide) k13_17
                      obtain ⟨z_117, e_118, rz_117, lz_117, uz_117⟩ := hO.gi h_a (by decide) k13_19
                      refine m_iast hx hb hK hH hS h00 hO h_a k13_2 isA1 (by decide) e_105 ⟨by omega, by omega⟩ (by omega) (by omega) rz_102 el1 dX11_readThing_241 (fun σ_s_119 H locs hO hF9 hM9 ha9 hH hS => ?_)
                      replace hM := hM.tu hM9 (by decide)
                      replace hF := hF.tu hF9 (by decide)
                      have e_120 : gI σ_s_119 a 11 = a110 := (hM9.i (by decide)).trans e_103
                      have e_121 : gI σ_s_119 a 22 = a220 + 1 := (hM9.i (by decide)).trans e_104
                      have e_122 : gI σ_s_119 a 13 = z_111 := (hM9.i (by decide)).trans e_112
                      have e_123 : gI σ_s_119 a 14 = z_113 := (hM9.i (by decide)).trans e_114
                      have e_124 : gI σ_s_119 a 17 = z_115 := (hM9.i (by decide)).trans e_116
                      have e_125 : gI σ_s_119 a 19 = z_117 := (hM9.i (by decide)).trans e_118
                      replace hsr := hsr.mv hM9 (by decide) (by decide) (by decide) (by decide) (by decide)
                      have hR_126 : RSt σ_s_119 a T cc_107 jj_108 := RSt.mv hM9 (by decide) (by decide) (by decide) (by decide) (by decide) (by decide) (by decide) hR_109
                      obtain ⟨g_127, dg_127⟩ : ∃ g9, g9 = upd g_97 (4 * a220 + 1).toNat (I z_102) := ⟨_, rfl⟩
                      rw [← dg_127] at ha9
                      have ef_128 := ha9
                      refine lv_aload_n hx hb dX11_readThing_242 rfl (lv_at hl 2 rfl) ?_
                      refine ok.getR hO h_a (by decide) k13_2 (by decide) (fun _ _ he hv kk => th_get (ci := 11) (C := RX11) (T := TX11) (N := 66) hx hb hts inX11 hown hK hH he rfl 2 (by decide) fl3 hv dX11_readThing_243 kk) ?_
                      refine lv_iload hx hb dX11_readThing_246 (lv_at hl 0 rfl) ?_
                      refine lv_iconst (v := I 3) hx hb dX11_readThing_248 (by decide) ?_
                      refine lv_iadd hx hb dX11_readThing_249 ?_
                      refine nq_top (I_add _ _) ?_
                      refine lv_aload_n hx hb dX11_readThing_250 rfl (lv_at hl 2 rfl) ?_
                      refine ok.getIc hO h_a (by decide) k13_22 e_121 (fun _ _ he hv kk => th_get (ci := 11) (C := RX11) (T := TX11) (N := 66) hx hb hts inX11 hown hK hH he rfl 22 (by decide) fl2 hv dX11_readThing_251 kk) ?_
                      refine lv_iload hx hb dX11_readThing_254 (lv_at hl 0 rfl) ?_
                      refine lv_iconst (v := I 4) hx hb dX11_readThing_256 (by decide) ?_
                      refine lv_idiv hx hb dX11_readThing_257 (by decide) ?_
                      refine th_div (n := 4) ⟨by omega, by omega⟩ (by omega) (by decide) (fun z_129 rz_129 hz_129 => ?_)
                      refine lv_isub hx hb dX11_readThing_258 ?_
                      refine th_subo (fun z_130 rz_130 hz_130 => ?_)
                      replace hz_130 : z_130 = (a220 + 1) - z_129 := by omega
                      refine m_iast hx hb hK hH hS h00 hO h_a k13_2 isA1 (by decide) ef_128 ⟨by omega, by omega⟩ (by omega) (by omega) rz_130 el1 dX11_readThing_259 (fun σ_s_131 H locs hO hF9 hM9 ha9 hH hS => ?_)
                      replace hM := hM.tu hM9 (by decide)
                      replace hF := hF.tu hF9 (by decide)
                      have e_132 : gI σ_s_131 a 11 = a110 := (hM9.i (by decide)).trans e_120
                      have e_133 : gI σ_s_131 a 22 = a220 + 1 := (hM9.i (by decide)).trans e_121
                      have e_134 : gI σ_s_131 a 13 = z_111 := (hM9.i (by decide)).trans e_122
                      have e_135 : gI σ_s_131 a 14 = z_113 := (hM9.i (by decide)).trans e_123
                      have e_136 : gI σ_s_131 a 17 = z_115 := (hM9.i (by decide)).trans e_124
                      have e_137 : gI σ_s_131 a 19 = z_117 := (hM9.i (by decide)).trans e_125
                      replace hsr := hsr.mv hM9 (by decide) (by decide) (by decide) (by decide) (by decide)
                      have hR_138 : RSt σ_s_131 a T cc_107 jj_108 := RSt.mv hM9 (by decide) (by decide) (by decide) (by decide) (by decide) (by decide) (by decide) hR_126
                      obtain ⟨g_139, dg_139⟩ : ∃ g9, g9 = upd g_127 (4 * a220 + 3).toNat (I z_130) := ⟨_, rfl⟩
                      rw [← dg_139] at ha9
                      have ef_140 := ha9
                      exact th_vret hx hb hr hlocks hH hS ⟨hO, hF, hM, ⟨⟨⟨⟨by omega, by omega, by omega, by omega⟩, (pgo.up (show pgo (gI σ_s_101 a 19) (gI σ_s_101 a 14) (gI σ_s_89 a 13) (gI σ_s_101 a 13) from hw_100.2.1) (e_137.trans e_118.symm) (e_135.trans e_114.symm) (by omega) (e_134.trans e_112.symm))⟩, by omega, by rw [show gI σ a 22 = a220 from ea220, show gI σ_s_131 a 22 = a220 + 1 from e_133, show aF σ_s_131 (ad E a 2) = g_139 from ef_140]; exact Or.inr (rdT_leaf dg_64 dg_74 dg_97 dg_127 dg_139 rky (show rng z_130 from rz_130) (by omega) hq72 (by omega))⟩, cc_107, jj_108, hR_138, PIt.numC (by omega) (by omega) ((hid.out hn_106).2 (by omega)) (by omega)⟩⟩ dX11_readThing_260
                    · replace c_88 := mt (I_eq (a := z_87) (b := 0) rz_87 (show rng 0 from ⟨by decide, by decide⟩)).mpr c_88
                      have hk9 : tK T jt = 123 := by
                        have h9 := hid.out K_24_0
                        omega
                      try clear hw_80
                      try clear hw_85
                      try clear K_24_0
                      try clear ht_2
                      try clear ht_3
                      try clear ht_76
                      try clear ht_77
                      refine lv_aload_n hx hb dX11_readThing_201 rfl (lv_at hl 2 rfl) ?_
                      refine ok.getR hO h_a (by decide) k13_2 (by decide) (fun _ _ he hv kk => th_get (ci := 11) (C := RX11) (T := TX11) (N := 66) hx hb hts inX11 hown hK hH he rfl 2 (by decide) fl3 hv dX11_readThing_202 kk) ?_
                      refine lv_iload hx hb dX11_readThing_205 (lv_at hl 0 rfl) ?_
                      refine lv_iconst (v := I 3) hx hb dX11_readThing_207 (by decide) ?_
                      refine m_iast hx hb hK hH hS h00 hO h_a k13_2 isA1 (by decide) ef_75 ⟨by omega, by omega⟩ (by omega) (by omega) (show rng 3 from ⟨by decide, by decide⟩) el1 dX11_readThing_208 (fun σ_s_141 H locs hO hF9 hM9 ha9 hH hS => ?_)
                      replace hM := hM.tu hM9 (by decide)
                      replace hF := hF.tu hF9 (by decide)
                      have e_142 : gI σ_s_141 a 11 = a110 := (hM9.i (by decide)).trans e_67
                      have e_143 : gI σ_s_141 a 13 = a130 := (hM9.i (by decide)).trans e_68
                      have e_144 : gI σ_s_141 a 14 = a140 := (hM9.i (by decide)).trans e_69
                      have e_145 : gI σ_s_141 a 17 = a170 := (hM9.i (by decide)).trans e_70
                      have e_146 : gI σ_s_141 a 19 = a190 := (hM9.i (by decide)).trans e_71
                      have e_147 : gI σ_s_141 a 22 = a220 + 1 := (hM9.i (by decide)).trans e_72
                      replace hsr := hsr.mv hM9 (by decide) (by decide) (by decide) (by decide) (by decide)
                      have hR_148 : RSt σ_s_141 a T fc jt := RSt.mv hM9 (by decide) (by decide) (by decide) (by decide) (by decide) (by decide) (by decide) hR_73
                      obtain ⟨g_149, dg_149⟩ : ∃ g9, g9 = upd g_74 (4 * a220).toNat (I 3) := ⟨_, rfl⟩
                      rw [← dg_149] at ha9
                      have ef_150 := ha9
                      refine lv_aload_n hx hb dX11_readThing_209 rfl (lv_at hl 2 rfl) ?_
                      refine lv_iload hx hb dX11_readThing_210 (lv_at hl 0 rfl) ?_
                      refine lv_iload_n hx hb dX11_readThing_212 rfl (lv_at hl 4 rfl) ?_
                      refine lv_bipush (v := I 125) hx hb dX11_readThing_213 (by decide) ?_
                      obtain ⟨_, hc_151⟩ := hO.cell h_a (by decide) (ci := 11) rfl
                      refine th_callv (va_runV (As := [.int (I (4 * a220)), .int (I dp), .int (I 125)]) (rest := []) ⟨hx, hb, hml, hown, hts⟩ (n_readMany n ih l G y b0 σ_s_141 E hO a h_a (4 * a220) (show rng (4 * a220) from ⟨by omega, by omega⟩) (by omega) (by omega) dp (show rng dp from rdp) (by omega) (by omega) 125 (show rng 125 from (show rng 125 from ⟨by decide, by decide⟩)) g_149 ef_150 Bf hsr T hSt fc jt hR_148 2 (by omega) (by omega) (by omega) (by omega) (by omega) ((Or.inl ⟨(by rw [dg_149]; exact mK_upd (by omega) (by omega) ⟨by decide, by decide⟩), by omega, by omega, by omega⟩))) (cwV 3 hts gX11_readThing_X11_readMany rfl rfl rfl (by decide +kernel) ⟨(by first | exact fr_q (by decide) | exact fr_r (by decide) | exact fr_s (by decide) | (simp only [headSpec]; omega) | omega | (dsimp only; omega)), (by first | exact fr_q (by decide) | exact fr_r (by decide) | exact fr_s (by decide) | (simp only [headSpec]; omega) | omega | (dsimp only; omega))⟩) (th_PV hK hH rfl hc_151) rfl rfl hl.1 rfl (lv_room (Nat.le_of_ble_eq_true rfl)) dX11_readThing_215 ⟨(by first | exact fr_q (by decide) | exact fr_r (by decide) | exact fr_s (by decide) | (simp only [headSpec]; omega) | omega | (dsimp only; omega)), (by first | exact fr_q (by decide) | exact fr_r (by decide) | exact fr_s (by decide) | (simp only [headSpec]; omega) | omega | (dsimp only; omega))⟩) hS (fun σ_s_153 H locs hw_152 hH hS => ?_)
                      obtain ⟨hO9, hF9, hM9, hw_152⟩ := hw_152
                      replace hM := hM.tu hM9 (by decide)
                      replace hF := hF.tu hF9 (by decide)
                      have e_154 : gI σ_s_153 a 11 = a110 := (hM9.i (by decide)).trans e_142
                      replace hsr := hsr.mv hM9 (by decide) (by decide) (by decide) (by decide) (by decide)
                      replace hO := hO9
                      generalize ef_156 : aF σ_s_153 (ad E a 2) = g_155 at hw_152
                      replace hw_152 : (((gI σ_s_141 a 13 ≤ gI σ_s_153 a 13 ∧ gI σ_s_153 a 13 ≤ gI σ_s_141 a 11 ∧ 0 ≤ gI σ_s_153 a 17 ∧ gI σ_s_153 a 17 ≤ gI σ_s_153 a 13) ∧ pgo (gI σ_s_153 a 19) (gI σ_s_153 a 14) (gI σ_s_141 a 13) (gI σ_s_153 a 13)) ∧ gI σ_s_141 a 22 ≤ gI σ_s_153 a 22 ∧ (¬ gI σ_s_153 a 19 = 0 ∨ rdF g_149 g_155 ((4 * a220) / 4) (gI σ_s_153 a 22) dp)) ∧ ∃ c1 j1, RSt σ_s_153 a T c1 j1 ∧ PTh T dp jt ((4 * a220) / 4) c1 j1 (gI σ_s_153 a 22) := hw_152
                      have hn_157 := hw_152.2
                      replace hw_152 := hw_152.1
                      obtain ⟨cc_158, jj_159, hR_160, hn_157⟩ := hn_157
                      have hb_161 := hw_152.1.1
                      have hb_162 := hw_152.2.1
                      replace hw_152 := hid.mk hw_152
                      replace hn_157 := hid.mk hn_157
                      obtain ⟨z_163, e_164, rz_163, lz_163, uz_163⟩ := hO.gi h_a (by decide) k13_13
                      obtain ⟨z_165, e_166, rz_165, lz_165, uz_165⟩ := hO.gi h_a (by decide) k13_14
                      obtain ⟨z_167, e_168, rz_167, lz_167, uz_167⟩ := hO.gi h_a (by decide) k13_17
                      obtain ⟨z_169, e_170, rz_169, lz_169, uz_169⟩ := hO.gi h_a (by decide) k13_19
                      obtain ⟨z_171, e_172, rz_171, lz_171, uz_171⟩ := hO.gi h_a (by decide) k13_22
                      refine lv_goto (tgt := 242) hx hb dX11_readThing_218 (by decide) ?_
                      refine lv_aload_n hx hb dX11_readThing_242 rfl (lv_at hl 2 rfl) ?_
                      refine ok.getR hO h_a (by decide) k13_2 (by decide) (fun _ _ he hv kk => th_get (ci := 11) (C := RX11) (T := TX11) (N := 66) hx hb hts inX11 hown hK hH he rfl 2 (by decide) fl3 hv dX11_readThing_243 kk) ?_
                      refine lv_iload hx hb dX11_readThing_246 (lv_at hl 0 rfl) ?_
                      refine lv_iconst (v := I 3) hx hb dX11_readThing_248 (by decide) ?_
                      refine lv_iadd hx hb dX11_readThing_249 ?_
                      refine nq_top (I_add _ _) ?_
                      refine lv_aload_n hx hb dX11_readThing_250 rfl (lv_at hl 2 rfl) ?_
                      refine ok.getIc hO h_a (by decide) k13_22 e_172 (fun _ _ he hv kk => th_get (ci := 11) (C := RX11) (T := TX11) (N := 66) hx hb hts inX11 hown hK hH he rfl 22 (by decide) fl2 hv dX11_readThing_251 kk) ?_
                      refine lv_iload hx hb dX11_readThing_254 (lv_at hl 0 rfl) ?_
                      refine lv_iconst (v := I 4) hx hb dX11_readThing_256 (by decide) ?_
                      refine lv_idiv hx hb dX11_readThing_257 (by decide) ?_
                      refine th_div (n := 4) ⟨by omega, by omega⟩ (by omega) (by decide) (fun z_173 rz_173 hz_173 => ?_)
                      refine lv_isub hx hb dX11_readThing_258 ?_
                      refine th_subo (fun z_174 rz_174 hz_174 => ?_)
                      replace hz_174 : z_174 = z_171 - z_173 := by omega
                      refine m_iast hx hb hK hH hS h00 hO h_a k13_2 isA1 (by decide) ef_156 ⟨by omega, by omega⟩ (by omega) (by omega) rz_174 el1 dX11_readThing_259 (fun σ_s_175 H locs hO hF9 hM9 ha9 hH hS => ?_)
                      replace hM := hM.tu hM9 (by decide)
                      replace hF := hF.tu hF9 (by decide)
                      have e_176 : gI σ_s_175 a 11 = a110 := (hM9.i (by decide)).trans e_154
                      have e_177 : gI σ_s_175 a 13 = z_163 := (hM9.i (by decide)).trans e_164
                      have e_178 : gI σ_s_175 a 14 = z_165 := (hM9.i (by decide)).trans e_166
                      have e_179 : gI σ_s_175 a 17 = z_167 := (hM9.i (by decide)).trans e_168
                      have e_180 : gI σ_s_175 a 19 = z_169 := (hM9.i (by decide)).trans e_170
                      have e_181 : gI σ_s_175 a 22 = z_171 := (hM9.i (by decide)).trans e_172
                      replace hsr := hsr.mv hM9 (by decide) (by decide) (by decide) (by decide) (by decide)
                      have hR_182 : RSt σ_s_175 a T cc_158 jj_159 := RSt.mv hM9 (by decide) (by decide) (by decide) (by decide) (by decide) (by decide) (by decide) hR_160
                      obtain ⟨g_183, dg_183⟩ : ∃ g9, g9 = upd g_155 (4 * a220 + 3).toNat (I z_174) := ⟨_, rfl⟩
                      rw [← dg_183] at ha9
                      have ef_184 := ha9
                      exact th_vret hx hb hr hlocks hH hS ⟨hO, hF, hM, ⟨⟨⟨⟨by omega, by omega, by omega, by omega⟩, (pgo.up (show pgo (gI σ_s_153 a 19) (gI σ_s_153 a 14) (gI σ_s_141 a 13) (gI σ_s_153 a 13) from hw_152.1.2) (e_180.trans e_170.symm) (e_178.trans e_166.symm) (by omega) (e_177.trans e_164.symm))⟩, by omega, hw_152.2.2.elim (fun h9 => Or.inl (by rw [(e_180.trans e_170.symm)]; exact h9)) (fun h9 => Or.inr (by rw [show gI σ a 22 = a220 from ea220, (e_181.trans e_172.symm), show aF σ_s_175 (ad E a 2) = g_183 from ef_184]; exact rdT_many h9 (by omega) dg_64 dg_74 dg_149 dg_183 rky (show rng z_174 from rz_174) (by omega) hq72 (by omega)))⟩, cc_158, jj_159, hR_182, (by have h9 := hn_157; rw [show (4 * a220) / 4 = gI σ a 22 by omega, show gI σ_s_153 a 22 = gI σ_s_175 a 22 by omega] at h9; exact h9)⟩⟩ dX11_readThing_260
                  · replace c_83 := mt (I_eq (a := z_82) (b := 0) rz_82 (show rng 0 from ⟨by decide, by decide⟩)).mpr c_83
                    have hk9 : tK T jt = 91 := by
                      have h9 := hid.out K_24_0
                      omega
                    try clear hw_80
                    try clear K_24_0
                    try clear ht_2
                    try clear ht_3
                    try clear ht_76
                    try clear ht_77
                    refine lv_aload_n hx hb dX11_readThing_172 rfl (lv_at hl 2 rfl) ?_
                    refine ok.getR hO h_a (by decide) k13_2 (by decide) (fun _ _ he hv kk => th_get (ci := 11) (C := RX11) (T := TX11) (N := 66) hx hb hts inX11 hown hK hH he rfl 2 (by decide) fl3 hv dX11_readThing_173 kk) ?_
                    refine lv_iload hx hb dX11_readThing_176 (lv_at hl 0 rfl) ?_
                    refine lv_iconst (v := I 2) hx hb dX11_readThing_178 (by decide) ?_
                    refine m_iast hx hb hK hH hS h00 hO h_a k13_2 isA1 (by decide) ef_75 ⟨by omega, by omega⟩ (by omega) (by omega) (show rng 2 from ⟨by decide, by decide⟩) el1 dX11_readThing_179 (fun σ_s_185 H locs hO hF9 hM9 ha9 hH hS => ?_)
                    replace hM := hM.tu hM9 (by decide)
                    replace hF := hF.tu hF9 (by decide)
                    have e_186 : gI σ_s_185 a 11 = a110 := (hM9.i (by decide)).trans e_67
                    have e_187 : gI σ_s_185 a 13 = a130 := (hM9.i (by decide)).trans e_68
                    have e_188 : gI σ_s_185 a 14 = a140 := (hM9.i (by decide)).trans e_69
                    have e_189 : gI σ_s_185 a 17 = a170 := (hM9.i (by decide)).trans e_70
                    have e_190 : gI σ_s_185 a 19 = a190 := (hM9.i (by decide)).trans e_71
                    have e_191 : gI σ_s_185 a 22 = a220 + 1 := (hM9.i (by decide)).trans e_72
                    replace hsr := hsr.mv hM9 (by decide) (by decide) (by decide) (by decide) (by decide)
                    have hR_192 : RSt σ_s_185 a T fc jt := RSt.mv hM9 (by decide) (by decide) (by decide) (by decide) (by decide) (by decide) (by decide) hR_73
                    obtain ⟨g_193, dg_193⟩ : ∃ g9, g9 = upd g_74 (4 * a220).toNat (I 2) := ⟨_, rfl⟩
                    rw [← dg_193] at ha9
                    have ef_194 := ha9
                    refine lv_aload_n hx hb dX11_readThing_180 rfl (lv_at hl 2 rfl) ?_
                    refine lv_iload hx hb dX11_readThing_181 (lv_at hl 0 rfl) ?_
                    refine lv_iload_n hx hb dX11_readThing_183 rfl (lv_at hl 4 rfl) ?_
                    refine lv_bipush (v := I 93) hx hb dX11_readThing_184 (by decide) ?_
                    obtain ⟨_, hc_195⟩ := hO.cell h_a (by decide) (ci := 11) rfl
                    refine th_callv (va_runV (As := [.int (I (4 * a220)), .int (I dp), .int (I 93)]) (rest := []) ⟨hx, hb, hml, hown, hts⟩ (n_readMany n ih l G y b0 σ_s_185 E hO a h_a (4 * a220) (show rng (4 * a220) from ⟨by omega, by omega⟩) (by omega) (by omega) dp (show rng dp from rdp) (by omega) (by omega) 93 (show rng 93 from (show rng 93 from ⟨by decide, by decide⟩)) g_193 ef_194 Bf hsr T hSt fc jt hR_192 1 (by omega) (by omega) (by omega) (by omega) (by omega) ((Or.inr ⟨(by rw [dg_193]; exact mK_upd (by omega) (by omega) ⟨by decide, by decide⟩), by omega, by omega, by omega⟩))) (cwV 3 hts gX11_readThing_X11_readMany rfl rfl rfl (by decide +kernel) ⟨(by first | exact fr_q (by decide) | exact fr_r (by decide) | exact fr_s (by decide) | (simp only [headSpec]; omega) | omega | (dsimp only; omega)), (by first | exact fr_q (by decide) | exact fr_r (by decide) | exact fr_s (by decide) | (simp only [headSpec]; omega) | omega | (dsimp only; omega))⟩) (th_PV hK hH rfl hc_195) rfl rfl hl.1 rfl (lv_room (Nat.le_of_ble_eq_true rfl)) dX11_readThing_186 ⟨(by first | exact fr_q (by decide) | exact fr_r (by decide) | exact fr_s (by decide) | (simp only [headSpec]; omega) | omega | (dsimp only; omega)), (by first | exact fr_q (by decide) | exact fr_r (by decide) | exact fr_s (by decide) | (simp only [headSpec]; omega) | omega | (dsimp only; omega))⟩) hS (fun σ_s_197 H locs hw_196 hH hS => ?_)
                    obtain ⟨hO9, hF9, hM9, hw_196⟩ := hw_196
                    replace hM := hM.tu hM9 (by decide)
                    replace hF := hF.tu hF9 (by decide)
                    have e_198 : gI σ_s_197 a 11 = a110 := (hM9.i (by decide)).trans e_186
                    replace hsr := hsr.mv hM9 (by decide) (by decide) (by decide) (by decide) (by decide)
                    replace hO := hO9
                    generalize ef_200 : aF σ_s_197 (ad E a 2) = g_199 at hw_196
                    replace hw_196 : (((gI σ_s_185 a 13 ≤ gI σ_s_197 a 13 ∧ gI σ_s_197 a 13 ≤ gI σ_s_185 a 11 ∧ 0 ≤ gI σ_s_197 a 17 ∧ gI σ_s_197 a 17 ≤ gI σ_s_197 a 13) ∧ pgo (gI σ_s_197 a 19) (gI σ_s_197 a 14) (gI σ_s_185 a 13) (gI σ_s_197 a 13)) ∧ gI σ_s_185 a 22 ≤ gI σ_s_197 a 22 ∧ (¬ gI σ_s_197 a 19 = 0 ∨ rdF g_193 g_199 ((4 * a220) / 4) (gI σ_s_197 a 22) dp)) ∧ ∃ c1 j1, RSt σ_s_197 a T c1 j1 ∧ PTh T dp jt ((4 * a220) / 4) c1 j1 (gI σ_s_197 a 22) := hw_196
                    have hn_201 := hw_196.2
                    replace hw_196 := hw_196.1
                    obtain ⟨cc_202, jj_203, hR_204, hn_201⟩ := hn_201
                    have hb_205 := hw_196.1.1
                    have hb_206 := hw_196.2.1
                    replace hw_196 := hid.mk hw_196
                    replace hn_201 := hid.mk hn_201
                    obtain ⟨z_207, e_208, rz_207, lz_207, uz_207⟩ := hO.gi h_a (by decide) k13_13
                    obtain ⟨z_209, e_210, rz_209, lz_209, uz_209⟩ := hO.gi h_a (by decide) k13_14
                    obtain ⟨z_211, e_212, rz_211, lz_211, uz_211⟩ := hO.gi h_a (by decide) k13_17
                    obtain ⟨z_213, e_214, rz_213, lz_213, uz_213⟩ := hO.gi h_a (by decide) k13_19
                    obtain ⟨z_215, e_216, rz_215, lz_215, uz_215⟩ := hO.gi h_a (by decide) k13_22
                    refine lv_goto (tgt := 242) hx hb dX11_readThing_189 (by decide) ?_
                    refine lv_aload_n hx hb dX11_readThing_242 rfl (lv_at hl 2 rfl) ?_
                    refine ok.getR hO h_a (by decide) k13_2 (by decide) (fun _ _ he hv kk => th_get (ci := 11) (C := RX11) (T := TX11) (N := 66) hx hb hts inX11 hown hK hH he rfl 2 (by decide) fl3 hv dX11_readThing_243 kk) ?_
                    refine lv_iload hx hb dX11_readThing_246 (lv_at hl 0 rfl) ?_
                    refine lv_iconst (v := I 3) hx hb dX11_readThing_248 (by decide) ?_
                    refine lv_iadd hx hb dX11_readThing_249 ?_
                    refine nq_top (I_add _ _) ?_
                    refine lv_aload_n hx hb dX11_readThing_250 rfl (lv_at hl 2 rfl) ?_
                    refine ok.getIc hO h_a (by decide) k13_22 e_216 (fun _ _ he hv kk => th_get (ci := 11) (C := RX11) (T := TX11) (N := 66) hx hb hts inX11 hown hK hH he rfl 22 (by decide) fl2 hv dX11_readThing_251 kk) ?_
                    refine lv_iload hx hb dX11_readThing_254 (lv_at hl 0 rfl) ?_
                    refine lv_iconst (v := I 4) hx hb dX11_readThing_256 (by decide) ?_
                    refine lv_idiv hx hb dX11_readThing_257 (by decide) ?_
                    refine th_div (n := 4) ⟨by omega, by omega⟩ (by omega) (by decide) (fun z_217 rz_217 hz_217 => ?_)
                    refine lv_isub hx hb dX11_readThing_258 ?_
                    refine th_subo (fun z_218 rz_218 hz_218 => ?_)
                    replace hz_218 : z_218 = z_215 - z_217 := by omega
                    refine m_iast hx hb hK hH hS h00 hO h_a k13_2 isA1 (by decide) ef_200 ⟨by omega, by omega⟩ (by omega) (by omega) rz_218 el1 dX11_readThing_259 (fun σ_s_219 H locs hO hF9 hM9 ha9 hH hS => ?_)
                    replace hM := hM.tu hM9 (by decide)
                    replace hF := hF.tu hF9 (by decide)
                    have e_220 : gI σ_s_219 a 11 = a110 := (hM9.i (by decide)).trans e_198
                    have e_221 : gI σ_s_219 a 13 = z_207 := (hM9.i (by decide)).trans e_208
                    have e_222 : gI σ_s_219 a 14 = z_209 := (hM9.i (by decide)).trans e_210
                    have e_223 : gI σ_s_219 a 17 = z_211 := (hM9.i (by decide)).trans e_212
                    have e_224 : gI σ_s_219 a 19 = z_213 := (hM9.i (by decide)).trans e_214
                    have e_225 : gI σ_s_219 a 22 = z_215 := (hM9.i (by decide)).trans e_216
                    replace hsr := hsr.mv hM9 (by decide) (by decide) (by decide) (by decide) (by decide)
                    have hR_226 : RSt σ_s_219 a T cc_202 jj_203 := RSt.mv hM9 (by decide) (by decide) (by decide) (by decide) (by decide) (by decide) (by decide) hR_204
                    obtain ⟨g_227, dg_227⟩ : ∃ g9, g9 = upd g_199 (4 * a220 + 3).toNat (I z_218) := ⟨_, rfl⟩
                    rw [← dg_227] at ha9
                    have ef_228 := ha9
                    exact th_vret hx hb hr hlocks hH hS ⟨hO, hF, hM, ⟨⟨⟨⟨by omega, by omega, by omega, by omega⟩, (pgo.up (show pgo (gI σ_s_197 a 19) (gI σ_s_197 a 14) (gI σ_s_185 a 13) (gI σ_s_197 a 13) from hw_196.1.2) (e_224.trans e_214.symm) (e_222.trans e_210.symm) (by omega) (e_221.trans e_208.symm))⟩, by omega, hw_196.2.2.elim (fun h9 => Or.inl (by rw [(e_224.trans e_214.symm)]; exact h9)) (fun h9 => Or.inr (by rw [show gI σ a 22 = a220 from ea220, (e_225.trans e_216.symm), show aF σ_s_219 (ad E a 2) = g_227 from ef_228]; exact rdT_many h9 (by omega) dg_64 dg_74 dg_193 dg_227 rky (show rng z_218 from rz_218) (by omega) hq72 (by omega)))⟩, cc_202, jj_203, hR_226, (by have h9 := hn_201; rw [show (4 * a220) / 4 = gI σ a 22 by omega, show gI σ_s_197 a 22 = gI σ_s_219 a 22 by omega] at h9; exact h9)⟩⟩ dX11_readThing_260
                · replace c_78 := (I_eq (a := a140) (b := 1) ra140 (show rng 1 from ⟨by decide, by decide⟩)).mp c_78
                  have hk9 : tK T jt = 256 := by
                    have h9 := hid.out K_24_0
                    omega
                  try clear K_24_0
                  try clear ht_2
                  try clear ht_3
                  try clear ht_76
                  try clear ht_77
                  refine lv_aload_n hx hb dX11_readThing_139 rfl (lv_at hl 2 rfl) ?_
                  refine ok.getR hO h_a (by decide) k13_2 (by decide) (fun _ _ he hv kk => th_get (ci := 11) (C := RX11) (T := TX11) (N := 66) hx hb hts inX11 hown hK hH he rfl 2 (by decide) fl3 hv dX11_readThing_140 kk) ?_
                  refine lv_iload hx hb dX11_readThing_143 (lv_at hl 0 rfl) ?_
                  refine lv_iconst (v := I 1) hx hb dX11_readThing_145 (by decide) ?_
                  refine m_iast hx hb hK hH hS h00 hO h_a k13_2 isA1 (by decide) ef_75 ⟨by omega, by omega⟩ (by omega) (by omega) (show rng 1 from ⟨by decide, by decide⟩) el1 dX11_readThing_146 (fun σ_s_229 H locs hO hF9 hM9 ha9 hH hS => ?_)
                  replace hM := hM.tu hM9 (by decide)
                  replace hF := hF.tu hF9 (by decide)
                  have e_230 : gI σ_s_229 a 11 = a110 := (hM9.i (by decide)).trans e_67
                  have e_231 : gI σ_s_229 a 13 = a130 := (hM9.i (by decide)).trans e_68
                  have e_232 : gI σ_s_229 a 14 = a140 := (hM9.i (by decide)).trans e_69
                  have e_233 : gI σ_s_229 a 17 = a170 := (hM9.i (by decide)).trans e_70
                  have e_234 : gI σ_s_229 a 19 = a190 := (hM9.i (by decide)).trans e_71
                  have e_235 : gI σ_s_229 a 22 = a220 + 1 := (hM9.i (by decide)).trans e_72
                  replace hsr := hsr.mv hM9 (by decide) (by decide) (by decide) (by decide) (by decide)
                  have hR_236 : RSt σ_s_229 a T fc jt := RSt.mv hM9 (by decide) (by decide) (by decide) (by decide) (by decide) (by decide) (by decide) hR_73
                  obtain ⟨g_237, dg_237⟩ : ∃ g9, g9 = upd g_74 (4 * a220).toNat (I 1) := ⟨_, rfl⟩
                  rw [← dg_237] at ha9
                  have ef_238 := ha9
                  refine lv_aload_n hx hb dX11_readThing_147 rfl (lv_at hl 2 rfl) ?_
                  refine ok.getR hO h_a (by decide) k13_2 (by decide) (fun _ _ he hv kk => th_get (ci := 11) (C := RX11) (T := TX11) (N := 66) hx hb hts inX11 hown hK hH he rfl 2 (by decide) fl3 hv dX11_readThing_148 kk) ?_
                  refine lv_iload hx hb dX11_readThing_151 (lv_at hl 0 rfl) ?_
                  refine lv_iconst (v := I 1) hx hb dX11_readThing_153 (by decide) ?_
                  refine lv_iadd hx hb dX11_readThing_154 ?_
                  refine nq_top (I_add _ _) ?_
                  refine lv_aload_n hx hb dX11_readThing_155 rfl (lv_at hl 2 rfl) ?_
                  obtain ⟨_, hc_239⟩ := hO.cell h_a (by decide) (ci := 11) rfl
                  refine th_calli (va_runV (As := []) (rest := [.int (I (4 * a220 + 1)), .ref (ad E a 2)]) ⟨hx, hb, hml, hown, hts⟩ (n_readWord l G y b0 σ_s_229 E hO a h_a Bf hsr T hSt fc jt hR_236 (by omega)) (cwV 0 hts gX11_readThing_X11_readWord rfl rfl rfl (by decide +kernel) ⟨(by first | exact fr_q (by decide) | exact fr_r (by decide) | exact fr_s (by decide) | (simp only [headSpec]; omega) | omega | (dsimp only; omega)), (by first | exact fr_q (by decide) | exact fr_r (by decide) | exact fr_s (by decide) | (simp only [headSpec]; omega) | omega | (dsimp only; omega))⟩) (th_PV hK hH rfl hc_239) rfl rfl hl.1 rfl (lv_room (Nat.le_of_ble_eq_true rfl)) dX11_readThing_156 ⟨(by first | exact fr_q (by decide) | exact fr_r (by decide) | exact fr_s (by decide) | (simp only [headSpec]; omega) | omega | (dsimp only; omega)), (by first | exact fr_q (by decide) | exact fr_r (by decide) | exact fr_s (by decide) | (simp only [headSpec]; omega) | omega | (dsimp only; omega))⟩) hS (fun z_242 σ_s_241 H locs rz_242 hw_240 hH hS => ?_)
                  obtain ⟨hO9, hF9, hM9, hw_240⟩ := hw_240
                  replace hM := hM.tu hM9 (by decide)
                  replace hF := hF.tu hF9 (by decide)
                  have e_243 : gI σ_s_241 a 11 = a110 := (hM9.i (by decide)).trans e_230
                  have e_244 : gI σ_s_241 a 22 = a220 + 1 := (hM9.i (by decide)).trans e_235
                  have e_245 : aF σ_s_241 (ad E a 2) = g_237 := (hM9.a (by decide) (by decide)).trans ef_238
                  replace hsr := hsr.mv hM9 (by decide) (by decide) (by decide) (by decide) (by decide)
                  replace hO := hO9
                  replace hw_240 : ((gI σ_s_229 a 13 ≤ gI σ_s_241 a 13 ∧ gI σ_s_241 a 13 ≤ gI σ_s_229 a 11 ∧ 0 ≤ gI σ_s_241 a 17 ∧ gI σ_s_241 a 17 ≤ gI σ_s_241 a 13) ∧ pgo (gI σ_s_241 a 19) (gI σ_s_241 a 14) (gI σ_s_229 a 13) (gI σ_s_241 a 13) ∧ bdo (gI σ_s_229 a 19) (gI σ_s_241 a 19)) ∧ ∃ c1 j1, RSt σ_s_241 a T c1 j1 ∧ ((fc ≠ 0 → c1 = fc ∧ j1 = jt) ∧ (fc = 0 → (tK T jt ≠ 256 ∧ c1 = 1 ∧ j1 = jt) ∨ (tK T jt = 256 ∧ 6 < tL T jt ∧ c1 = 2 ∧ j1 = jt) ∨ (tK T jt = 256 ∧ tL T jt ≤ 6 ∧ c1 = 0 ∧ j1 = jt + 1 ∧ z_242 = tV T jt))) := hw_240
                  have hn_246 := hw_240.2
                  replace hw_240 := hw_240.1
                  obtain ⟨cc_247, jj_248, hR_249, hn_246⟩ := hn_246
                  have hb_250 := hw_240.1
                  replace hw_240 := hid.mk hw_240
                  replace hn_246 := hid.mk hn_246
                  obtain ⟨z_251, e_252, rz_251, lz_251, uz_251⟩ := hO.gi h_a (by decide) k13_13
                  obtain ⟨z_253, e_254, rz_253, lz_253, uz_253⟩ := hO.gi h_a (by decide) k13_14
                  obtain ⟨z_255, e_256, rz_255, lz_255, uz_255⟩ := hO.gi h_a (by decide) k13_17
                  obtain ⟨z_257, e_258, rz_257, lz_257, uz_257⟩ := hO.gi h_a (by decide) k13_19
                  refine m_iast hx hb hK hH hS h00 hO h_a k13_2 isA1 (by decide) e_245 ⟨by omega, by omega⟩ (by omega) (by omega) rz_242 el1 dX11_readThing_159 (fun σ_s_259 H locs hO hF9 hM9 ha9 hH hS => ?_)
                  replace hM := hM.tu hM9 (by decide)
                  replace hF := hF.tu hF9 (by decide)
                  have e_260 : gI σ_s_259 a 11 = a110 := (hM9.i (by decide)).trans e_243
                  have e_261 : gI σ_s_259 a 22 = a220 + 1 := (hM9.i (by decide)).trans e_244
                  have e_262 : gI σ_s_259 a 13 = z_251 := (hM9.i (by decide)).trans e_252
                  have e_263 : gI σ_s_259 a 14 = z_253 := (hM9.i (by decide)).trans e_254
                  have e_264 : gI σ_s_259 a 17 = z_255 := (hM9.i (by decide)).trans e_256
                  have e_265 : gI σ_s_259 a 19 = z_257 := (hM9.i (by decide)).trans e_258
                  replace hsr := hsr.mv hM9 (by decide) (by decide) (by decide) (by decide) (by decide)
                  have hR_266 : RSt σ_s_259 a T cc_247 jj_248 := RSt.mv hM9 (by decide) (by decide) (by decide) (by decide) (by decide) (by decide) (by decide) hR_249
                  obtain ⟨g_267, dg_267⟩ : ∃ g9, g9 = upd g_237 (4 * a220 + 1).toNat (I z_242) := ⟨_, rfl⟩
                  rw [← dg_267] at ha9
                  have ef_268 := ha9
                  refine lv_goto (tgt := 242) hx hb dX11_readThing_160 (by decide) ?_
                  refine lv_aload_n hx hb dX11_readThing_242 rfl (lv_at hl 2 rfl) ?_
                  refine ok.getR hO h_a (by decide) k13_2 (by decide) (fun _ _ he hv kk => th_get (ci := 11) (C := RX11) (T := TX11) (N := 66) hx hb hts inX11 hown hK hH he rfl 2 (by decide) fl3 hv dX11_readThing_243 kk) ?_
                  refine lv_iload hx hb dX11_readThing_246 (lv_at hl 0 rfl) ?_
                  refine lv_iconst (v := I 3) hx hb dX11_readThing_248 (by decide) ?_
                  refine lv_iadd hx hb dX11_readThing_249 ?_
                  refine nq_top (I_add _ _) ?_
                  refine lv_aload_n hx hb dX11_readThing_250 rfl (lv_at hl 2 rfl) ?_
                  refine ok.getIc hO h_a (by decide) k13_22 e_261 (fun _ _ he hv kk => th_get (ci := 11) (C := RX11) (T := TX11) (N := 66) hx hb hts inX11 hown hK hH he rfl 22 (by decide) fl2 hv dX11_readThing_251 kk) ?_
                  refine lv_iload hx hb dX11_readThing_254 (lv_at hl 0 rfl) ?_
                  refine lv_iconst (v := I 4) hx hb dX11_readThing_256 (by decide) ?_
                  refine lv_idiv hx hb dX11_readThing_257 (by decide) ?_
                  refine th_div (n := 4) ⟨by omega, by omega⟩ (by omega) (by decide) (fun z_269 rz_269 hz_269 => ?_)
                  refine lv_isub hx hb dX11_readThing_258 ?_
                  refine th_subo (fun z_270 rz_270 hz_270 => ?_)
                  replace hz_270 : z_270 = (a220 + 1) - z_269 := by omega
                  refine m_iast hx hb hK hH hS h00 hO h_a k13_2 isA1 (by decide) ef_268 ⟨by omega, by omega⟩ (by omega) (by omega) rz_270 el1 dX11_readThing_259 (fun σ_s_271 H locs hO hF9 hM9 ha9 hH hS => ?_)
                  replace hM := hM.tu hM9 (by decide)
                  replace hF := hF.tu hF9 (by decide)
                  have e_272 : gI σ_s_271 a 11 = a110 := (hM9.i (by decide)).trans e_260
                  have e_273 : gI σ_s_271 a 22 = a220 + 1 := (hM9.i (by decide)).trans e_261
                  have e_274 : gI σ_s_271 a 13 = z_251 := (hM9.i (by decide)).trans e_262
                  have e_275 : gI σ_s_271 a 14 = z_253 := (hM9.i (by decide)).trans e_263
                  have e_276 : gI σ_s_271 a 17 = z_255 := (hM9.i (by decide)).trans e_264
                  have e_277 : gI σ_s_271 a 19 = z_257 := (hM9.i (by decide)).trans e_265
                  replace hsr := hsr.mv hM9 (by decide) (by decide) (by decide) (by decide) (by decide)
                  have hR_278 : RSt σ_s_271 a T cc_247 jj_248 := RSt.mv hM9 (by decide) (by decide) (by decide) (by decide) (by decide) (by decide) (by decide) hR_266
                  obtain ⟨g_279, dg_279⟩ : ∃ g9, g9 = upd g_267 (4 * a220 + 3).toNat (I z_270) := ⟨_, rfl⟩
                  rw [← dg_279] at ha9
                  have ef_280 := ha9
                  exact th_vret hx hb hr hlocks hH hS ⟨hO, hF, hM, ⟨⟨⟨⟨by omega, by omega, by omega, by omega⟩, (pgo.up (show pgo (gI σ_s_241 a 19) (gI σ_s_241 a 14) (gI σ_s_229 a 13) (gI σ_s_241 a 13) from hw_240.2.1) (e_277.trans e_258.symm) (e_275.trans e_254.symm) (by omega) (e_274.trans e_252.symm))⟩, by omega, by rw [show gI σ a 22 = a220 from ea220, show gI σ_s_271 a 22 = a220 + 1 from e_273, show aF σ_s_271 (ad E a 2) = g_279 from ef_280]; exact Or.inr (rdT_leaf dg_64 dg_74 dg_237 dg_267 dg_279 rky (show rng z_270 from rz_270) (by omega) hq72 (by omega))⟩, cc_247, jj_248, hR_278, (by have h9 := hid.out hn_246; exact PIt.wordC (by omega) (by omega) (by omega) (by omega))⟩⟩ dX11_readThing_260
              · replace c_46 := mt (I_eq (a := a190) (b := 0) ra190 (show rng 0 from ⟨by decide, by decide⟩)).mpr c_46
                exact th_vret hx hb hr hlocks hH hS ⟨hO, hF, hM, (by exfalso; omega)⟩ dX11_readThing_92
            · replace c_45 := mt (I_le (a := dp) (b := 7) rdp (show rng 7 from ⟨by decide, by decide⟩)).mpr c_45
              refine lv_aload_n hx hb dX11_readThing_80 rfl (lv_at hl 1 rfl) ?_
              refine lv_iconst (v := I 2) hx hb dX11_readThing_81 (by decide) ?_
              obtain ⟨_, hc_281⟩ := hO.cell h_a (by decide) (ci := 11) rfl
              refine th_callv (va_runV (As := [.int (I 2)]) (rest := []) ⟨hx, hb, hml, hown, hts⟩ (n_wrong l G y b0 σ E hO a h_a 2 (show rng 2 from (show rng 2 from ⟨by decide, by decide⟩)) (by omega) (by omega) Bf hsr T hSt fc jt hR0) (cwV 1 hts gX11_readThing_X11_wrong rfl rfl rfl (by decide +kernel) ⟨(by first | exact fr_q (by decide) | exact fr_r (by decide) | exact fr_s (by decide) | (simp only [headSpec]; omega) | omega | (dsimp only; omega)), (by first | exact fr_q (by decide) | exact fr_r (by decide) | exact fr_s (by decide) | (simp only [headSpec]; omega) | omega | (dsimp only; omega))⟩) (th_PV hK hH rfl hc_281) rfl rfl hl.1 rfl (lv_room (Nat.le_of_ble_eq_true rfl)) dX11_readThing_82 ⟨(by first | exact fr_q (by decide) | exact fr_r (by decide) | exact fr_s (by decide) | (simp only [headSpec]; omega) | omega | (dsimp only; omega)), (by first | exact fr_q (by decide) | exact fr_r (by decide) | exact fr_s (by decide) | (simp only [headSpec]; omega) | omega | (dsimp only; omega))⟩) hS (fun σ_s_283 H locs hw_282 hH hS => ?_)
              obtain ⟨hO9, hF9, hM9, hw_282⟩ := hw_282
              replace hM := hM.tu hM9 (by decide)
              replace hF := hF.tu hF9 (by decide)
              have e_284 : aF σ_s_283 (ad E a 2) = f2 := (hM9.a (by decide) (by decide)).trans ef2
              have e_285 : gI σ_s_283 a 11 = a110 := (hM9.i (by decide)).trans ea110
              have e_286 : gI σ_s_283 a 13 = a130 := (hM9.i (by decide)).trans ea130
              have e_287 : gI σ_s_283 a 14 = a140 := (hM9.i (by decide)).trans ea140
              have e_288 : gI σ_s_283 a 17 = a170 := (hM9.i (by decide)).trans ea170
              have e_289 : gI σ_s_283 a 22 = a220 := (hM9.i (by decide)).trans ea220
              replace hsr := hsr.mv hM9 (by decide) (by decide) (by decide) (by decide) (by decide)
              replace hO := hO9
              replace hw_282 : (¬ gI σ_s_283 a 19 = 0 ∧ (gI σ a 19 = 0 ∨ gI σ_s_283 a 19 = gI σ a 19)) ∧ ∃ c1 j1, RSt σ_s_283 a T c1 j1 ∧ (j1 = jt ∧ (fc = 0 → c1 = 2) ∧ (fc ≠ 0 → c1 = fc)) := hw_282
              replace hV0 := hid.mk hV0
              have hn_290 := hw_282.2
              replace hw_282 := hw_282.1
              obtain ⟨cc_291, jj_292, hR_293, hn_290⟩ := hn_290
              have hVhR_293 := hR_293.1
              have hj9 := hn_290.1.symm
              subst hj9
              have h0_294 : ¬ cc_291 = 0 := by omega
              try simp only [h0_294, ne_eq, not_true_eq_false, not_false_eq_true, false_implies, true_implies, true_and, and_true, eq_self, false_or, or_false, false_and, and_false] at hVhR_293
              try simp only [h0_1, h0_294, ne_eq, not_true_eq_false, not_false_eq_true, false_implies, true_implies, true_and, and_true, eq_self, false_or, or_false, false_and, and_false] at hn_290
              refine lv_aload_n hx hb dX11_readThing_85 rfl (lv_at hl 1 rfl) ?_
              refine ok.getI hO h_a (by decide) k13_19 (fun _ _ he hv kk => th_get (ci := 11) (C := RX11) (T := TX11) (N := 66) hx hb hts inX11 hown hK hH he rfl 19 (by decide) fl1 hv dX11_readThing_86 kk) (fun z_295 e_296 rz_295 lz_295 uz_295 => ?_)
              refine lv_if_eq (tgt := 93) hx hb dX11_readThing_89 (by decide) (fun c_297 => ?_) (fun c_297 => ?_)
              · replace c_297 := (I_eq (a := z_295) (b := 0) rz_295 (show rng 0 from ⟨by decide, by decide⟩)).mp c_297
                exfalso; omega
              · replace c_297 := mt (I_eq (a := z_295) (b := 0) rz_295 (show rng 0 from ⟨by decide, by decide⟩)).mpr c_297
                exact th_vret hx hb hr hlocks hH hS ⟨hO, hF, hM, ⟨⟨⟨⟨by omega, by omega, by omega, by omega⟩, pgo.of (by omega)⟩, by omega, Or.inl (by omega)⟩, cc_291, jt, hR_293, PTh.much hbg9 (by omega) (by omega) (by omega)⟩⟩ dX11_readThing_92
      · replace c_25 := (I_eq (a := w0q23) (b := 0) rw0q23 (show rng 0 from ⟨by decide, by decide⟩)).mp c_25
        have hnb9 : ¬ beg (tK T jt) := by unfold beg; omega
        replace K_24_0 := hid.mk K_24_0
        refine lv_aload_n hx hb dX11_readThing_53 rfl (lv_at hl 1 rfl) ?_
        refine lv_iconst (v := I 1) hx hb dX11_readThing_54 (by decide) ?_
        obtain ⟨_, hc_298⟩ := hO.cell h_a (by decide) (ci := 11) rfl
        refine th_callv (va_runV (As := [.int (I 1)]) (rest := []) ⟨hx, hb, hml, hown, hts⟩ (n_wrong l G y b0 σ E hO a h_a 1 (show rng 1 from (show rng 1 from ⟨by decide, by decide⟩)) (by omega) (by omega) Bf hsr T hSt fc jt hR0) (cwV 1 hts gX11_readThing_X11_wrong rfl rfl rfl (by decide +kernel) ⟨(by first | exact fr_q (by decide) | exact fr_r (by decide) | exact fr_s (by decide) | (simp only [headSpec]; omega) | omega | (dsimp only; omega)), (by first | exact fr_q (by decide) | exact fr_r (by decide) | exact fr_s (by decide) | (simp only [headSpec]; omega) | omega | (dsimp only; omega))⟩) (th_PV hK hH rfl hc_298) rfl rfl hl.1 rfl (lv_room (Nat.le_of_ble_eq_true rfl)) dX11_readThing_55 ⟨(by first | exact fr_q (by decide) | exact fr_r (by decide) | exact fr_s (by decide) | (simp only [headSpec]; omega) | omega | (dsimp only; omega)), (by first | exact fr_q (by decide) | exact fr_r (by decide) | exact fr_s (by decide) | (simp only [headSpec]; omega) | omega | (dsimp only; omega))⟩) hS (fun σ_s_300 H locs hw_299 hH hS => ?_)
        obtain ⟨hO9, hF9, hM9, hw_299⟩ := hw_299
        replace hM := hM.tu hM9 (by decide)
        replace hF := hF.tu hF9 (by decide)
        have e_301 : aF σ_s_300 (ad E a 2) = f2 := (hM9.a (by decide) (by decide)).trans ef2
        have e_302 : gI σ_s_300 a 11 = a110 := (hM9.i (by decide)).trans ea110
        have e_303 : gI σ_s_300 a 13 = a130 := (hM9.i (by decide)).trans ea130
        have e_304 : gI σ_s_300 a 14 = a140 := (hM9.i (by decide)).trans ea140
        have e_305 : gI σ_s_300 a 17 = a170 := (hM9.i (by decide)).trans ea170
        have e_306 : gI σ_s_300 a 22 = a220 := (hM9.i (by decide)).trans ea220
        replace hsr := hsr.mv hM9 (by decide) (by decide) (by decide) (by decide) (by decide)
        replace hO := hO9
        replace hw_299 : (¬ gI σ_s_300 a 19 = 0 ∧ (gI σ a 19 = 0 ∨ gI σ_s_300 a 19 = gI σ a 19)) ∧ ∃ c1 j1, RSt σ_s_300 a T c1 j1 ∧ (j1 = jt ∧ (fc = 0 → c1 = 1) ∧ (fc ≠ 0 → c1 = fc)) := hw_299
        replace hV0 := hid.mk hV0
        have hn_307 := hw_299.2
        replace hw_299 := hw_299.1
        obtain ⟨cc_308, jj_309, hR_310, hn_307⟩ := hn_307
        have hVhR_310 := hR_310.1
        have hj9 := hn_307.1.symm
        subst hj9
        have h0_311 : ¬ cc_308 = 0 := by omega
        try simp only [h0_311, ne_eq, not_true_eq_false, not_false_eq_true, false_implies, true_implies, true_and, and_true, eq_self, false_or, or_false, false_and, and_false] at hVhR_310
        try simp only [h0_1, h0_311, ne_eq, not_true_eq_false, not_false_eq_true, false_implies, true_implies, true_and, and_true, eq_self, false_or, or_false, false_and, and_false] at hn_307
        refine lv_aload_n hx hb dX11_readThing_58 rfl (lv_at hl 1 rfl) ?_
        refine ok.getI hO h_a (by decide) k13_19 (fun _ _ he hv kk => th_get (ci := 11) (C := RX11) (T := TX11) (N := 66) hx hb hts inX11 hown hK hH he rfl 19 (by decide) fl1 hv dX11_readThing_59 kk) (fun z_312 e_313 rz_312 lz_312 uz_312 => ?_)
        refine lv_if_ne (tgt := 85) hx hb dX11_readThing_62 (by decide) (fun c_314 => ?_) (fun c_314 => ?_)
        · replace c_314 := mt (I_eq (a := z_312) (b := 0) rz_312 (show rng 0 from ⟨by decide, by decide⟩)).mpr c_314
          refine lv_aload_n hx hb dX11_readThing_85 rfl (lv_at hl 1 rfl) ?_
          refine ok.getIc hO h_a (by decide) k13_19 e_313 (fun _ _ he hv kk => th_get (ci := 11) (C := RX11) (T := TX11) (N := 66) hx hb hts inX11 hown hK hH he rfl 19 (by decide) fl1 hv dX11_readThing_86 kk) ?_
          refine lv_if_eq (tgt := 93) hx hb dX11_readThing_89 (by decide) (fun c_315 => ?_) (fun c_315 => ?_)
          · replace c_315 := (I_eq (a := z_312) (b := 0) rz_312 (show rng 0 from ⟨by decide, by decide⟩)).mp c_315
            exfalso; omega
          · replace c_315 := mt (I_eq (a := z_312) (b := 0) rz_312 (show rng 0 from ⟨by decide, by decide⟩)).mpr c_315
            exact th_vret hx hb hr hlocks hH hS ⟨hO, hF, hM, ⟨⟨⟨⟨by omega, by omega, by omega, by omega⟩, pgo.of (by omega)⟩, by omega, Or.inl (by omega)⟩, cc_308, jt, hR_310, PTh.no hnb9 (by omega) (by omega)⟩⟩ dX11_readThing_92
        · replace c_314 := (I_eq (a := z_312) (b := 0) rz_312 (show rng 0 from ⟨by decide, by decide⟩)).mp c_314
          exfalso; omega
    · refine lv_icmp_eq (tgt := 43) hx hb dX11_readThing_5 (by decide) (fun c_316 => ?_) (fun c_316 => ?_)
      · replace c_316 := (I_eq (a := a140) (b := 2) ra140 (show rng 2 from ⟨by decide, by decide⟩)).mp c_316
        refine lv_iconst (v := I 1) hx hb dX11_readThing_43 (by decide) ?_
        refine lv_goto (tgt := 48) hx hb dX11_readThing_44 (by decide) ?_
        exact jK_24 (1) σ _ _ _ ⟨rfl, hH, hS, lv_sub hl [0, 1, 2] rfl, (show rng 1 from ⟨by decide, by decide⟩), by first | (dsimp only; omega) | omega, by first | (dsimp only; omega) | omega⟩
      · replace c_316 := mt (I_eq (a := a140) (b := 2) ra140 (show rng 2 from ⟨by decide, by decide⟩)).mpr c_316
        refine lv_aload_n hx hb dX11_readThing_8 rfl (lv_at hl 0 rfl) ?_
        refine ok.getIc hO h_a (by decide) k13_14 ea140 (fun _ _ he hv kk => th_get (ci := 11) (C := RX11) (T := TX11) (N := 66) hx hb hts inX11 hown hK hH he rfl 14 (by decide) fl0 hv dX11_readThing_9 kk) ?_
        have ht_317 := hR0.t1
        have ht_318 := hR0.t2
        refine lv_iconst (v := I 1) hx hb dX11_readThing_12 (by decide) ?_
        refine lv_icmp_eq (tgt := 43) hx hb dX11_readThing_13 (by decide) (fun c_319 => ?_) (fun c_319 => ?_)
        · replace c_319 := (I_eq (a := a140) (b := 1) ra140 (show rng 1 from ⟨by decide, by decide⟩)).mp c_319
          refine lv_iconst (v := I 1) hx hb dX11_readThing_43 (by decide) ?_
          refine lv_goto (tgt := 48) hx hb dX11_readThing_44 (by decide) ?_
          exact jK_24 (1) σ _ _ _ ⟨rfl, hH, hS, lv_sub hl [0, 1, 2] rfl, (show rng 1 from ⟨by decide, by decide⟩), by first | (dsimp only; omega) | omega, by first | (dsimp only; omega) | omega⟩
        · replace c_319 := mt (I_eq (a := a140) (b := 1) ra140 (show rng 1 from ⟨by decide, by decide⟩)).mpr c_319
          refine lv_aload_n hx hb dX11_readThing_16 rfl (lv_at hl 0 rfl) ?_
          refine lv_bipush (v := I 45) hx hb dX11_readThing_17 (by decide) ?_
          obtain ⟨_, hc_320⟩ := hO.cell h_a (by decide) (ci := 11) rfl
          refine th_calli (va_runV (As := [.int (I 45)]) (rest := []) ⟨hx, hb, hml, hown, hts⟩ (n_isMarked l G y b0 σ E hO a h_a 45 (show rng 45 from (show rng 45 from ⟨by decide, by decide⟩)) (by omega) (by omega) Bf hsr T hSt fc jt hR0 (by omega)) (cwV 1 hts gX11_readThing_X11_isMarked rfl rfl rfl (by decide +kernel) ⟨(by first | exact fr_q (by decide) | exact fr_r (by decide) | exact fr_s (by decide) | (simp only [headSpec]; omega) | omega | (dsimp only; omega)), (by first | exact fr_q (by decide) | exact fr_r (by decide) | exact fr_s (by decide) | (simp only [headSpec]; omega) | omega | (dsimp only; omega))⟩) (th_PV hK hH rfl hc_320) rfl rfl hl.1 rfl (lv_room (Nat.le_of_ble_eq_true rfl)) dX11_readThing_19 ⟨(by first | exact fr_q (by decide) | exact fr_r (by decide) | exact fr_s (by decide) | (simp only [headSpec]; omega) | omega | (dsimp only; omega)), (by first | exact fr_q (by decide) | exact fr_r (by decide) | exact fr_s (by decide) | (simp only [headSpec]; omega) | omega | (dsimp only; omega))⟩) hS (fun z_323 σ_s_322 H locs rz_323 hw_321 hH hS => ?_)
          obtain ⟨e9, bhw_321, hw_321⟩ := hw_321
          replace e9 := e9.symm
          subst e9
          replace hw_321 : (z_323 = 1 ∧ fc = 0 ∧ tK T jt = 45) ∨ (z_323 = 0 ∧ (fc ≠ 0 ∨ tK T jt ≠ 45)) := hw_321
          refine lv_if_ne (tgt := 43) hx hb dX11_readThing_22 (by decide) (fun c_324 => ?_) (fun c_324 => ?_)
          · replace c_324 := mt (I_eq (a := z_323) (b := 0) rz_323 (show rng 0 from ⟨by decide, by decide⟩)).mpr c_324
            refine lv_iconst (v := I 1) hx hb dX11_readThing_43 (by decide) ?_
            refine lv_goto (tgt := 48) hx hb dX11_readThing_44 (by decide) ?_
            exact jK_24 (1) σ _ _ _ ⟨rfl, hH, hS, lv_sub hl [0, 1, 2] rfl, (show rng 1 from ⟨by decide, by decide⟩), by first | (dsimp only; omega) | omega, by first | (dsimp only; omega) | omega⟩
          · replace c_324 := (I_eq (a := z_323) (b := 0) rz_323 (show rng 0 from ⟨by decide, by decide⟩)).mp c_324
            refine lv_aload_n hx hb dX11_readThing_25 rfl (lv_at hl 0 rfl) ?_
            refine lv_bipush (v := I 91) hx hb dX11_readThing_26 (by decide) ?_
            obtain ⟨_, hc_325⟩ := hO.cell h_a (by decide) (ci := 11) rfl
            refine th_calli (va_runV (As := [.int (I 91)]) (rest := []) ⟨hx, hb, hml, hown, hts⟩ (n_isMarked l G y b0 σ E hO a h_a 91 (show rng 91 from (show rng 91 from ⟨by decide, by decide⟩)) (by omega) (by omega) Bf hsr T hSt fc jt hR0 (by omega)) (cwV 1 hts gX11_readThing_X11_isMarked rfl rfl rfl (by decide +kernel) ⟨(by first | exact fr_q (by decide) | exact fr_r (by decide) | exact fr_s (by decide) | (simp only [headSpec]; omega) | omega | (dsimp only; omega)), (by first | exact fr_q (by decide) | exact fr_r (by decide) | exact fr_s (by decide) | (simp only [headSpec]; omega) | omega | (dsimp only; omega))⟩) (th_PV hK hH rfl hc_325) rfl rfl hl.1 rfl (lv_room (Nat.le_of_ble_eq_true rfl)) dX11_readThing_28 ⟨(by first | exact fr_q (by decide) | exact fr_r (by decide) | exact fr_s (by decide) | (simp only [headSpec]; omega) | omega | (dsimp only; omega)), (by first | exact fr_q (by decide) | exact fr_r (by decide) | exact fr_s (by decide) | (simp only [headSpec]; omega) | omega | (dsimp only; omega))⟩) hS (fun z_328 σ_s_327 H locs rz_328 hw_326 hH hS => ?_)
            obtain ⟨e9, bhw_326, hw_326⟩ := hw_326
            replace e9 := e9.symm
            subst e9
            replace hw_326 : (z_328 = 1 ∧ fc = 0 ∧ tK T jt = 91) ∨ (z_328 = 0 ∧ (fc ≠ 0 ∨ tK T jt ≠ 91)) := hw_326
            first | replace hw_321 := hw_321.resolve_right (by omega) | replace hw_321 := hw_321.resolve_left (by omega) | skip
            refine lv_if_ne (tgt := 43) hx hb dX11_readThing_31 (by decide) (fun c_329 => ?_) (fun c_329 => ?_)
            · replace c_329 := mt (I_eq (a := z_328) (b := 0) rz_328 (show rng 0 from ⟨by decide, by decide⟩)).mpr c_329
              refine lv_iconst (v := I 1) hx hb dX11_readThing_43 (by decide) ?_
              refine lv_goto (tgt := 48) hx hb dX11_readThing_44 (by decide) ?_
              exact jK_24 (1) σ _ _ _ ⟨rfl, hH, hS, lv_sub hl [0, 1, 2] rfl, (show rng 1 from ⟨by decide, by decide⟩), by first | (dsimp only; omega) | omega, by first | (dsimp only; omega) | omega⟩
            · replace c_329 := (I_eq (a := z_328) (b := 0) rz_328 (show rng 0 from ⟨by decide, by decide⟩)).mp c_329
              refine lv_aload_n hx hb dX11_readThing_34 rfl (lv_at hl 0 rfl) ?_
              refine lv_bipush (v := I 123) hx hb dX11_readThing_35 (by decide) ?_
              obtain ⟨_, hc_330⟩ := hO.cell h_a (by decide) (ci := 11) rfl
              refine th_calli (va_runV (As := [.int (I 123)]) (rest := []) ⟨hx, hb, hml, hown, hts⟩ (n_isMarked l G y b0 σ E hO a h_a 123 (show rng 123 from (show rng 123 from ⟨by decide, by decide⟩)) (by omega) (by omega) Bf hsr T hSt fc jt hR0 (by omega)) (cwV 1 hts gX11_readThing_X11_isMarked rfl rfl rfl (by decide +kernel) ⟨(by first | exact fr_q (by decide) | exact fr_r (by decide) | exact fr_s (by decide) | (simp only [headSpec]; omega) | omega | (dsimp only; omega)), (by first | exact fr_q (by decide) | exact fr_r (by decide) | exact fr_s (by decide) | (simp only [headSpec]; omega) | omega | (dsimp only; omega))⟩) (th_PV hK hH rfl hc_330) rfl rfl hl.1 rfl (lv_room (Nat.le_of_ble_eq_true rfl)) dX11_readThing_37 ⟨(by first | exact fr_q (by decide) | exact fr_r (by decide) | exact fr_s (by decide) | (simp only [headSpec]; omega) | omega | (dsimp only; omega)), (by first | exact fr_q (by decide) | exact fr_r (by decide) | exact fr_s (by decide) | (simp only [headSpec]; omega) | omega | (dsimp only; omega))⟩) hS (fun z_333 σ_s_332 H locs rz_333 hw_331 hH hS => ?_)
              obtain ⟨e9, bhw_331, hw_331⟩ := hw_331
              replace e9 := e9.symm
              subst e9
              replace hw_331 : (z_333 = 1 ∧ fc = 0 ∧ tK T jt = 123) ∨ (z_333 = 0 ∧ (fc ≠ 0 ∨ tK T jt ≠ 123)) := hw_331
              first | replace hw_326 := hw_326.resolve_right (by omega) | replace hw_326 := hw_326.resolve_left (by omega) | skip
              refine lv_if_eq (tgt := 47) hx hb dX11_readThing_40 (by decide) (fun c_334 => ?_) (fun c_334 => ?_)
              · replace c_334 := (I_eq (a := z_333) (b := 0) rz_333 (show rng 0 from ⟨by decide, by decide⟩)).mp c_334
                refine lv_iconst (v := I 0) hx hb dX11_readThing_47 (by decide) ?_
                exact jK_24 (0) σ _ _ _ ⟨rfl, hH, hS, lv_sub hl [0, 1, 2] rfl, (show rng 0 from ⟨by decide, by decide⟩), by first | (dsimp only; omega) | omega, by first | (dsimp only; omega) | omega⟩
              · replace c_334 := mt (I_eq (a := z_333) (b := 0) rz_333 (show rng 0 from ⟨by decide, by decide⟩)).mpr c_334
                refine lv_iconst (v := I 1) hx hb dX11_readThing_43 (by decide) ?_
                refine lv_goto (tgt := 48) hx hb dX11_readThing_44 (by decide) ?_
                exact jK_24 (1) σ _ _ _ ⟨rfl, hH, hS, lv_sub hl [0, 1, 2] rfl, (show rng 1 from ⟨by decide, by decide⟩), by first | (dsimp only; omega) | omega, by first | (dsimp only; omega) | omega⟩
