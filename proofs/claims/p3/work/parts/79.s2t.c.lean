set_option maxHeartbeats 20000000 in
set_option maxRecDepth 100000 in
theorem n_readThing (n : Nat) : ∀ (l : Launch) (G : va_G) (y : Nat → ClassId) (b0 : Nat) (σ : th_M) (E : th_E) (hO : ok y E σ) (a : Nat) (h_a : kd E a = 13) (ky : Int) (rky : rng ky) (dp : Int) (rdp : rng dp) (l_dp : 0 ≤ dp) (u_dp : dp ≤ 8) (f2 : Nat → Int32) (ef2 : aF σ (ad E a 2) = f2) (Bf : Int → Int) (hsr : sr E σ a Bf) (T : tkT) (hSt : tkSt Bf T) (fc jt : Int) (hR0 : RSt σ a T fc jt) (hy0 : 0 ≤ gI σ a 17 ∧ gI σ a 17 ≤ gI σ a 13 ∧ gI σ a 13 ≤ gI σ a 11 ∧ gI σ a 11 ≤ 400) (hy1 : gI σ a 19 = 0) (hn : (8 - dp).toNat < n), Met l yX11_readThing wsX11_readThing ({ frames := 4*n+12, cells := 0, slots := 0, locals := (120*n+900) }) (th_P G y b0 σ [.ref a, .int (I ky), .int (I dp)]) (th_Qv G b0 (fun σ1 => ok y E σ1 ∧ fr [13] E σ σ1 ∧ fm [13, 14, 15, 16, 17, 18, 19, 20, 2, 22] E σ σ1 a ∧ ((((gI σ a 13 ≤ gI σ1 a 13 ∧ gI σ1 a 13 ≤ gI σ a 11 ∧ 0 ≤ gI σ1 a 17 ∧ gI σ1 a 17 ≤ gI σ1 a 13) ∧ pgo (gI σ1 a 19) (gI σ1 a 14) (gI σ a 13) (gI σ1 a 13)) ∧ gI σ a 22 ≤ gI σ1 a 22 ∧ (¬ gI σ1 a 19 = 0 ∨ rdT f2 (aF σ1 (ad E a 2)) (gI σ a 22) (gI σ1 a 22) ky dp)) ∧ ∃ c1 j1, RSt σ1 a T c1 j1 ∧ PTh T dp jt (gI σ a 22) c1 j1 (gI σ1 a 22)))) 0 0 (th_A b0) := by
  induction n with
  | zero => intro l G y b0 σ E hO a h_a ky rky dp rdp l_dp u_dp f2 ef2 Bf hsr T hSt fc jt hR0 hy0 hy1 hn; exact absurd hn (Nat.not_lt_zero _)
  | succ n ih =>
    intro l G y b0 σ E hO a h_a ky rky dp rdp l_dp u_dp f2 ef2 Bf hsr T hSt fc jt hR0 hy0 hy1 hn
    refine Met.ofW (cc := cX11_readThing) (maxL := 5) (ret := none) (by decide) rfl ?_
    intro p e s m args below meth c s₁ B hml hv
    obtain ⟨rfl, hH, hK⟩ := hv
    have hx := B.exec
    have hb := B.bytes
    have hr := B.returns
    have hts := atoms_spec (ws := wsX11_readThing) B.pre
    have hown : s.vm.findClass RX11 = some m.cls := findClass_of_methodNamed B.named
    have hlocks := B.notSynchronized
    have h00 : b0 ≤ s.heap.size := hH.1
    have hS : va_S (th_A b0) s.heap s.heap [] := va_S.rf
    have hF : fr [13] E σ σ := fr.rf
    have hM : fm [13, 14, 15, 16, 17, 18, 19, 20, 2, 22] E σ σ a := fm.rf
    have inX11 : ∀ w ∈ wsX110, w ∈ wsX11_readThing := by decide +kernel
    have fl0 := hts (.fieldLink RX11 136 "NestQueryModel" "token" "I") (by decide +kernel)
    have fl1 := hts (.fieldLink RX11 162 "NestQueryModel" "bad" "I") (by decide +kernel)
    have fl2 := hts (.fieldLink RX11 188 "NestQueryModel" "dataMany" "I") (by decide +kernel)
    have fl3 := hts (.fieldLink RX11 13 "NestQueryModel" "data" "[I") (by decide +kernel)
    have hl := lv_entry ([.ref a, .int (I ky), .int (I dp)]) (n := 5) (Nat.le_of_ble_eq_true rfl)
    rw [lg_entry_eq]
    generalize (lg_sl ([.ref a, .int (I ky), .int (I dp)]) ++ List.replicate (5 - (lg_sl ([.ref a, .int (I ky), .int (I dp)])).length) Slot.unset).toArray = ls at hl ⊢
    have hl : lv_has ls 5 [(0, .ref a), (1, .int (I ky)), (2, .int (I dp))] := hl
    obtain ⟨a110, ea110, ra110, la110, ua110⟩ := hO.gi h_a (by decide) k13_11
    obtain ⟨a130, ea130, ra130, la130, ua130⟩ := hO.gi h_a (by decide) k13_13
    obtain ⟨a140, ea140, ra140, la140, ua140⟩ := hO.gi h_a (by decide) k13_14
    obtain ⟨a170, ea170, ra170, la170, ua170⟩ := hO.gi h_a (by decide) k13_17
    obtain ⟨a190, ea190, ra190, la190, ua190⟩ := hO.gi h_a (by decide) k13_19
    obtain ⟨a220, ea220, ra220, la220, ua220⟩ := hO.gi h_a (by decide) k13_22
    have hV0 := hR0.1
    have h0_1 : fc = 0 := by omega
    try simp only [h0_1, ne_eq, not_true_eq_false, not_false_eq_true, false_implies, true_implies, true_and, and_true, eq_self, false_or, or_false, false_and, and_false] at hV0
    refine lv_aload_n hx hb dX11_readThing_0 rfl (lv_at hl 0 rfl) ?_
    refine ok.getIc hO h_a (by decide) k13_14 ea140 (fun _ _ he hv kk => th_get (ci := 11) (C := RX11) (T := TX11) (N := 66) hx hb hts inX11 hown hK hH he rfl 14 (by decide) fl0 hv dX11_readThing_1 kk) ?_
    have ht_2 := hR0.t1
    have ht_3 := hR0.t2
    refine lv_iconst (v := I 2) hx hb dX11_readThing_4 (by decide) ?_
    refine th_join (α := Int) (J := 48) (stk := fun x9 => [.int (I x9)]) (fun x9 σ9 H9 l9 ls9 => σ9 = σ ∧ th_H G b0 σ9 H9 ∧ va_S (th_A b0) s.heap H9 l9 ∧ lv_has ls9 5 [(0, .ref a), (1, .int (I ky)), (2, .int (I dp))] ∧ rng x9 ∧ ((x9 = 1 ∧ (tK T jt = 45 ∨ tK T jt = 257 ∨ tK T jt = 256 ∨ tK T jt = 91 ∨ tK T jt = 123)) ∨ (x9 = 0 ∧ ¬ (tK T jt = 45 ∨ tK T jt = 257 ∨ tK T jt = 256 ∨ tK T jt = 91 ∨ tK T jt = 123))) ∧ (x9 = 0 ∨ x9 = 1)) ?_ (fun jK_24 => ?_)
    · intro x9 σ_K_24 H locs ls hI9
      obtain ⟨w0q23, ex9⟩ : ∃ z, z = x9 := ⟨_, rfl⟩
      subst ex9
      obtain ⟨eK_24, hH, hS, hl, rw0q23, K_24_0, K_24_1⟩ := hI9
      replace eK_24 := eK_24.symm
      subst eK_24
      have hl : lv_has ls 5 [(0, .ref a), (1, .int (I ky)), (2, .int (I dp))] := hl
      have rw0q23 : rng w0q23 := rw0q23
      replace K_24_0 : (w0q23 = 1 ∧ (tK T jt = 45 ∨ tK T jt = 257 ∨ tK T jt = 256 ∨ tK T jt = 91 ∨ tK T jt = 123)) ∨ (w0q23 = 0 ∧ ¬ (tK T jt = 45 ∨ tK T jt = 257 ∨ tK T jt = 256 ∨ tK T jt = 91 ∨ tK T jt = 123)) := K_24_0
      replace K_24_1 : w0q23 = 0 ∨ w0q23 = 1 := K_24_1
      refine lv_istore_n (lv' := [(3, .int (I w0q23)), (0, .ref a), (1, .int (I ky)), (2, .int (I dp))]) hx hb dX11_readThing_48 rfl hl (by decide) rfl (fun ls hl => ?_)
      refine lv_iload_n hx hb dX11_readThing_49 rfl (lv_at hl 0 rfl) ?_
      refine lv_if_ne (tgt := 58) hx hb dX11_readThing_50 (by decide) (fun c_25 => ?_) (fun c_25 => ?_)
      · replace c_25 := mt (I_eq (a := w0q23) (b := 0) rw0q23 (show rng 0 from ⟨by decide, by decide⟩)).mpr c_25
        refine lv_aload_n hx hb dX11_readThing_58 rfl (lv_at hl 1 rfl) ?_
        refine ok.getIc hO h_a (by decide) k13_19 ea190 (fun _ _ he hv kk => th_get (ci := 11) (C := RX11) (T := TX11) (N := 66) hx hb hts inX11 hown hK hH he rfl 19 (by decide) fl1 hv dX11_readThing_59 kk) ?_
        refine lv_if_ne (tgt := 85) hx hb dX11_readThing_62 (by decide) (fun c_26 => ?_) (fun c_26 => ?_)
        · replace c_26 := mt (I_eq (a := a190) (b := 0) ra190 (show rng 0 from ⟨by decide, by decide⟩)).mpr c_26
          exfalso; omega
        · replace c_26 := (I_eq (a := a190) (b := 0) ra190 (show rng 0 from ⟨by decide, by decide⟩)).mp c_26
          refine lv_aload_n hx hb dX11_readThing_65 rfl (lv_at hl 1 rfl) ?_
          refine ok.getIc hO h_a (by decide) k13_22 ea220 (fun _ _ he hv kk => th_get (ci := 11) (C := RX11) (T := TX11) (N := 66) hx hb hts inX11 hown hK hH he rfl 22 (by decide) fl2 hv dX11_readThing_66 kk) ?_
          refine lv_bipush (v := I 60) hx hb dX11_readThing_69 (by decide) ?_
          refine lv_icmp_eq (tgt := 80) hx hb dX11_readThing_71 (by decide) (fun c_27 => ?_) (fun c_27 => ?_)
          · replace c_27 := (I_eq (a := a220) (b := 60) ra220 (show rng 60 from ⟨by decide, by decide⟩)).mp c_27
            refine lv_aload_n hx hb dX11_readThing_80 rfl (lv_at hl 1 rfl) ?_
            refine lv_iconst (v := I 2) hx hb dX11_readThing_81 (by decide) ?_
            obtain ⟨_, hc_28⟩ := hO.cell h_a (by decide) (ci := 11) rfl
            refine th_callv (va_runV (As := [.int (I 2)]) (rest := []) ⟨hx, hb, hml, hown, hts⟩ (n_wrong l G y b0 σ E hO a h_a 2 (show rng 2 from (show rng 2 from ⟨by decide, by decide⟩)) (by omega) (by omega) Bf hsr T hSt fc jt hR0) (cwV 1 hts gX11_readThing_X11_wrong rfl rfl rfl (by decide +kernel) ⟨(by first | (simp only [headSpec]; omega) | omega | (dsimp only; omega)), (by first | (simp only [headSpec]; omega) | omega | (dsimp only; omega))⟩) (th_PV hK hH rfl hc_28) rfl rfl hl.1 rfl (lv_room (Nat.le_of_ble_eq_true rfl)) dX11_readThing_82 ⟨(by first | (simp only [headSpec]; omega) | omega | (dsimp only; omega)), (by first | (simp only [headSpec]; omega) | omega | (dsimp only; omega))⟩) hS (fun σ_s_30 H locs hw_29 hH hS => ?_)
            obtain ⟨hO9, hF9, hM9, hw_29⟩ := hw_29
            replace hM := hM.tu hM9 (by decide)
            replace hF := hF.tu hF9 (by decide)
            have e_31 : aF σ_s_30 (ad E a 2) = f2 := (hM9.a (by decide) (by decide)).trans ef2
            have e_32 : gI σ_s_30 a 11 = a110 := (hM9.i (by decide)).trans ea110
            have e_33 : gI σ_s_30 a 13 = a130 := (hM9.i (by decide)).trans ea130
            have e_34 : gI σ_s_30 a 14 = a140 := (hM9.i (by decide)).trans ea140
            have e_35 : gI σ_s_30 a 17 = a170 := (hM9.i (by decide)).trans ea170
            have e_36 : gI σ_s_30 a 22 = a220 := (hM9.i (by decide)).trans ea220
            replace hsr := hsr.mv hM9 (by decide) (by decide) (by decide) (by decide) (by decide)
            replace hO := hO9
            replace hw_29 : (¬ gI σ_s_30 a 19 = 0 ∧ (gI σ a 19 = 0 ∨ gI σ_s_30 a 19 = gI σ a 19)) ∧ ∃ c1 j1, RSt σ_s_30 a T c1 j1 ∧ (j1 = jt ∧ (fc = 0 → c1 = 2) ∧ (fc ≠ 0 → c1 = fc)) := hw_29
            have hn_37 := hw_29.2
            replace hw_29 := hw_29.1
            obtain ⟨cc_38, jj_39, hR_40, hn_37⟩ := hn_37
            have hVhR_40 := hR_40.1
            have hj9 := hn_37.1.symm
            subst hj9
            have h0_41 : ¬ cc_38 = 0 := by omega
            try simp only [h0_41, ne_eq, not_true_eq_false, not_false_eq_true, false_implies, true_implies, true_and, and_true, eq_self, false_or, or_false, false_and, and_false] at hVhR_40
            refine lv_aload_n hx hb dX11_readThing_85 rfl (lv_at hl 1 rfl) ?_
            refine ok.getI hO h_a (by decide) k13_19 (fun _ _ he hv kk => th_get (ci := 11) (C := RX11) (T := TX11) (N := 66) hx hb hts inX11 hown hK hH he rfl 19 (by decide) fl1 hv dX11_readThing_86 kk) (fun z_42 e_43 rz_42 lz_42 uz_42 => ?_)
            refine lv_if_eq (tgt := 93) hx hb dX11_readThing_89 (by decide) (fun c_44 => ?_) (fun c_44 => ?_)
            · replace c_44 := (I_eq (a := z_42) (b := 0) rz_42 (show rng 0 from ⟨by decide, by decide⟩)).mp c_44
              exfalso; omega
            · replace c_44 := mt (I_eq (a := z_42) (b := 0) rz_42 (show rng 0 from ⟨by decide, by decide⟩)).mpr c_44
              exact th_vret hx hb hr hlocks hH hS ⟨hO, hF, hM, ⟨⟨⟨⟨by omega, by omega, by omega, by omega⟩, pgo.of (by omega)⟩, by omega, Or.inl (by omega)⟩, cc_38, jt, hR_40, (by first | exact PTh.no (by unfold beg; omega) (by omega) (by omega) | exact PTh.much (by unfold beg; omega) (by omega) (by omega) (by omega))⟩⟩ dX11_readThing_92
          · replace c_27 := mt (I_eq (a := a220) (b := 60) ra220 (show rng 60 from ⟨by decide, by decide⟩)).mpr c_27
            refine lv_iload_n hx hb dX11_readThing_74 rfl (lv_at hl 3 rfl) ?_
            refine lv_bipush (v := I 7) hx hb dX11_readThing_75 (by decide) ?_
            refine lv_icmp_le (tgt := 85) hx hb dX11_readThing_77 (by decide) (fun c_45 => ?_) (fun c_45 => ?_)
            · replace c_45 := (I_le (a := dp) (b := 7) rdp (show rng 7 from ⟨by decide, by decide⟩)).mp c_45
              refine lv_aload_n hx hb dX11_readThing_85 rfl (lv_at hl 1 rfl) ?_
              refine ok.getIc hO h_a (by decide) k13_19 ea190 (fun _ _ he hv kk => th_get (ci := 11) (C := RX11) (T := TX11) (N := 66) hx hb hts inX11 hown hK hH he rfl 19 (by decide) fl1 hv dX11_readThing_86 kk) ?_
              refine lv_if_eq (tgt := 93) hx hb dX11_readThing_89 (by decide) (fun c_46 => ?_) (fun c_46 => ?_)
              · replace c_46 := (I_eq (a := a190) (b := 0) ra190 (show rng 0 from ⟨by decide, by decide⟩)).mp c_46
                have hn8 : (8 : Int) - dp < n + 1 := by omega
                have hq71 : a220 < 60 := by omega
                have hq72 : dp ≤ 7 := by omega
                clear hn
                refine lv_iconst (v := I 4) hx hb dX11_readThing_93 (by decide) ?_
                refine lv_aload_n hx hb dX11_readThing_94 rfl (lv_at hl 1 rfl) ?_
                refine ok.getIc hO h_a (by decide) k13_22 ea220 (fun _ _ he hv kk => th_get (ci := 11) (C := RX11) (T := TX11) (N := 66) hx hb hts inX11 hown hK hH he rfl 22 (by decide) fl2 hv dX11_readThing_95 kk) ?_
                refine lv_imul hx hb dX11_readThing_98 ?_
                refine nq_top (I_mul _ _) ?_
                refine lv_istore (lv' := [(4, .int (I (4 * a220))), (3, .int (I w0q23)), (0, .ref a), (1, .int (I ky)), (2, .int (I dp))]) hx hb dX11_readThing_99 hl (by decide) rfl (fun ls hl => ?_)
                refine lv_aload_n hx hb dX11_readThing_101 rfl (lv_at hl 2 rfl) ?_
                refine lv_dup hx hb dX11_readThing_102 rfl ?_
                refine ok.getIc hO h_a (by decide) k13_22 ea220 (fun _ _ he hv kk => th_get (ci := 11) (C := RX11) (T := TX11) (N := 66) hx hb hts inX11 hown hK hH he rfl 22 (by decide) fl2 hv dX11_readThing_103 kk) ?_
                refine lv_iconst (v := I 1) hx hb dX11_readThing_106 (by decide) ?_
                refine lv_iadd hx hb dX11_readThing_107 ?_
                refine nq_top (I_add _ _) ?_
                refine ok.putJ hO h_a k13_22 ⟨by omega, by omega⟩ (by omega) (by omega) (fun _ he hl9 kk => th_put (ci := 11) (v := .int (I (a220 + 1))) (ty := .int) (C := RX11) (T := TX11) (N := 66) hx hb hts inX11 tyX11 tyX11_ok nmX11 hown hK hH hS h00 he rfl 22 (by decide) fl2 rfl (by decide +kernel) rfl rfl hl9 dX11_readThing_108 kk) (fun σ_s_47 H locs hO hF9 hM9 hg9 ha9 hH hS => ?_)
                replace hM := hM.tu hM9 (by decide)
                replace hF := hF.tu hF9 (by decide)
                have e_48 : aF σ_s_47 (ad E a 2) = f2 := (hM9.a (by decide) (by decide)).trans ef2
                have e_49 : gI σ_s_47 a 11 = a110 := (hM9.i (by decide)).trans ea110
                have e_50 : gI σ_s_47 a 13 = a130 := (hM9.i (by decide)).trans ea130
                have e_51 : gI σ_s_47 a 14 = a140 := (hM9.i (by decide)).trans ea140
                have e_52 : gI σ_s_47 a 17 = a170 := (hM9.i (by decide)).trans ea170
                have e_53 : gI σ_s_47 a 19 = a190 := (hM9.i (by decide)).trans ea190
                replace hsr := hsr.mv hM9 (by decide) (by decide) (by decide) (by decide) (by decide)
                have hR_54 : RSt σ_s_47 a T fc jt := RSt.mv hM9 (by decide) (by decide) (by decide) (by decide) (by decide) (by decide) (by decide) hR0
                have hVhR_54 := hR_54.1
                have e_55 := hg9
                refine lv_aload_n hx hb dX11_readThing_111 rfl (lv_at hl 2 rfl) ?_
                refine ok.getR hO h_a (by decide) k13_2 (by decide) (fun _ _ he hv kk => th_get (ci := 11) (C := RX11) (T := TX11) (N := 66) hx hb hts inX11 hown hK hH he rfl 2 (by decide) fl3 hv dX11_readThing_112 kk) ?_
                refine lv_iload hx hb dX11_readThing_115 (lv_at hl 0 rfl) ?_
                refine lv_iconst (v := I 2) hx hb dX11_readThing_117 (by decide) ?_
                refine lv_iadd hx hb dX11_readThing_118 ?_
                refine nq_top (I_add _ _) ?_
                refine lv_iload_n hx hb dX11_readThing_119 rfl (lv_at hl 3 rfl) ?_
                refine m_iast hx hb hK hH hS h00 hO h_a k13_2 isA1 (by decide) e_48 ⟨by omega, by omega⟩ (by omega) (by omega) rky el1 dX11_readThing_120 (fun σ_s_56 H locs hO hF9 hM9 ha9 hH hS => ?_)
                replace hM := hM.tu hM9 (by decide)
                replace hF := hF.tu hF9 (by decide)
                have e_57 : gI σ_s_56 a 11 = a110 := (hM9.i (by decide)).trans e_49
                have e_58 : gI σ_s_56 a 13 = a130 := (hM9.i (by decide)).trans e_50
                have e_59 : gI σ_s_56 a 14 = a140 := (hM9.i (by decide)).trans e_51
                have e_60 : gI σ_s_56 a 17 = a170 := (hM9.i (by decide)).trans e_52
                have e_61 : gI σ_s_56 a 19 = a190 := (hM9.i (by decide)).trans e_53
                have e_62 : gI σ_s_56 a 22 = a220 + 1 := (hM9.i (by decide)).trans e_55
                replace hsr := hsr.mv hM9 (by decide) (by decide) (by decide) (by decide) (by decide)
                have hR_63 : RSt σ_s_56 a T fc jt := RSt.mv hM9 (by decide) (by decide) (by decide) (by decide) (by decide) (by decide) (by decide) hR_54
                have hVhR_63 := hR_63.1
                obtain ⟨g_64, dg_64⟩ : ∃ g9, g9 = upd f2 (4 * a220 + 2).toNat (I ky) := ⟨_, rfl⟩
                rw [← dg_64] at ha9
                have ef_65 := ha9
                refine lv_aload_n hx hb dX11_readThing_121 rfl (lv_at hl 2 rfl) ?_
                refine ok.getR hO h_a (by decide) k13_2 (by decide) (fun _ _ he hv kk => th_get (ci := 11) (C := RX11) (T := TX11) (N := 66) hx hb hts inX11 hown hK hH he rfl 2 (by decide) fl3 hv dX11_readThing_122 kk) ?_
                refine lv_iload hx hb dX11_readThing_125 (lv_at hl 0 rfl) ?_
                refine lv_iconst (v := I 1) hx hb dX11_readThing_127 (by decide) ?_
                refine lv_iadd hx hb dX11_readThing_128 ?_
                refine nq_top (I_add _ _) ?_
                refine lv_iconst (v := I 0) hx hb dX11_readThing_129 (by decide) ?_
                refine m_iast hx hb hK hH hS h00 hO h_a k13_2 isA1 (by decide) ef_65 ⟨by omega, by omega⟩ (by omega) (by omega) (show rng 0 from ⟨by decide, by decide⟩) el1 dX11_readThing_130 (fun σ_s_66 H locs hO hF9 hM9 ha9 hH hS => ?_)
                replace hM := hM.tu hM9 (by decide)
                replace hF := hF.tu hF9 (by decide)
                have e_67 : gI σ_s_66 a 11 = a110 := (hM9.i (by decide)).trans e_57
                have e_68 : gI σ_s_66 a 13 = a130 := (hM9.i (by decide)).trans e_58
                have e_69 : gI σ_s_66 a 14 = a140 := (hM9.i (by decide)).trans e_59
                have e_70 : gI σ_s_66 a 17 = a170 := (hM9.i (by decide)).trans e_60
                have e_71 : gI σ_s_66 a 19 = a190 := (hM9.i (by decide)).trans e_61
                have e_72 : gI σ_s_66 a 22 = a220 + 1 := (hM9.i (by decide)).trans e_62
                replace hsr := hsr.mv hM9 (by decide) (by decide) (by decide) (by decide) (by decide)
                have hR_73 : RSt σ_s_66 a T fc jt := RSt.mv hM9 (by decide) (by decide) (by decide) (by decide) (by decide) (by decide) (by decide) hR_63
                have hVhR_73 := hR_73.1
                obtain ⟨g_74, dg_74⟩ : ∃ g9, g9 = upd g_64 (4 * a220 + 1).toNat (I 0) := ⟨_, rfl⟩
                rw [← dg_74] at ha9
                have ef_75 := ha9
                refine lv_aload_n hx hb dX11_readThing_131 rfl (lv_at hl 2 rfl) ?_
                refine ok.getIc hO h_a (by decide) k13_14 e_69 (fun _ _ he hv kk => th_get (ci := 11) (C := RX11) (T := TX11) (N := 66) hx hb hts inX11 hown hK hH he rfl 14 (by decide) fl0 hv dX11_readThing_132 kk) ?_
                have ht_76 := hR_73.t1
                have ht_77 := hR_73.t2
                refine lv_iconst (v := I 1) hx hb dX11_readThing_135 (by decide) ?_
                refine lv_icmp_ne (tgt := 163) hx hb dX11_readThing_136 (by decide) (fun c_78 => ?_) (fun c_78 => ?_)
                · replace c_78 := mt (I_eq (a := a140) (b := 1) ra140 (show rng 1 from ⟨by decide, by decide⟩)).mpr c_78
                  refine lv_aload_n hx hb dX11_readThing_163 rfl (lv_at hl 2 rfl) ?_
                  refine lv_bipush (v := I 91) hx hb dX11_readThing_164 (by decide) ?_
                  obtain ⟨_, hc_79⟩ := hO.cell h_a (by decide) (ci := 11) rfl
                  refine th_calli (va_runV (As := [.int (I 91)]) (rest := []) ⟨hx, hb, hml, hown, hts⟩ (n_isMarked l G y b0 σ_s_66 E hO a h_a 91 (show rng 91 from (show rng 91 from ⟨by decide, by decide⟩)) (by omega) (by omega) Bf hsr T hSt fc jt hR_73 (by omega)) (cwV 1 hts gX11_readThing_X11_isMarked rfl rfl rfl (by decide +kernel) ⟨(by first | (simp only [headSpec]; omega) | omega | (dsimp only; omega)), (by first | (simp only [headSpec]; omega) | omega | (dsimp only; omega))⟩) (th_PV hK hH rfl hc_79) rfl rfl hl.1 rfl (lv_room (Nat.le_of_ble_eq_true rfl)) dX11_readThing_166 ⟨(by first | (simp only [headSpec]; omega) | omega | (dsimp only; omega)), (by first | (simp only [headSpec]; omega) | omega | (dsimp only; omega))⟩) hS (fun z_82 σ_s_81 H locs rz_82 hw_80 hH hS => ?_)
                  obtain ⟨e9, bhw_80, hw_80⟩ := hw_80
                  replace e9 := e9.symm
                  subst e9
                  replace hw_80 : (z_82 = 1 ∧ fc = 0 ∧ tK T jt = 91) ∨ (z_82 = 0 ∧ (fc ≠ 0 ∨ tK T jt ≠ 91)) := hw_80
                  refine lv_if_eq (tgt := 192) hx hb dX11_readThing_169 (by decide) (fun c_83 => ?_) (fun c_83 => ?_)
                  · replace c_83 := (I_eq (a := z_82) (b := 0) rz_82 (show rng 0 from ⟨by decide, by decide⟩)).mp c_83
                    refine lv_aload_n hx hb dX11_readThing_192 rfl (lv_at hl 2 rfl) ?_
                    refine lv_bipush (v := I 123) hx hb dX11_readThing_193 (by decide) ?_
                    obtain ⟨_, hc_84⟩ := hO.cell h_a (by decide) (ci := 11) rfl
                    refine th_calli (va_runV (As := [.int (I 123)]) (rest := []) ⟨hx, hb, hml, hown, hts⟩ (n_isMarked l G y b0 σ_s_66 E hO a h_a 123 (show rng 123 from (show rng 123 from ⟨by decide, by decide⟩)) (by omega) (by omega) Bf hsr T hSt fc jt hR_73 (by omega)) (cwV 1 hts gX11_readThing_X11_isMarked rfl rfl rfl (by decide +kernel) ⟨(by first | (simp only [headSpec]; omega) | omega | (dsimp only; omega)), (by first | (simp only [headSpec]; omega) | omega | (dsimp only; omega))⟩) (th_PV hK hH rfl hc_84) rfl rfl hl.1 rfl (lv_room (Nat.le_of_ble_eq_true rfl)) dX11_readThing_195 ⟨(by first | (simp only [headSpec]; omega) | omega | (dsimp only; omega)), (by first | (simp only [headSpec]; omega) | omega | (dsimp only; omega))⟩) hS (fun z_87 σ_s_86 H locs rz_87 hw_85 hH hS => ?_)
                    obtain ⟨e9, bhw_85, hw_85⟩ := hw_85
                    replace e9 := e9.symm
                    subst e9
                    replace hw_85 : (z_87 = 1 ∧ fc = 0 ∧ tK T jt = 123) ∨ (z_87 = 0 ∧ (fc ≠ 0 ∨ tK T jt ≠ 123)) := hw_85
                    refine lv_if_eq (tgt := 221) hx hb dX11_readThing_198 (by decide) (fun c_88 => ?_) (fun c_88 => ?_)
                    · replace c_88 := (I_eq (a := z_87) (b := 0) rz_87 (show rng 0 from ⟨by decide, by decide⟩)).mp c_88
                      have hk9 : tK T jt = 45 ∨ tK T jt = 257 := by omega
                      try clear hw_80
                      try clear hw_85
                      try clear K_24_0
                      refine lv_aload_n hx hb dX11_readThing_221 rfl (lv_at hl 2 rfl) ?_
                      refine ok.getR hO h_a (by decide) k13_2 (by decide) (fun _ _ he hv kk => th_get (ci := 11) (C := RX11) (T := TX11) (N := 66) hx hb hts inX11 hown hK hH he rfl 2 (by decide) fl3 hv dX11_readThing_222 kk) ?_
                      refine lv_iload hx hb dX11_readThing_225 (lv_at hl 0 rfl) ?_
                      refine lv_iconst (v := I 0) hx hb dX11_readThing_227 (by decide) ?_
                      refine m_iast hx hb hK hH hS h00 hO h_a k13_2 isA1 (by decide) ef_75 ⟨by omega, by omega⟩ (by omega) (by omega) (show rng 0 from ⟨by decide, by decide⟩) el1 dX11_readThing_228 (fun σ_s_89 H locs hO hF9 hM9 ha9 hH hS => ?_)
                      replace hM := hM.tu hM9 (by decide)
                      replace hF := hF.tu hF9 (by decide)
                      have e_90 : gI σ_s_89 a 11 = a110 := (hM9.i (by decide)).trans e_67
                      have e_91 : gI σ_s_89 a 13 = a130 := (hM9.i (by decide)).trans e_68
                      have e_92 : gI σ_s_89 a 14 = a140 := (hM9.i (by decide)).trans e_69
                      have e_93 : gI σ_s_89 a 17 = a170 := (hM9.i (by decide)).trans e_70
                      have e_94 : gI σ_s_89 a 19 = a190 := (hM9.i (by decide)).trans e_71
                      have e_95 : gI σ_s_89 a 22 = a220 + 1 := (hM9.i (by decide)).trans e_72
                      replace hsr := hsr.mv hM9 (by decide) (by decide) (by decide) (by decide) (by decide)
                      have hR_96 : RSt σ_s_89 a T fc jt := RSt.mv hM9 (by decide) (by decide) (by decide) (by decide) (by decide) (by decide) (by decide) hR_73
                      have hVhR_96 := hR_96.1
                      obtain ⟨g_97, dg_97⟩ : ∃ g9, g9 = upd g_74 (4 * a220).toNat (I 0) := ⟨_, rfl⟩
                      rw [← dg_97] at ha9
                      have ef_98 := ha9
                      refine lv_aload_n hx hb dX11_readThing_229 rfl (lv_at hl 2 rfl) ?_
                      refine ok.getR hO h_a (by decide) k13_2 (by decide) (fun _ _ he hv kk => th_get (ci := 11) (C := RX11) (T := TX11) (N := 66) hx hb hts inX11 hown hK hH he rfl 2 (by decide) fl3 hv dX11_readThing_230 kk) ?_
                      refine lv_iload hx hb dX11_readThing_233 (lv_at hl 0 rfl) ?_
                      refine lv_iconst (v := I 1) hx hb dX11_readThing_235 (by decide) ?_
                      refine lv_iadd hx hb dX11_readThing_236 ?_
                      refine nq_top (I_add _ _) ?_
                      refine lv_aload_n hx hb dX11_readThing_237 rfl (lv_at hl 2 rfl) ?_
                      obtain ⟨_, hc_99⟩ := hO.cell h_a (by decide) (ci := 11) rfl
                      refine th_calli (va_runV (As := []) (rest := [.int (I (4 * a220 + 1)), .ref (ad E a 2)]) ⟨hx, hb, hml, hown, hts⟩ (n_readNumber l G y b0 σ_s_89 E hO a h_a Bf hsr T hSt fc jt hR_96 (by omega)) (cwV 0 hts gX11_readThing_X11_readNumber rfl rfl rfl (by decide +kernel) ⟨(by first | (simp only [headSpec]; omega) | omega | (dsimp only; omega)), (by first | (simp only [headSpec]; omega) | omega | (dsimp only; omega))⟩) (th_PV hK hH rfl hc_99) rfl rfl hl.1 rfl (lv_room (Nat.le_of_ble_eq_true rfl)) dX11_readThing_238 ⟨(by first | (simp only [headSpec]; omega) | omega | (dsimp only; omega)), (by first | (simp only [headSpec]; omega) | omega | (dsimp only; omega))⟩) hS (fun z_102 σ_s_101 H locs rz_102 hw_100 hH hS => ?_)
                      obtain ⟨hO9, hF9, hM9, hw_100⟩ := hw_100
                      replace hM := hM.tu hM9 (by decide)
                      replace hF := hF.tu hF9 (by decide)
                      have e_103 : gI σ_s_101 a 11 = a110 := (hM9.i (by decide)).trans e_90
                      have e_104 : gI σ_s_101 a 22 = a220 + 1 := (hM9.i (by decide)).trans e_95
                      have e_105 : aF σ_s_101 (ad E a 2) = g_97 := (hM9.a (by decide) (by decide)).trans ef_98
                      replace hsr := hsr.mv hM9 (by decide) (by decide) (by decide) (by decide) (by decide)
                      replace hO := hO9
                      replace hw_100 : ((gI σ_s_89 a 13 ≤ gI σ_s_101 a 13 ∧ gI σ_s_101 a 13 ≤ gI σ_s_89 a 11 ∧ 0 ≤ gI σ_s_101 a 17 ∧ gI σ_s_101 a 17 ≤ gI σ_s_101 a 13) ∧ pgo (gI σ_s_101 a 19) (gI σ_s_101 a 14) (gI σ_s_89 a 13) (gI σ_s_101 a 13) ∧ bdo (gI σ_s_89 a 19) (gI σ_s_101 a 19)) ∧ ∃ c1 j1, RSt σ_s_101 a T c1 j1 ∧ ((fc ≠ 0 → c1 = fc ∧ j1 = jt) ∧ (fc = 0 → nuR T jt c1 j1)) := hw_100
                      have hn_106 := hw_100.2
                      replace hw_100 := hw_100.1
                      obtain ⟨cc_107, jj_108, hR_109, hn_106⟩ := hn_106
                      have hVhR_109 := hR_109.1
                      obtain ⟨z_110, e_111, rz_110, lz_110, uz_110⟩ := hO.gi h_a (by decide) k13_13
                      obtain ⟨z_112, e_113, rz_112, lz_112, uz_112⟩ := hO.gi h_a (by decide) k13_14
                      obtain ⟨z_114, e_115, rz_114, lz_114, uz_114⟩ := hO.gi h_a (by decide) k13_17
                      obtain ⟨z_116, e_117, rz_116, lz_116, uz_116⟩ := hO.gi h_a (by decide) k13_19
                      refine m_iast hx hb hK hH hS h00 hO h_a k13_2 isA1 (by decide) e_105 ⟨by omega, by omega⟩ (by omega) (by omega) rz_102 el1 dX11_readThing_241 (fun σ_s_118 H locs hO hF9 hM9 ha9 hH hS => ?_)
                      replace hM := hM.tu hM9 (by decide)
                      replace hF := hF.tu hF9 (by decide)
                      have e_119 : gI σ_s_118 a 11 = a110 := (hM9.i (by decide)).trans e_103
                      have e_120 : gI σ_s_118 a 22 = a220 + 1 := (hM9.i (by decide)).trans e_104
                      have e_121 : gI σ_s_118 a 13 = z_110 := (hM9.i (by decide)).trans e_111
                      have e_122 : gI σ_s_118 a 14 = z_112 := (hM9.i (by decide)).trans e_113
                      have e_123 : gI σ_s_118 a 17 = z_114 := (hM9.i (by decide)).trans e_115
                      have e_124 : gI σ_s_118 a 19 = z_116 := (hM9.i (by decide)).trans e_117
                      replace hsr := hsr.mv hM9 (by decide) (by decide) (by decide) (by decide) (by decide)
                      have hR_125 : RSt σ_s_118 a T cc_107 jj_108 := RSt.mv hM9 (by decide) (by decide) (by decide) (by decide) (by decide) (by decide) (by decide) hR_109
                      have hVhR_125 := hR_125.1
                      obtain ⟨g_126, dg_126⟩ : ∃ g9, g9 = upd g_97 (4 * a220 + 1).toNat (I z_102) := ⟨_, rfl⟩
                      rw [← dg_126] at ha9
                      have ef_127 := ha9
                      refine lv_aload_n hx hb dX11_readThing_242 rfl (lv_at hl 2 rfl) ?_
                      refine ok.getR hO h_a (by decide) k13_2 (by decide) (fun _ _ he hv kk => th_get (ci := 11) (C := RX11) (T := TX11) (N := 66) hx hb hts inX11 hown hK hH he rfl 2 (by decide) fl3 hv dX11_readThing_243 kk) ?_
                      refine lv_iload hx hb dX11_readThing_246 (lv_at hl 0 rfl) ?_
                      refine lv_iconst (v := I 3) hx hb dX11_readThing_248 (by decide) ?_
                      refine lv_iadd hx hb dX11_readThing_249 ?_
                      refine nq_top (I_add _ _) ?_
                      refine lv_aload_n hx hb dX11_readThing_250 rfl (lv_at hl 2 rfl) ?_
                      refine ok.getIc hO h_a (by decide) k13_22 e_120 (fun _ _ he hv kk => th_get (ci := 11) (C := RX11) (T := TX11) (N := 66) hx hb hts inX11 hown hK hH he rfl 22 (by decide) fl2 hv dX11_readThing_251 kk) ?_
                      refine lv_iload hx hb dX11_readThing_254 (lv_at hl 0 rfl) ?_
                      refine lv_iconst (v := I 4) hx hb dX11_readThing_256 (by decide) ?_
                      refine lv_idiv hx hb dX11_readThing_257 (by decide) ?_
                      refine th_div (n := 4) ⟨by omega, by omega⟩ (by omega) (by decide) (fun z_128 rz_128 hz_128 => ?_)
                      refine lv_isub hx hb dX11_readThing_258 ?_
                      refine th_subo (fun z_129 rz_129 hz_129 => ?_)
                      refine m_iast hx hb hK hH hS h00 hO h_a k13_2 isA1 (by decide) ef_127 ⟨by omega, by omega⟩ (by omega) (by omega) rz_129 el1 dX11_readThing_259 (fun σ_s_130 H locs hO hF9 hM9 ha9 hH hS => ?_)
                      replace hM := hM.tu hM9 (by decide)
                      replace hF := hF.tu hF9 (by decide)
                      have e_131 : gI σ_s_130 a 11 = a110 := (hM9.i (by decide)).trans e_119
                      have e_132 : gI σ_s_130 a 22 = a220 + 1 := (hM9.i (by decide)).trans e_120
                      have e_133 : gI σ_s_130 a 13 = z_110 := (hM9.i (by decide)).trans e_121
                      have e_134 : gI σ_s_130 a 14 = z_112 := (hM9.i (by decide)).trans e_122
                      have e_135 : gI σ_s_130 a 17 = z_114 := (hM9.i (by decide)).trans e_123
                      have e_136 : gI σ_s_130 a 19 = z_116 := (hM9.i (by decide)).trans e_124
                      replace hsr := hsr.mv hM9 (by decide) (by decide) (by decide) (by decide) (by decide)
                      have hR_137 : RSt σ_s_130 a T cc_107 jj_108 := RSt.mv hM9 (by decide) (by decide) (by decide) (by decide) (by decide) (by decide) (by decide) hR_125
                      have hVhR_137 := hR_137.1
                      obtain ⟨g_138, dg_138⟩ : ∃ g9, g9 = upd g_126 (4 * a220 + 3).toNat (I z_129) := ⟨_, rfl⟩
                      rw [← dg_138] at ha9
                      have ef_139 := ha9
                      exact th_vret hx hb hr hlocks hH hS ⟨hO, hF, hM, ⟨⟨⟨⟨by omega, by omega, by omega, by omega⟩, (pgo.up (show pgo (gI σ_s_101 a 19) (gI σ_s_101 a 14) (gI σ_s_89 a 13) (gI σ_s_101 a 13) from hw_100.2.1) (e_136.trans e_117.symm) (e_134.trans e_113.symm) (by omega) (e_133.trans e_111.symm))⟩, by omega, by rw [show gI σ a 22 = a220 from ea220, show gI σ_s_130 a 22 = a220 + 1 from e_132, show aF σ_s_130 (ad E a 2) = g_138 from ef_139]; exact Or.inr (rdT_leaf dg_64 dg_74 dg_97 dg_126 dg_138 rky (show rng z_129 from rz_129) (by omega) hq72 (by omega))⟩, cc_107, jj_108, hR_137, PIt.numC (by omega) (by omega) (hn_106.2 (by omega)) (by omega)⟩⟩ dX11_readThing_260
                    · replace c_88 := mt (I_eq (a := z_87) (b := 0) rz_87 (show rng 0 from ⟨by decide, by decide⟩)).mpr c_88
                      have hk9 : tK T jt = 123 := by omega
                      try clear hw_80
                      try clear hw_85
                      try clear K_24_0
                      refine lv_aload_n hx hb dX11_readThing_201 rfl (lv_at hl 2 rfl) ?_
                      refine ok.getR hO h_a (by decide) k13_2 (by decide) (fun _ _ he hv kk => th_get (ci := 11) (C := RX11) (T := TX11) (N := 66) hx hb hts inX11 hown hK hH he rfl 2 (by decide) fl3 hv dX11_readThing_202 kk) ?_
                      refine lv_iload hx hb dX11_readThing_205 (lv_at hl 0 rfl) ?_
                      refine lv_iconst (v := I 3) hx hb dX11_readThing_207 (by decide) ?_
                      refine m_iast hx hb hK hH hS h00 hO h_a k13_2 isA1 (by decide) ef_75 ⟨by omega, by omega⟩ (by omega) (by omega) (show rng 3 from ⟨by decide, by decide⟩) el1 dX11_readThing_208 (fun σ_s_140 H locs hO hF9 hM9 ha9 hH hS => ?_)
                      replace hM := hM.tu hM9 (by decide)
                      replace hF := hF.tu hF9 (by decide)
                      have e_141 : gI σ_s_140 a 11 = a110 := (hM9.i (by decide)).trans e_67
                      have e_142 : gI σ_s_140 a 13 = a130 := (hM9.i (by decide)).trans e_68
                      have e_143 : gI σ_s_140 a 14 = a140 := (hM9.i (by decide)).trans e_69
                      have e_144 : gI σ_s_140 a 17 = a170 := (hM9.i (by decide)).trans e_70
                      have e_145 : gI σ_s_140 a 19 = a190 := (hM9.i (by decide)).trans e_71
                      have e_146 : gI σ_s_140 a 22 = a220 + 1 := (hM9.i (by decide)).trans e_72
                      replace hsr := hsr.mv hM9 (by decide) (by decide) (by decide) (by decide) (by decide)
                      have hR_147 : RSt σ_s_140 a T fc jt := RSt.mv hM9 (by decide) (by decide) (by decide) (by decide) (by decide) (by decide) (by decide) hR_73
                      have hVhR_147 := hR_147.1
                      obtain ⟨g_148, dg_148⟩ : ∃ g9, g9 = upd g_74 (4 * a220).toNat (I 3) := ⟨_, rfl⟩
                      rw [← dg_148] at ha9
                      have ef_149 := ha9
                      refine lv_aload_n hx hb dX11_readThing_209 rfl (lv_at hl 2 rfl) ?_
                      refine lv_iload hx hb dX11_readThing_210 (lv_at hl 0 rfl) ?_
                      refine lv_iload_n hx hb dX11_readThing_212 rfl (lv_at hl 4 rfl) ?_
                      refine lv_bipush (v := I 125) hx hb dX11_readThing_213 (by decide) ?_
                      obtain ⟨_, hc_150⟩ := hO.cell h_a (by decide) (ci := 11) rfl
                      refine th_callv (va_runV (As := [.int (I (4 * a220)), .int (I dp), .int (I 125)]) (rest := []) ⟨hx, hb, hml, hown, hts⟩ (n_readMany n ih l G y b0 σ_s_140 E hO a h_a (4 * a220) (show rng (4 * a220) from ⟨by omega, by omega⟩) (by omega) (by omega) dp (show rng dp from rdp) (by omega) (by omega) 125 (show rng 125 from (show rng 125 from ⟨by decide, by decide⟩)) g_148 ef_149 Bf hsr T hSt fc jt hR_147 2 (by omega) (by omega) (by omega) (by omega) (by omega) ((Or.inl ⟨(by rw [dg_148]; exact mK_upd (by omega) (by omega) ⟨by decide, by decide⟩), by omega, by omega, by omega⟩))) (cwV 3 hts gX11_readThing_X11_readMany rfl rfl rfl (by decide +kernel) ⟨(by first | (simp only [headSpec]; omega) | omega | (dsimp only; omega)), (by first | (simp only [headSpec]; omega) | omega | (dsimp only; omega))⟩) (th_PV hK hH rfl hc_150) rfl rfl hl.1 rfl (lv_room (Nat.le_of_ble_eq_true rfl)) dX11_readThing_215 ⟨(by first | (simp only [headSpec]; omega) | omega | (dsimp only; omega)), (by first | (simp only [headSpec]; omega) | omega | (dsimp only; omega))⟩) hS (fun σ_s_152 H locs hw_151 hH hS => ?_)
                      obtain ⟨hO9, hF9, hM9, hw_151⟩ := hw_151
                      replace hM := hM.tu hM9 (by decide)
                      replace hF := hF.tu hF9 (by decide)
                      have e_153 : gI σ_s_152 a 11 = a110 := (hM9.i (by decide)).trans e_141
                      replace hsr := hsr.mv hM9 (by decide) (by decide) (by decide) (by decide) (by decide)
                      replace hO := hO9
                      generalize ef_155 : aF σ_s_152 (ad E a 2) = g_154 at hw_151
                      replace hw_151 : (((gI σ_s_140 a 13 ≤ gI σ_s_152 a 13 ∧ gI σ_s_152 a 13 ≤ gI σ_s_140 a 11 ∧ 0 ≤ gI σ_s_152 a 17 ∧ gI σ_s_152 a 17 ≤ gI σ_s_152 a 13) ∧ pgo (gI σ_s_152 a 19) (gI σ_s_152 a 14) (gI σ_s_140 a 13) (gI σ_s_152 a 13)) ∧ gI σ_s_140 a 22 ≤ gI σ_s_152 a 22 ∧ (¬ gI σ_s_152 a 19 = 0 ∨ rdF g_148 g_154 ((4 * a220) / 4) (gI σ_s_152 a 22) dp)) ∧ ∃ c1 j1, RSt σ_s_152 a T c1 j1 ∧ PTh T dp jt ((4 * a220) / 4) c1 j1 (gI σ_s_152 a 22) := hw_151
                      have hn_156 := hw_151.2
                      replace hw_151 := hw_151.1
                      obtain ⟨cc_157, jj_158, hR_159, hn_156⟩ := hn_156
                      have hVhR_159 := hR_159.1
                      obtain ⟨z_160, e_161, rz_160, lz_160, uz_160⟩ := hO.gi h_a (by decide) k13_13
                      obtain ⟨z_162, e_163, rz_162, lz_162, uz_162⟩ := hO.gi h_a (by decide) k13_14
                      obtain ⟨z_164, e_165, rz_164, lz_164, uz_164⟩ := hO.gi h_a (by decide) k13_17
                      obtain ⟨z_166, e_167, rz_166, lz_166, uz_166⟩ := hO.gi h_a (by decide) k13_19
                      obtain ⟨z_168, e_169, rz_168, lz_168, uz_168⟩ := hO.gi h_a (by decide) k13_22
                      refine lv_goto (tgt := 242) hx hb dX11_readThing_218 (by decide) ?_
                      refine lv_aload_n hx hb dX11_readThing_242 rfl (lv_at hl 2 rfl) ?_
                      refine ok.getR hO h_a (by decide) k13_2 (by decide) (fun _ _ he hv kk => th_get (ci := 11) (C := RX11) (T := TX11) (N := 66) hx hb hts inX11 hown hK hH he rfl 2 (by decide) fl3 hv dX11_readThing_243 kk) ?_
                      refine lv_iload hx hb dX11_readThing_246 (lv_at hl 0 rfl) ?_
                      refine lv_iconst (v := I 3) hx hb dX11_readThing_248 (by decide) ?_
                      refine lv_iadd hx hb dX11_readThing_249 ?_
                      refine nq_top (I_add _ _) ?_
                      refine lv_aload_n hx hb dX11_readThing_250 rfl (lv_at hl 2 rfl) ?_
                      refine ok.getIc hO h_a (by decide) k13_22 e_169 (fun _ _ he hv kk => th_get (ci := 11) (C := RX11) (T := TX11) (N := 66) hx hb hts inX11 hown hK hH he rfl 22 (by decide) fl2 hv dX11_readThing_251 kk) ?_
                      refine lv_iload hx hb dX11_readThing_254 (lv_at hl 0 rfl) ?_
                      refine lv_iconst (v := I 4) hx hb dX11_readThing_256 (by decide) ?_
                      refine lv_idiv hx hb dX11_readThing_257 (by decide) ?_
                      refine th_div (n := 4) ⟨by omega, by omega⟩ (by omega) (by decide) (fun z_170 rz_170 hz_170 => ?_)
                      refine lv_isub hx hb dX11_readThing_258 ?_
                      refine th_subo (fun z_171 rz_171 hz_171 => ?_)
                      refine m_iast hx hb hK hH hS h00 hO h_a k13_2 isA1 (by decide) ef_155 ⟨by omega, by omega⟩ (by omega) (by omega) rz_171 el1 dX11_readThing_259 (fun σ_s_172 H locs hO hF9 hM9 ha9 hH hS => ?_)
                      replace hM := hM.tu hM9 (by decide)
                      replace hF := hF.tu hF9 (by decide)
                      have e_173 : gI σ_s_172 a 11 = a110 := (hM9.i (by decide)).trans e_153
                      have e_174 : gI σ_s_172 a 13 = z_160 := (hM9.i (by decide)).trans e_161
                      have e_175 : gI σ_s_172 a 14 = z_162 := (hM9.i (by decide)).trans e_163
                      have e_176 : gI σ_s_172 a 17 = z_164 := (hM9.i (by decide)).trans e_165
                      have e_177 : gI σ_s_172 a 19 = z_166 := (hM9.i (by decide)).trans e_167
                      have e_178 : gI σ_s_172 a 22 = z_168 := (hM9.i (by decide)).trans e_169
                      replace hsr := hsr.mv hM9 (by decide) (by decide) (by decide) (by decide) (by decide)
                      have hR_179 : RSt σ_s_172 a T cc_157 jj_158 := RSt.mv hM9 (by decide) (by decide) (by decide) (by decide) (by decide) (by decide) (by decide) hR_159
                      have hVhR_179 := hR_179.1
                      obtain ⟨g_180, dg_180⟩ : ∃ g9, g9 = upd g_154 (4 * a220 + 3).toNat (I z_171) := ⟨_, rfl⟩
                      rw [← dg_180] at ha9
                      have ef_181 := ha9
                      exact th_vret hx hb hr hlocks hH hS ⟨hO, hF, hM, ⟨⟨⟨⟨by omega, by omega, by omega, by omega⟩, (pgo.up (show pgo (gI σ_s_152 a 19) (gI σ_s_152 a 14) (gI σ_s_140 a 13) (gI σ_s_152 a 13) from hw_151.1.2) (e_177.trans e_167.symm) (e_175.trans e_163.symm) (by omega) (e_174.trans e_161.symm))⟩, by omega, hw_151.2.2.elim (fun h9 => Or.inl (by rw [(e_177.trans e_167.symm)]; exact h9)) (fun h9 => Or.inr (by rw [show gI σ a 22 = a220 from ea220, (e_178.trans e_169.symm), show aF σ_s_172 (ad E a 2) = g_180 from ef_181]; exact rdT_many h9 (by omega) dg_64 dg_74 dg_148 dg_180 rky (show rng z_171 from rz_171) (by omega) hq72 (by omega)))⟩, cc_157, jj_158, hR_179, (by have h9 := hn_156; rw [show (4 * a220) / 4 = gI σ a 22 by omega, show gI σ_s_152 a 22 = gI σ_s_172 a 22 by omega] at h9; exact h9)⟩⟩ dX11_readThing_260
                  · replace c_83 := mt (I_eq (a := z_82) (b := 0) rz_82 (show rng 0 from ⟨by decide, by decide⟩)).mpr c_83
                    have hk9 : tK T jt = 91 := by omega
                    try clear hw_80
                    try clear K_24_0
                    refine lv_aload_n hx hb dX11_readThing_172 rfl (lv_at hl 2 rfl) ?_
                    refine ok.getR hO h_a (by decide) k13_2 (by decide) (fun _ _ he hv kk => th_get (ci := 11) (C := RX11) (T := TX11) (N := 66) hx hb hts inX11 hown hK hH he rfl 2 (by decide) fl3 hv dX11_readThing_173 kk) ?_
                    refine lv_iload hx hb dX11_readThing_176 (lv_at hl 0 rfl) ?_
                    refine lv_iconst (v := I 2) hx hb dX11_readThing_178 (by decide) ?_
                    refine m_iast hx hb hK hH hS h00 hO h_a k13_2 isA1 (by decide) ef_75 ⟨by omega, by omega⟩ (by omega) (by omega) (show rng 2 from ⟨by decide, by decide⟩) el1 dX11_readThing_179 (fun σ_s_182 H locs hO hF9 hM9 ha9 hH hS => ?_)
                    replace hM := hM.tu hM9 (by decide)
                    replace hF := hF.tu hF9 (by decide)
                    have e_183 : gI σ_s_182 a 11 = a110 := (hM9.i (by decide)).trans e_67
                    have e_184 : gI σ_s_182 a 13 = a130 := (hM9.i (by decide)).trans e_68
                    have e_185 : gI σ_s_182 a 14 = a140 := (hM9.i (by decide)).trans e_69
                    have e_186 : gI σ_s_182 a 17 = a170 := (hM9.i (by decide)).trans e_70
                    have e_187 : gI σ_s_182 a 19 = a190 := (hM9.i (by decide)).trans e_71
                    have e_188 : gI σ_s_182 a 22 = a220 + 1 := (hM9.i (by decide)).trans e_72
                    replace hsr := hsr.mv hM9 (by decide) (by decide) (by decide) (by decide) (by decide)
                    have hR_189 : RSt σ_s_182 a T fc jt := RSt.mv hM9 (by decide) (by decide) (by decide) (by decide) (by decide) (by decide) (by decide) hR_73
                    have hVhR_189 := hR_189.1
                    obtain ⟨g_190, dg_190⟩ : ∃ g9, g9 = upd g_74 (4 * a220).toNat (I 2) := ⟨_, rfl⟩
                    rw [← dg_190] at ha9
                    have ef_191 := ha9
                    refine lv_aload_n hx hb dX11_readThing_180 rfl (lv_at hl 2 rfl) ?_
                    refine lv_iload hx hb dX11_readThing_181 (lv_at hl 0 rfl) ?_
                    refine lv_iload_n hx hb dX11_readThing_183 rfl (lv_at hl 4 rfl) ?_
                    refine lv_bipush (v := I 93) hx hb dX11_readThing_184 (by decide) ?_
                    obtain ⟨_, hc_192⟩ := hO.cell h_a (by decide) (ci := 11) rfl
                    refine th_callv (va_runV (As := [.int (I (4 * a220)), .int (I dp), .int (I 93)]) (rest := []) ⟨hx, hb, hml, hown, hts⟩ (n_readMany n ih l G y b0 σ_s_182 E hO a h_a (4 * a220) (show rng (4 * a220) from ⟨by omega, by omega⟩) (by omega) (by omega) dp (show rng dp from rdp) (by omega) (by omega) 93 (show rng 93 from (show rng 93 from ⟨by decide, by decide⟩)) g_190 ef_191 Bf hsr T hSt fc jt hR_189 1 (by omega) (by omega) (by omega) (by omega) (by omega) ((Or.inr ⟨(by rw [dg_190]; exact mK_upd (by omega) (by omega) ⟨by decide, by decide⟩), by omega, by omega, by omega⟩))) (cwV 3 hts gX11_readThing_X11_readMany rfl rfl rfl (by decide +kernel) ⟨(by first | (simp only [headSpec]; omega) | omega | (dsimp only; omega)), (by first | (simp only [headSpec]; omega) | omega | (dsimp only; omega))⟩) (th_PV hK hH rfl hc_192) rfl rfl hl.1 rfl (lv_room (Nat.le_of_ble_eq_true rfl)) dX11_readThing_186 ⟨(by first | (simp only [headSpec]; omega) | omega | (dsimp only; omega)), (by first | (simp only [headSpec]; omega) | omega | (dsimp only; omega))⟩) hS (fun σ_s_194 H locs hw_193 hH hS => ?_)
                    obtain ⟨hO9, hF9, hM9, hw_193⟩ := hw_193
                    replace hM := hM.tu hM9 (by decide)
                    replace hF := hF.tu hF9 (by decide)
                    have e_195 : gI σ_s_194 a 11 = a110 := (hM9.i (by decide)).trans e_183
                    replace hsr := hsr.mv hM9 (by decide) (by decide) (by decide) (by decide) (by decide)
                    replace hO := hO9
                    generalize ef_197 : aF σ_s_194 (ad E a 2) = g_196 at hw_193
                    replace hw_193 : (((gI σ_s_182 a 13 ≤ gI σ_s_194 a 13 ∧ gI σ_s_194 a 13 ≤ gI σ_s_182 a 11 ∧ 0 ≤ gI σ_s_194 a 17 ∧ gI σ_s_194 a 17 ≤ gI σ_s_194 a 13) ∧ pgo (gI σ_s_194 a 19) (gI σ_s_194 a 14) (gI σ_s_182 a 13) (gI σ_s_194 a 13)) ∧ gI σ_s_182 a 22 ≤ gI σ_s_194 a 22 ∧ (¬ gI σ_s_194 a 19 = 0 ∨ rdF g_190 g_196 ((4 * a220) / 4) (gI σ_s_194 a 22) dp)) ∧ ∃ c1 j1, RSt σ_s_194 a T c1 j1 ∧ PTh T dp jt ((4 * a220) / 4) c1 j1 (gI σ_s_194 a 22) := hw_193
                    have hn_198 := hw_193.2
                    replace hw_193 := hw_193.1
                    obtain ⟨cc_199, jj_200, hR_201, hn_198⟩ := hn_198
                    have hVhR_201 := hR_201.1
                    obtain ⟨z_202, e_203, rz_202, lz_202, uz_202⟩ := hO.gi h_a (by decide) k13_13
                    obtain ⟨z_204, e_205, rz_204, lz_204, uz_204⟩ := hO.gi h_a (by decide) k13_14
                    obtain ⟨z_206, e_207, rz_206, lz_206, uz_206⟩ := hO.gi h_a (by decide) k13_17
                    obtain ⟨z_208, e_209, rz_208, lz_208, uz_208⟩ := hO.gi h_a (by decide) k13_19
                    obtain ⟨z_210, e_211, rz_210, lz_210, uz_210⟩ := hO.gi h_a (by decide) k13_22
                    refine lv_goto (tgt := 242) hx hb dX11_readThing_189 (by decide) ?_
                    refine lv_aload_n hx hb dX11_readThing_242 rfl (lv_at hl 2 rfl) ?_
                    refine ok.getR hO h_a (by decide) k13_2 (by decide) (fun _ _ he hv kk => th_get (ci := 11) (C := RX11) (T := TX11) (N := 66) hx hb hts inX11 hown hK hH he rfl 2 (by decide) fl3 hv dX11_readThing_243 kk) ?_
                    refine lv_iload hx hb dX11_readThing_246 (lv_at hl 0 rfl) ?_
                    refine lv_iconst (v := I 3) hx hb dX11_readThing_248 (by decide) ?_
                    refine lv_iadd hx hb dX11_readThing_249 ?_
                    refine nq_top (I_add _ _) ?_
                    refine lv_aload_n hx hb dX11_readThing_250 rfl (lv_at hl 2 rfl) ?_
                    refine ok.getIc hO h_a (by decide) k13_22 e_211 (fun _ _ he hv kk => th_get (ci := 11) (C := RX11) (T := TX11) (N := 66) hx hb hts inX11 hown hK hH he rfl 22 (by decide) fl2 hv dX11_readThing_251 kk) ?_
                    refine lv_iload hx hb dX11_readThing_254 (lv_at hl 0 rfl) ?_
                    refine lv_iconst (v := I 4) hx hb dX11_readThing_256 (by decide) ?_
                    refine lv_idiv hx hb dX11_readThing_257 (by decide) ?_
                    refine th_div (n := 4) ⟨by omega, by omega⟩ (by omega) (by decide) (fun z_212 rz_212 hz_212 => ?_)
                    refine lv_isub hx hb dX11_readThing_258 ?_
                    refine th_subo (fun z_213 rz_213 hz_213 => ?_)
                    refine m_iast hx hb hK hH hS h00 hO h_a k13_2 isA1 (by decide) ef_197 ⟨by omega, by omega⟩ (by omega) (by omega) rz_213 el1 dX11_readThing_259 (fun σ_s_214 H locs hO hF9 hM9 ha9 hH hS => ?_)
                    replace hM := hM.tu hM9 (by decide)
                    replace hF := hF.tu hF9 (by decide)
                    have e_215 : gI σ_s_214 a 11 = a110 := (hM9.i (by decide)).trans e_195
                    have e_216 : gI σ_s_214 a 13 = z_202 := (hM9.i (by decide)).trans e_203
                    have e_217 : gI σ_s_214 a 14 = z_204 := (hM9.i (by decide)).trans e_205
                    have e_218 : gI σ_s_214 a 17 = z_206 := (hM9.i (by decide)).trans e_207
                    have e_219 : gI σ_s_214 a 19 = z_208 := (hM9.i (by decide)).trans e_209
                    have e_220 : gI σ_s_214 a 22 = z_210 := (hM9.i (by decide)).trans e_211
                    replace hsr := hsr.mv hM9 (by decide) (by decide) (by decide) (by decide) (by decide)
                    have hR_221 : RSt σ_s_214 a T cc_199 jj_200 := RSt.mv hM9 (by decide) (by decide) (by decide) (by decide) (by decide) (by decide) (by decide) hR_201
                    have hVhR_221 := hR_221.1
                    obtain ⟨g_222, dg_222⟩ : ∃ g9, g9 = upd g_196 (4 * a220 + 3).toNat (I z_213) := ⟨_, rfl⟩
                    rw [← dg_222] at ha9
                    have ef_223 := ha9
                    exact th_vret hx hb hr hlocks hH hS ⟨hO, hF, hM, ⟨⟨⟨⟨by omega, by omega, by omega, by omega⟩, (pgo.up (show pgo (gI σ_s_194 a 19) (gI σ_s_194 a 14) (gI σ_s_182 a 13) (gI σ_s_194 a 13) from hw_193.1.2) (e_219.trans e_209.symm) (e_217.trans e_205.symm) (by omega) (e_216.trans e_203.symm))⟩, by omega, hw_193.2.2.elim (fun h9 => Or.inl (by rw [(e_219.trans e_209.symm)]; exact h9)) (fun h9 => Or.inr (by rw [show gI σ a 22 = a220 from ea220, (e_220.trans e_211.symm), show aF σ_s_214 (ad E a 2) = g_222 from ef_223]; exact rdT_many h9 (by omega) dg_64 dg_74 dg_190 dg_222 rky (show rng z_213 from rz_213) (by omega) hq72 (by omega)))⟩, cc_199, jj_200, hR_221, (by have h9 := hn_198; rw [show (4 * a220) / 4 = gI σ a 22 by omega, show gI σ_s_194 a 22 = gI σ_s_214 a 22 by omega] at h9; exact h9)⟩⟩ dX11_readThing_260
                · replace c_78 := (I_eq (a := a140) (b := 1) ra140 (show rng 1 from ⟨by decide, by decide⟩)).mp c_78
                  have hk9 : tK T jt = 256 := by omega
                  try clear K_24_0
                  refine lv_aload_n hx hb dX11_readThing_139 rfl (lv_at hl 2 rfl) ?_
                  refine ok.getR hO h_a (by decide) k13_2 (by decide) (fun _ _ he hv kk => th_get (ci := 11) (C := RX11) (T := TX11) (N := 66) hx hb hts inX11 hown hK hH he rfl 2 (by decide) fl3 hv dX11_readThing_140 kk) ?_
                  refine lv_iload hx hb dX11_readThing_143 (lv_at hl 0 rfl) ?_
                  refine lv_iconst (v := I 1) hx hb dX11_readThing_145 (by decide) ?_
                  refine m_iast hx hb hK hH hS h00 hO h_a k13_2 isA1 (by decide) ef_75 ⟨by omega, by omega⟩ (by omega) (by omega) (show rng 1 from ⟨by decide, by decide⟩) el1 dX11_readThing_146 (fun σ_s_224 H locs hO hF9 hM9 ha9 hH hS => ?_)
                  replace hM := hM.tu hM9 (by decide)
                  replace hF := hF.tu hF9 (by decide)
                  have e_225 : gI σ_s_224 a 11 = a110 := (hM9.i (by decide)).trans e_67
                  have e_226 : gI σ_s_224 a 13 = a130 := (hM9.i (by decide)).trans e_68
                  have e_227 : gI σ_s_224 a 14 = a140 := (hM9.i (by decide)).trans e_69
                  have e_228 : gI σ_s_224 a 17 = a170 := (hM9.i (by decide)).trans e_70
                  have e_229 : gI σ_s_224 a 19 = a190 := (hM9.i (by decide)).trans e_71
                  have e_230 : gI σ_s_224 a 22 = a220 + 1 := (hM9.i (by decide)).trans e_72
                  replace hsr := hsr.mv hM9 (by decide) (by decide) (by decide) (by decide) (by decide)
                  have hR_231 : RSt σ_s_224 a T fc jt := RSt.mv hM9 (by decide) (by decide) (by decide) (by decide) (by decide) (by decide) (by decide) hR_73
                  have hVhR_231 := hR_231.1
                  obtain ⟨g_232, dg_232⟩ : ∃ g9, g9 = upd g_74 (4 * a220).toNat (I 1) := ⟨_, rfl⟩
                  rw [← dg_232] at ha9
                  have ef_233 := ha9
                  refine lv_aload_n hx hb dX11_readThing_147 rfl (lv_at hl 2 rfl) ?_
                  refine ok.getR hO h_a (by decide) k13_2 (by decide) (fun _ _ he hv kk => th_get (ci := 11) (C := RX11) (T := TX11) (N := 66) hx hb hts inX11 hown hK hH he rfl 2 (by decide) fl3 hv dX11_readThing_148 kk) ?_
                  refine lv_iload hx hb dX11_readThing_151 (lv_at hl 0 rfl) ?_
                  refine lv_iconst (v := I 1) hx hb dX11_readThing_153 (by decide) ?_
                  refine lv_iadd hx hb dX11_readThing_154 ?_
                  refine nq_top (I_add _ _) ?_
                  refine lv_aload_n hx hb dX11_readThing_155 rfl (lv_at hl 2 rfl) ?_
                  obtain ⟨_, hc_234⟩ := hO.cell h_a (by decide) (ci := 11) rfl
                  refine th_calli (va_runV (As := []) (rest := [.int (I (4 * a220 + 1)), .ref (ad E a 2)]) ⟨hx, hb, hml, hown, hts⟩ (n_readWord l G y b0 σ_s_224 E hO a h_a Bf hsr T hSt fc jt hR_231 (by omega)) (cwV 0 hts gX11_readThing_X11_readWord rfl rfl rfl (by decide +kernel) ⟨(by first | (simp only [headSpec]; omega) | omega | (dsimp only; omega)), (by first | (simp only [headSpec]; omega) | omega | (dsimp only; omega))⟩) (th_PV hK hH rfl hc_234) rfl rfl hl.1 rfl (lv_room (Nat.le_of_ble_eq_true rfl)) dX11_readThing_156 ⟨(by first | (simp only [headSpec]; omega) | omega | (dsimp only; omega)), (by first | (simp only [headSpec]; omega) | omega | (dsimp only; omega))⟩) hS (fun z_237 σ_s_236 H locs rz_237 hw_235 hH hS => ?_)
                  obtain ⟨hO9, hF9, hM9, hw_235⟩ := hw_235
                  replace hM := hM.tu hM9 (by decide)
                  replace hF := hF.tu hF9 (by decide)
                  have e_238 : gI σ_s_236 a 11 = a110 := (hM9.i (by decide)).trans e_225
                  have e_239 : gI σ_s_236 a 22 = a220 + 1 := (hM9.i (by decide)).trans e_230
                  have e_240 : aF σ_s_236 (ad E a 2) = g_232 := (hM9.a (by decide) (by decide)).trans ef_233
                  replace hsr := hsr.mv hM9 (by decide) (by decide) (by decide) (by decide) (by decide)
                  replace hO := hO9
                  replace hw_235 : ((gI σ_s_224 a 13 ≤ gI σ_s_236 a 13 ∧ gI σ_s_236 a 13 ≤ gI σ_s_224 a 11 ∧ 0 ≤ gI σ_s_236 a 17 ∧ gI σ_s_236 a 17 ≤ gI σ_s_236 a 13) ∧ pgo (gI σ_s_236 a 19) (gI σ_s_236 a 14) (gI σ_s_224 a 13) (gI σ_s_236 a 13) ∧ bdo (gI σ_s_224 a 19) (gI σ_s_236 a 19)) ∧ ∃ c1 j1, RSt σ_s_236 a T c1 j1 ∧ ((fc ≠ 0 → c1 = fc ∧ j1 = jt) ∧ (fc = 0 → (tK T jt ≠ 256 ∧ c1 = 1 ∧ j1 = jt) ∨ (tK T jt = 256 ∧ 6 < tL T jt ∧ c1 = 2 ∧ j1 = jt) ∨ (tK T jt = 256 ∧ tL T jt ≤ 6 ∧ c1 = 0 ∧ j1 = jt + 1 ∧ z_237 = tV T jt))) := hw_235
                  have hn_241 := hw_235.2
                  replace hw_235 := hw_235.1
                  obtain ⟨cc_242, jj_243, hR_244, hn_241⟩ := hn_241
                  have hVhR_244 := hR_244.1
                  obtain ⟨z_245, e_246, rz_245, lz_245, uz_245⟩ := hO.gi h_a (by decide) k13_13
                  obtain ⟨z_247, e_248, rz_247, lz_247, uz_247⟩ := hO.gi h_a (by decide) k13_14
                  obtain ⟨z_249, e_250, rz_249, lz_249, uz_249⟩ := hO.gi h_a (by decide) k13_17
                  obtain ⟨z_251, e_252, rz_251, lz_251, uz_251⟩ := hO.gi h_a (by decide) k13_19
                  refine m_iast hx hb hK hH hS h00 hO h_a k13_2 isA1 (by decide) e_240 ⟨by omega, by omega⟩ (by omega) (by omega) rz_237 el1 dX11_readThing_159 (fun σ_s_253 H locs hO hF9 hM9 ha9 hH hS => ?_)
                  replace hM := hM.tu hM9 (by decide)
                  replace hF := hF.tu hF9 (by decide)
                  have e_254 : gI σ_s_253 a 11 = a110 := (hM9.i (by decide)).trans e_238
                  have e_255 : gI σ_s_253 a 22 = a220 + 1 := (hM9.i (by decide)).trans e_239
                  have e_256 : gI σ_s_253 a 13 = z_245 := (hM9.i (by decide)).trans e_246
                  have e_257 : gI σ_s_253 a 14 = z_247 := (hM9.i (by decide)).trans e_248
                  have e_258 : gI σ_s_253 a 17 = z_249 := (hM9.i (by decide)).trans e_250
                  have e_259 : gI σ_s_253 a 19 = z_251 := (hM9.i (by decide)).trans e_252
                  replace hsr := hsr.mv hM9 (by decide) (by decide) (by decide) (by decide) (by decide)
                  have hR_260 : RSt σ_s_253 a T cc_242 jj_243 := RSt.mv hM9 (by decide) (by decide) (by decide) (by decide) (by decide) (by decide) (by decide) hR_244
                  have hVhR_260 := hR_260.1
                  obtain ⟨g_261, dg_261⟩ : ∃ g9, g9 = upd g_232 (4 * a220 + 1).toNat (I z_237) := ⟨_, rfl⟩
                  rw [← dg_261] at ha9
                  have ef_262 := ha9
                  refine lv_goto (tgt := 242) hx hb dX11_readThing_160 (by decide) ?_
                  refine lv_aload_n hx hb dX11_readThing_242 rfl (lv_at hl 2 rfl) ?_
                  refine ok.getR hO h_a (by decide) k13_2 (by decide) (fun _ _ he hv kk => th_get (ci := 11) (C := RX11) (T := TX11) (N := 66) hx hb hts inX11 hown hK hH he rfl 2 (by decide) fl3 hv dX11_readThing_243 kk) ?_
                  refine lv_iload hx hb dX11_readThing_246 (lv_at hl 0 rfl) ?_
                  refine lv_iconst (v := I 3) hx hb dX11_readThing_248 (by decide) ?_
                  refine lv_iadd hx hb dX11_readThing_249 ?_
                  refine nq_top (I_add _ _) ?_
                  refine lv_aload_n hx hb dX11_readThing_250 rfl (lv_at hl 2 rfl) ?_
                  refine ok.getIc hO h_a (by decide) k13_22 e_255 (fun _ _ he hv kk => th_get (ci := 11) (C := RX11) (T := TX11) (N := 66) hx hb hts inX11 hown hK hH he rfl 22 (by decide) fl2 hv dX11_readThing_251 kk) ?_
                  refine lv_iload hx hb dX11_readThing_254 (lv_at hl 0 rfl) ?_
                  refine lv_iconst (v := I 4) hx hb dX11_readThing_256 (by decide) ?_
                  refine lv_idiv hx hb dX11_readThing_257 (by decide) ?_
                  refine th_div (n := 4) ⟨by omega, by omega⟩ (by omega) (by decide) (fun z_263 rz_263 hz_263 => ?_)
                  refine lv_isub hx hb dX11_readThing_258 ?_
                  refine th_subo (fun z_264 rz_264 hz_264 => ?_)
                  refine m_iast hx hb hK hH hS h00 hO h_a k13_2 isA1 (by decide) ef_262 ⟨by omega, by omega⟩ (by omega) (by omega) rz_264 el1 dX11_readThing_259 (fun σ_s_265 H locs hO hF9 hM9 ha9 hH hS => ?_)
                  replace hM := hM.tu hM9 (by decide)
                  replace hF := hF.tu hF9 (by decide)
                  have e_266 : gI σ_s_265 a 11 = a110 := (hM9.i (by decide)).trans e_254
                  have e_267 : gI σ_s_265 a 22 = a220 + 1 := (hM9.i (by decide)).trans e_255
                  have e_268 : gI σ_s_265 a 13 = z_245 := (hM9.i (by decide)).trans e_256
                  have e_269 : gI σ_s_265 a 14 = z_247 := (hM9.i (by decide)).trans e_257
                  have e_270 : gI σ_s_265 a 17 = z_249 := (hM9.i (by decide)).trans e_258
                  have e_271 : gI σ_s_265 a 19 = z_251 := (hM9.i (by decide)).trans e_259
                  replace hsr := hsr.mv hM9 (by decide) (by decide) (by decide) (by decide) (by decide)
                  have hR_272 : RSt σ_s_265 a T cc_242 jj_243 := RSt.mv hM9 (by decide) (by decide) (by decide) (by decide) (by decide) (by decide) (by decide) hR_260
                  have hVhR_272 := hR_272.1
                  obtain ⟨g_273, dg_273⟩ : ∃ g9, g9 = upd g_261 (4 * a220 + 3).toNat (I z_264) := ⟨_, rfl⟩
                  rw [← dg_273] at ha9
                  have ef_274 := ha9
                  exact th_vret hx hb hr hlocks hH hS ⟨hO, hF, hM, ⟨⟨⟨⟨by omega, by omega, by omega, by omega⟩, (pgo.up (show pgo (gI σ_s_236 a 19) (gI σ_s_236 a 14) (gI σ_s_224 a 13) (gI σ_s_236 a 13) from hw_235.2.1) (e_271.trans e_252.symm) (e_269.trans e_248.symm) (by omega) (e_268.trans e_246.symm))⟩, by omega, by rw [show gI σ a 22 = a220 from ea220, show gI σ_s_265 a 22 = a220 + 1 from e_267, show aF σ_s_265 (ad E a 2) = g_273 from ef_274]; exact Or.inr (rdT_leaf dg_64 dg_74 dg_232 dg_261 dg_273 rky (show rng z_264 from rz_264) (by omega) hq72 (by omega))⟩, cc_242, jj_243, hR_272, PIt.wordC (by omega) (by omega) (by omega) (by omega)⟩⟩ dX11_readThing_260
              · replace c_46 := mt (I_eq (a := a190) (b := 0) ra190 (show rng 0 from ⟨by decide, by decide⟩)).mpr c_46
                exact th_vret hx hb hr hlocks hH hS ⟨hO, hF, hM, (by exfalso; omega)⟩ dX11_readThing_92
            · replace c_45 := mt (I_le (a := dp) (b := 7) rdp (show rng 7 from ⟨by decide, by decide⟩)).mpr c_45
              refine lv_aload_n hx hb dX11_readThing_80 rfl (lv_at hl 1 rfl) ?_
              refine lv_iconst (v := I 2) hx hb dX11_readThing_81 (by decide) ?_
              obtain ⟨_, hc_275⟩ := hO.cell h_a (by decide) (ci := 11) rfl
              refine th_callv (va_runV (As := [.int (I 2)]) (rest := []) ⟨hx, hb, hml, hown, hts⟩ (n_wrong l G y b0 σ E hO a h_a 2 (show rng 2 from (show rng 2 from ⟨by decide, by decide⟩)) (by omega) (by omega) Bf hsr T hSt fc jt hR0) (cwV 1 hts gX11_readThing_X11_wrong rfl rfl rfl (by decide +kernel) ⟨(by first | (simp only [headSpec]; omega) | omega | (dsimp only; omega)), (by first | (simp only [headSpec]; omega) | omega | (dsimp only; omega))⟩) (th_PV hK hH rfl hc_275) rfl rfl hl.1 rfl (lv_room (Nat.le_of_ble_eq_true rfl)) dX11_readThing_82 ⟨(by first | (simp only [headSpec]; omega) | omega | (dsimp only; omega)), (by first | (simp only [headSpec]; omega) | omega | (dsimp only; omega))⟩) hS (fun σ_s_277 H locs hw_276 hH hS => ?_)
              obtain ⟨hO9, hF9, hM9, hw_276⟩ := hw_276
              replace hM := hM.tu hM9 (by decide)
              replace hF := hF.tu hF9 (by decide)
              have e_278 : aF σ_s_277 (ad E a 2) = f2 := (hM9.a (by decide) (by decide)).trans ef2
              have e_279 : gI σ_s_277 a 11 = a110 := (hM9.i (by decide)).trans ea110
              have e_280 : gI σ_s_277 a 13 = a130 := (hM9.i (by decide)).trans ea130
              have e_281 : gI σ_s_277 a 14 = a140 := (hM9.i (by decide)).trans ea140
              have e_282 : gI σ_s_277 a 17 = a170 := (hM9.i (by decide)).trans ea170
              have e_283 : gI σ_s_277 a 22 = a220 := (hM9.i (by decide)).trans ea220
              replace hsr := hsr.mv hM9 (by decide) (by decide) (by decide) (by decide) (by decide)
              replace hO := hO9
              replace hw_276 : (¬ gI σ_s_277 a 19 = 0 ∧ (gI σ a 19 = 0 ∨ gI σ_s_277 a 19 = gI σ a 19)) ∧ ∃ c1 j1, RSt σ_s_277 a T c1 j1 ∧ (j1 = jt ∧ (fc = 0 → c1 = 2) ∧ (fc ≠ 0 → c1 = fc)) := hw_276
              have hn_284 := hw_276.2
              replace hw_276 := hw_276.1
              obtain ⟨cc_285, jj_286, hR_287, hn_284⟩ := hn_284
              have hVhR_287 := hR_287.1
              have hj9 := hn_284.1.symm
              subst hj9
              have h0_288 : ¬ cc_285 = 0 := by omega
              try simp only [h0_288, ne_eq, not_true_eq_false, not_false_eq_true, false_implies, true_implies, true_and, and_true, eq_self, false_or, or_false, false_and, and_false] at hVhR_287
              refine lv_aload_n hx hb dX11_readThing_85 rfl (lv_at hl 1 rfl) ?_
              refine ok.getI hO h_a (by decide) k13_19 (fun _ _ he hv kk => th_get (ci := 11) (C := RX11) (T := TX11) (N := 66) hx hb hts inX11 hown hK hH he rfl 19 (by decide) fl1 hv dX11_readThing_86 kk) (fun z_289 e_290 rz_289 lz_289 uz_289 => ?_)
              refine lv_if_eq (tgt := 93) hx hb dX11_readThing_89 (by decide) (fun c_291 => ?_) (fun c_291 => ?_)
              · replace c_291 := (I_eq (a := z_289) (b := 0) rz_289 (show rng 0 from ⟨by decide, by decide⟩)).mp c_291
                exfalso; omega
              · replace c_291 := mt (I_eq (a := z_289) (b := 0) rz_289 (show rng 0 from ⟨by decide, by decide⟩)).mpr c_291
                exact th_vret hx hb hr hlocks hH hS ⟨hO, hF, hM, ⟨⟨⟨⟨by omega, by omega, by omega, by omega⟩, pgo.of (by omega)⟩, by omega, Or.inl (by omega)⟩, cc_285, jt, hR_287, (by first | exact PTh.no (by unfold beg; omega) (by omega) (by omega) | exact PTh.much (by unfold beg; omega) (by omega) (by omega) (by omega))⟩⟩ dX11_readThing_92
      · replace c_25 := (I_eq (a := w0q23) (b := 0) rw0q23 (show rng 0 from ⟨by decide, by decide⟩)).mp c_25
        refine lv_aload_n hx hb dX11_readThing_53 rfl (lv_at hl 1 rfl) ?_
        refine lv_iconst (v := I 1) hx hb dX11_readThing_54 (by decide) ?_
        obtain ⟨_, hc_292⟩ := hO.cell h_a (by decide) (ci := 11) rfl
        refine th_callv (va_runV (As := [.int (I 1)]) (rest := []) ⟨hx, hb, hml, hown, hts⟩ (n_wrong l G y b0 σ E hO a h_a 1 (show rng 1 from (show rng 1 from ⟨by decide, by decide⟩)) (by omega) (by omega) Bf hsr T hSt fc jt hR0) (cwV 1 hts gX11_readThing_X11_wrong rfl rfl rfl (by decide +kernel) ⟨(by first | (simp only [headSpec]; omega) | omega | (dsimp only; omega)), (by first | (simp only [headSpec]; omega) | omega | (dsimp only; omega))⟩) (th_PV hK hH rfl hc_292) rfl rfl hl.1 rfl (lv_room (Nat.le_of_ble_eq_true rfl)) dX11_readThing_55 ⟨(by first | (simp only [headSpec]; omega) | omega | (dsimp only; omega)), (by first | (simp only [headSpec]; omega) | omega | (dsimp only; omega))⟩) hS (fun σ_s_294 H locs hw_293 hH hS => ?_)
        obtain ⟨hO9, hF9, hM9, hw_293⟩ := hw_293
        replace hM := hM.tu hM9 (by decide)
        replace hF := hF.tu hF9 (by decide)
        have e_295 : aF σ_s_294 (ad E a 2) = f2 := (hM9.a (by decide) (by decide)).trans ef2
        have e_296 : gI σ_s_294 a 11 = a110 := (hM9.i (by decide)).trans ea110
        have e_297 : gI σ_s_294 a 13 = a130 := (hM9.i (by decide)).trans ea130
        have e_298 : gI σ_s_294 a 14 = a140 := (hM9.i (by decide)).trans ea140
        have e_299 : gI σ_s_294 a 17 = a170 := (hM9.i (by decide)).trans ea170
        have e_300 : gI σ_s_294 a 22 = a220 := (hM9.i (by decide)).trans ea220
        replace hsr := hsr.mv hM9 (by decide) (by decide) (by decide) (by decide) (by decide)
        replace hO := hO9
        replace hw_293 : (¬ gI σ_s_294 a 19 = 0 ∧ (gI σ a 19 = 0 ∨ gI σ_s_294 a 19 = gI σ a 19)) ∧ ∃ c1 j1, RSt σ_s_294 a T c1 j1 ∧ (j1 = jt ∧ (fc = 0 → c1 = 1) ∧ (fc ≠ 0 → c1 = fc)) := hw_293
        have hn_301 := hw_293.2
        replace hw_293 := hw_293.1
        obtain ⟨cc_302, jj_303, hR_304, hn_301⟩ := hn_301
        have hVhR_304 := hR_304.1
        have hj9 := hn_301.1.symm
        subst hj9
        have h0_305 : ¬ cc_302 = 0 := by omega
        try simp only [h0_305, ne_eq, not_true_eq_false, not_false_eq_true, false_implies, true_implies, true_and, and_true, eq_self, false_or, or_false, false_and, and_false] at hVhR_304
        refine lv_aload_n hx hb dX11_readThing_58 rfl (lv_at hl 1 rfl) ?_
        refine ok.getI hO h_a (by decide) k13_19 (fun _ _ he hv kk => th_get (ci := 11) (C := RX11) (T := TX11) (N := 66) hx hb hts inX11 hown hK hH he rfl 19 (by decide) fl1 hv dX11_readThing_59 kk) (fun z_306 e_307 rz_306 lz_306 uz_306 => ?_)
        refine lv_if_ne (tgt := 85) hx hb dX11_readThing_62 (by decide) (fun c_308 => ?_) (fun c_308 => ?_)
        · replace c_308 := mt (I_eq (a := z_306) (b := 0) rz_306 (show rng 0 from ⟨by decide, by decide⟩)).mpr c_308
          refine lv_aload_n hx hb dX11_readThing_85 rfl (lv_at hl 1 rfl) ?_
          refine ok.getIc hO h_a (by decide) k13_19 e_307 (fun _ _ he hv kk => th_get (ci := 11) (C := RX11) (T := TX11) (N := 66) hx hb hts inX11 hown hK hH he rfl 19 (by decide) fl1 hv dX11_readThing_86 kk) ?_
          refine lv_if_eq (tgt := 93) hx hb dX11_readThing_89 (by decide) (fun c_309 => ?_) (fun c_309 => ?_)
          · replace c_309 := (I_eq (a := z_306) (b := 0) rz_306 (show rng 0 from ⟨by decide, by decide⟩)).mp c_309
            exfalso; omega
          · replace c_309 := mt (I_eq (a := z_306) (b := 0) rz_306 (show rng 0 from ⟨by decide, by decide⟩)).mpr c_309
            exact th_vret hx hb hr hlocks hH hS ⟨hO, hF, hM, ⟨⟨⟨⟨by omega, by omega, by omega, by omega⟩, pgo.of (by omega)⟩, by omega, Or.inl (by omega)⟩, cc_302, jt, hR_304, (by first | exact PTh.no (by unfold beg; omega) (by omega) (by omega) | exact PTh.much (by unfold beg; omega) (by omega) (by omega) (by omega))⟩⟩ dX11_readThing_92
        · replace c_308 := (I_eq (a := z_306) (b := 0) rz_306 (show rng 0 from ⟨by decide, by decide⟩)).mp c_308
          exfalso; omega
    · refine lv_icmp_eq (tgt := 43) hx hb dX11_readThing_5 (by decide) (fun c_310 => ?_) (fun c_310 => ?_)
      · replace c_310 := (I_eq (a := a140) (b := 2) ra140 (show rng 2 from ⟨by decide, by decide⟩)).mp c_310
        refine lv_iconst (v := I 1) hx hb dX11_readThing_43 (by decide) ?_
        refine lv_goto (tgt := 48) hx hb dX11_readThing_44 (by decide) ?_
        exact jK_24 (1) σ _ _ _ ⟨rfl, hH, hS, lv_sub hl [0, 1, 2] rfl, (show rng 1 from ⟨by decide, by decide⟩), by first | (dsimp only; omega) | omega, by first | (dsimp only; omega) | omega⟩
      · replace c_310 := mt (I_eq (a := a140) (b := 2) ra140 (show rng 2 from ⟨by decide, by decide⟩)).mpr c_310
        refine lv_aload_n hx hb dX11_readThing_8 rfl (lv_at hl 0 rfl) ?_
        refine ok.getIc hO h_a (by decide) k13_14 ea140 (fun _ _ he hv kk => th_get (ci := 11) (C := RX11) (T := TX11) (N := 66) hx hb hts inX11 hown hK hH he rfl 14 (by decide) fl0 hv dX11_readThing_9 kk) ?_
        have ht_311 := hR0.t1
        have ht_312 := hR0.t2
        refine lv_iconst (v := I 1) hx hb dX11_readThing_12 (by decide) ?_
        refine lv_icmp_eq (tgt := 43) hx hb dX11_readThing_13 (by decide) (fun c_313 => ?_) (fun c_313 => ?_)
        · replace c_313 := (I_eq (a := a140) (b := 1) ra140 (show rng 1 from ⟨by decide, by decide⟩)).mp c_313
          refine lv_iconst (v := I 1) hx hb dX11_readThing_43 (by decide) ?_
          refine lv_goto (tgt := 48) hx hb dX11_readThing_44 (by decide) ?_
          exact jK_24 (1) σ _ _ _ ⟨rfl, hH, hS, lv_sub hl [0, 1, 2] rfl, (show rng 1 from ⟨by decide, by decide⟩), by first | (dsimp only; omega) | omega, by first | (dsimp only; omega) | omega⟩
        · replace c_313 := mt (I_eq (a := a140) (b := 1) ra140 (show rng 1 from ⟨by decide, by decide⟩)).mpr c_313
          refine lv_aload_n hx hb dX11_readThing_16 rfl (lv_at hl 0 rfl) ?_
          refine lv_bipush (v := I 45) hx hb dX11_readThing_17 (by decide) ?_
          obtain ⟨_, hc_314⟩ := hO.cell h_a (by decide) (ci := 11) rfl
          refine th_calli (va_runV (As := [.int (I 45)]) (rest := []) ⟨hx, hb, hml, hown, hts⟩ (n_isMarked l G y b0 σ E hO a h_a 45 (show rng 45 from (show rng 45 from ⟨by decide, by decide⟩)) (by omega) (by omega) Bf hsr T hSt fc jt hR0 (by omega)) (cwV 1 hts gX11_readThing_X11_isMarked rfl rfl rfl (by decide +kernel) ⟨(by first | (simp only [headSpec]; omega) | omega | (dsimp only; omega)), (by first | (simp only [headSpec]; omega) | omega | (dsimp only; omega))⟩) (th_PV hK hH rfl hc_314) rfl rfl hl.1 rfl (lv_room (Nat.le_of_ble_eq_true rfl)) dX11_readThing_19 ⟨(by first | (simp only [headSpec]; omega) | omega | (dsimp only; omega)), (by first | (simp only [headSpec]; omega) | omega | (dsimp only; omega))⟩) hS (fun z_317 σ_s_316 H locs rz_317 hw_315 hH hS => ?_)
          obtain ⟨e9, bhw_315, hw_315⟩ := hw_315
          replace e9 := e9.symm
          subst e9
          replace hw_315 : (z_317 = 1 ∧ fc = 0 ∧ tK T jt = 45) ∨ (z_317 = 0 ∧ (fc ≠ 0 ∨ tK T jt ≠ 45)) := hw_315
          refine lv_if_ne (tgt := 43) hx hb dX11_readThing_22 (by decide) (fun c_318 => ?_) (fun c_318 => ?_)
          · replace c_318 := mt (I_eq (a := z_317) (b := 0) rz_317 (show rng 0 from ⟨by decide, by decide⟩)).mpr c_318
            refine lv_iconst (v := I 1) hx hb dX11_readThing_43 (by decide) ?_
            refine lv_goto (tgt := 48) hx hb dX11_readThing_44 (by decide) ?_
            exact jK_24 (1) σ _ _ _ ⟨rfl, hH, hS, lv_sub hl [0, 1, 2] rfl, (show rng 1 from ⟨by decide, by decide⟩), by first | (dsimp only; omega) | omega, by first | (dsimp only; omega) | omega⟩
          · replace c_318 := (I_eq (a := z_317) (b := 0) rz_317 (show rng 0 from ⟨by decide, by decide⟩)).mp c_318
            refine lv_aload_n hx hb dX11_readThing_25 rfl (lv_at hl 0 rfl) ?_
            refine lv_bipush (v := I 91) hx hb dX11_readThing_26 (by decide) ?_
            obtain ⟨_, hc_319⟩ := hO.cell h_a (by decide) (ci := 11) rfl
            refine th_calli (va_runV (As := [.int (I 91)]) (rest := []) ⟨hx, hb, hml, hown, hts⟩ (n_isMarked l G y b0 σ E hO a h_a 91 (show rng 91 from (show rng 91 from ⟨by decide, by decide⟩)) (by omega) (by omega) Bf hsr T hSt fc jt hR0 (by omega)) (cwV 1 hts gX11_readThing_X11_isMarked rfl rfl rfl (by decide +kernel) ⟨(by first | (simp only [headSpec]; omega) | omega | (dsimp only; omega)), (by first | (simp only [headSpec]; omega) | omega | (dsimp only; omega))⟩) (th_PV hK hH rfl hc_319) rfl rfl hl.1 rfl (lv_room (Nat.le_of_ble_eq_true rfl)) dX11_readThing_28 ⟨(by first | (simp only [headSpec]; omega) | omega | (dsimp only; omega)), (by first | (simp only [headSpec]; omega) | omega | (dsimp only; omega))⟩) hS (fun z_322 σ_s_321 H locs rz_322 hw_320 hH hS => ?_)
            obtain ⟨e9, bhw_320, hw_320⟩ := hw_320
            replace e9 := e9.symm
            subst e9
            replace hw_320 : (z_322 = 1 ∧ fc = 0 ∧ tK T jt = 91) ∨ (z_322 = 0 ∧ (fc ≠ 0 ∨ tK T jt ≠ 91)) := hw_320
            refine lv_if_ne (tgt := 43) hx hb dX11_readThing_31 (by decide) (fun c_323 => ?_) (fun c_323 => ?_)
            · replace c_323 := mt (I_eq (a := z_322) (b := 0) rz_322 (show rng 0 from ⟨by decide, by decide⟩)).mpr c_323
              refine lv_iconst (v := I 1) hx hb dX11_readThing_43 (by decide) ?_
              refine lv_goto (tgt := 48) hx hb dX11_readThing_44 (by decide) ?_
              exact jK_24 (1) σ _ _ _ ⟨rfl, hH, hS, lv_sub hl [0, 1, 2] rfl, (show rng 1 from ⟨by decide, by decide⟩), by first | (dsimp only; omega) | omega, by first | (dsimp only; omega) | omega⟩
            · replace c_323 := (I_eq (a := z_322) (b := 0) rz_322 (show rng 0 from ⟨by decide, by decide⟩)).mp c_323
              refine lv_aload_n hx hb dX11_readThing_34 rfl (lv_at hl 0 rfl) ?_
              refine lv_bipush (v := I 123) hx hb dX11_readThing_35 (by decide) ?_
              obtain ⟨_, hc_324⟩ := hO.cell h_a (by decide) (ci := 11) rfl
              refine th_calli (va_runV (As := [.int (I 123)]) (rest := []) ⟨hx, hb, hml, hown, hts⟩ (n_isMarked l G y b0 σ E hO a h_a 123 (show rng 123 from (show rng 123 from ⟨by decide, by decide⟩)) (by omega) (by omega) Bf hsr T hSt fc jt hR0 (by omega)) (cwV 1 hts gX11_readThing_X11_isMarked rfl rfl rfl (by decide +kernel) ⟨(by first | (simp only [headSpec]; omega) | omega | (dsimp only; omega)), (by first | (simp only [headSpec]; omega) | omega | (dsimp only; omega))⟩) (th_PV hK hH rfl hc_324) rfl rfl hl.1 rfl (lv_room (Nat.le_of_ble_eq_true rfl)) dX11_readThing_37 ⟨(by first | (simp only [headSpec]; omega) | omega | (dsimp only; omega)), (by first | (simp only [headSpec]; omega) | omega | (dsimp only; omega))⟩) hS (fun z_327 σ_s_326 H locs rz_327 hw_325 hH hS => ?_)
              obtain ⟨e9, bhw_325, hw_325⟩ := hw_325
              replace e9 := e9.symm
              subst e9
              replace hw_325 : (z_327 = 1 ∧ fc = 0 ∧ tK T jt = 123) ∨ (z_327 = 0 ∧ (fc ≠ 0 ∨ tK T jt ≠ 123)) := hw_325
              refine lv_if_eq (tgt := 47) hx hb dX11_readThing_40 (by decide) (fun c_328 => ?_) (fun c_328 => ?_)
              · replace c_328 := (I_eq (a := z_327) (b := 0) rz_327 (show rng 0 from ⟨by decide, by decide⟩)).mp c_328
                refine lv_iconst (v := I 0) hx hb dX11_readThing_47 (by decide) ?_
                exact jK_24 (0) σ _ _ _ ⟨rfl, hH, hS, lv_sub hl [0, 1, 2] rfl, (show rng 0 from ⟨by decide, by decide⟩), by first | (dsimp only; omega) | omega, by first | (dsimp only; omega) | omega⟩
              · replace c_328 := mt (I_eq (a := z_327) (b := 0) rz_327 (show rng 0 from ⟨by decide, by decide⟩)).mpr c_328
                refine lv_iconst (v := I 1) hx hb dX11_readThing_43 (by decide) ?_
                refine lv_goto (tgt := 48) hx hb dX11_readThing_44 (by decide) ?_
                exact jK_24 (1) σ _ _ _ ⟨rfl, hH, hS, lv_sub hl [0, 1, 2] rfl, (show rng 1 from ⟨by decide, by decide⟩), by first | (dsimp only; omega) | omega, by first | (dsimp only; omega) | omega⟩
