set_option maxHeartbeats 4000000 in
set_option maxRecDepth 100000 in
theorem m_readThing (n : Nat) : ∀ (l : Launch) (G : va_G) (y : Nat → ClassId) (b0 : Nat) (σ : th_M) (E : th_E) (hO : ok y E σ) (a : Nat) (h_a : kd E a = 13) (ky : Int) (rky : rng ky) (dp : Int) (rdp : rng dp) (l_dp : 0 ≤ dp) (u_dp : dp ≤ 8) (f2 : Nat → Int32) (ef2 : aF σ (ad E a 2) = f2) (Bf : Int → Int) (hsr : sr E σ a Bf) (hy0 : 0 ≤ gI σ a 17 ∧ gI σ a 17 ≤ gI σ a 13 ∧ gI σ a 13 ≤ gI σ a 11 ∧ gI σ a 11 ≤ 400) (hy1 : gI σ a 19 = 0) (hn : (8 - dp).toNat < n), Met l yX11_readThing wsX11_readThing ({ frames := 4*n+12, cells := 0, slots := 0, locals := (120*n+900) }) (th_P G y b0 σ [.ref a, .int (I ky), .int (I dp)]) (th_Qv G b0 (fun σ1 => ok y E σ1 ∧ fr [13] E σ σ1 ∧ fm [13, 14, 15, 16, 17, 18, 19, 20, 2, 22] E σ σ1 a ∧ (((gI σ a 13 ≤ gI σ1 a 13 ∧ gI σ1 a 13 ≤ gI σ a 11 ∧ 0 ≤ gI σ1 a 17 ∧ gI σ1 a 17 ≤ gI σ1 a 13) ∧ pgo (gI σ1 a 19) (gI σ1 a 14) (gI σ a 13) (gI σ1 a 13)) ∧ gI σ a 22 ≤ gI σ1 a 22 ∧ (¬ gI σ1 a 19 = 0 ∨ rdT f2 (aF σ1 (ad E a 2)) (gI σ a 22) (gI σ1 a 22) ky dp)))) 0 0 (th_A b0) := by
  induction n with
  | zero => intro l G y b0 σ E hO a h_a ky rky dp rdp l_dp u_dp f2 ef2 Bf hsr hy0 hy1 hn; exact absurd hn (Nat.not_lt_zero _)
  | succ n ih =>
    intro l G y b0 σ E hO a h_a ky rky dp rdp l_dp u_dp f2 ef2 Bf hsr hy0 hy1 hn
    refine Met.ofW (cc := cX11_readThing) (maxL := 5) (ret := none) (by decide) rfl ?_
    intro p e s m args below meth c s₁ B hml hv
    obtain ⟨rfl, hH, hK⟩ := hv
    have hx := B.exec
    have hb := B.bytes
    have hr := B.returns
    have hts := atoms_spec (ws := wsX11_readThing) B.pre
    have hown : s.vm.findClass RX11 = some m.cls := findClass_of_methodNamed B.named
    have hlocks := B.notSynchronized
    have h00 : b0 ≤ s.heap.size := hH.1
    have hS : va_S (th_A b0) s.heap s.heap [] := va_S.rf
    have hF : fr [13] E σ σ := fr.rf
    have hM : fm [13, 14, 15, 16, 17, 18, 19, 20, 2, 22] E σ σ a := fm.rf
    have inX11 : ∀ w ∈ wsX110, w ∈ wsX11_readThing := by decide +kernel
    have fl0 := hts (.fieldLink RX11 136 "NestQueryModel" "token" "I") (by decide +kernel)
    have fl1 := hts (.fieldLink RX11 162 "NestQueryModel" "bad" "I") (by decide +kernel)
    have fl2 := hts (.fieldLink RX11 188 "NestQueryModel" "dataMany" "I") (by decide +kernel)
    have fl3 := hts (.fieldLink RX11 13 "NestQueryModel" "data" "[I") (by decide +kernel)
    have hl := lv_entry ([.ref a, .int (I ky), .int (I dp)]) (n := 5) (Nat.le_of_ble_eq_true rfl)
    rw [lg_entry_eq]
    generalize (lg_sl ([.ref a, .int (I ky), .int (I dp)]) ++ List.replicate (5 - (lg_sl ([.ref a, .int (I ky), .int (I dp)])).length) Slot.unset).toArray = ls at hl ⊢
    have hl : lv_has ls 5 [(0, .ref a), (1, .int (I ky)), (2, .int (I dp))] := hl
    obtain ⟨a110, ea110, ra110, la110, ua110⟩ := hO.gi h_a (by decide) k13_11
    obtain ⟨a130, ea130, ra130, la130, ua130⟩ := hO.gi h_a (by decide) k13_13
    obtain ⟨a140, ea140, ra140, la140, ua140⟩ := hO.gi h_a (by decide) k13_14
    obtain ⟨a170, ea170, ra170, la170, ua170⟩ := hO.gi h_a (by decide) k13_17
    obtain ⟨a190, ea190, ra190, la190, ua190⟩ := hO.gi h_a (by decide) k13_19
    obtain ⟨a220, ea220, ra220, la220, ua220⟩ := hO.gi h_a (by decide) k13_22
    refine lv_aload_n hx hb dX11_readThing_0 rfl (lv_at hl 0 rfl) ?_
    refine ok.getIc hO h_a (by decide) k13_14 ea140 (fun _ _ he hv kk => th_get (ci := 11) (C := RX11) (T := TX11) (N := 66) hx hb hts inX11 hown hK hH he rfl 14 (by decide) fl0 hv dX11_readThing_1 kk) ?_
    refine lv_iconst (v := I 2) hx hb dX11_readThing_4 (by decide) ?_
    refine th_join (α := Int) (J := 48) (stk := fun x9 => [.int (I x9)]) (fun x9 σ9 H9 l9 ls9 => σ9 = σ ∧ th_H G b0 σ9 H9 ∧ va_S (th_A b0) s.heap H9 l9 ∧ lv_has ls9 5 [(0, .ref a), (1, .int (I ky)), (2, .int (I dp))] ∧ rng x9 ∧ (x9 = 0 ∨ x9 = 1)) ?_ (fun jK_38 => ?_)
    · intro x9 σ_K_38 H locs ls hI9
      obtain ⟨w0q37, ex9⟩ : ∃ z, z = x9 := ⟨_, rfl⟩
      subst ex9
      obtain ⟨eK_38, hH, hS, hl, rw0q37, K_38_0⟩ := hI9
      replace eK_38 := eK_38.symm
      subst eK_38
      have hl : lv_has ls 5 [(0, .ref a), (1, .int (I ky)), (2, .int (I dp))] := hl
      have rw0q37 : rng w0q37 := rw0q37
      have K_38_0 : w0q37 = 0 ∨ w0q37 = 1 := K_38_0
      refine lv_istore_n (lv' := [(3, .int (I w0q37)), (0, .ref a), (1, .int (I ky)), (2, .int (I dp))]) hx hb dX11_readThing_48 rfl hl (by decide) rfl (fun ls hl => ?_)
      refine lv_iload_n hx hb dX11_readThing_49 rfl (lv_at hl 0 rfl) ?_
      refine th_join (α := Unit) (J := 58) (stk := fun x9 => []) (fun x9 σ9 H9 l9 ls9 => ok y E σ9 ∧ fr [13] E σ σ9 ∧ fm [13, 14, 15, 16, 17, 18, 19, 20, 2, 22] E σ σ9 a ∧ sr E σ9 a Bf ∧ th_H G b0 σ9 H9 ∧ va_S (th_A b0) s.heap H9 l9 ∧ lv_has ls9 5 [(0, .ref a), (1, .int (I ky)), (2, .int (I dp))] ∧ (gI σ9 a 11 = a110) ∧ (gI σ9 a 13 = a130) ∧ (gI σ9 a 14 = a140) ∧ (gI σ9 a 17 = a170) ∧ (gI σ9 a 22 = a220) ∧ (aF σ9 (ad E a 2) = f2)) ?_ (fun jK_50 => ?_)
      · intro x9 σ_K_50 H locs ls hI9
        obtain ⟨hO, hF, hM, hsr, hH, hS, hl, K_50_0, K_50_1, K_50_2, K_50_3, K_50_4, K_50_5⟩ := hI9
        have hl : lv_has ls 5 [(0, .ref a), (1, .int (I ky)), (2, .int (I dp))] := hl
        have K_50_0 : gI σ_K_50 a 11 = a110 := K_50_0
        have K_50_1 : gI σ_K_50 a 13 = a130 := K_50_1
        have K_50_2 : gI σ_K_50 a 14 = a140 := K_50_2
        have K_50_3 : gI σ_K_50 a 17 = a170 := K_50_3
        have K_50_4 : gI σ_K_50 a 22 = a220 := K_50_4
        have K_50_5 : aF σ_K_50 (ad E a 2) = f2 := K_50_5
        refine lv_aload_n hx hb dX11_readThing_58 rfl (lv_at hl 0 rfl) ?_
        refine ok.getI hO h_a (by decide) k13_19 (fun _ _ he hv kk => th_get (ci := 11) (C := RX11) (T := TX11) (N := 66) hx hb hts inX11 hown hK hH he rfl 19 (by decide) fl1 hv dX11_readThing_59 kk) (fun z_51 e_52 rz_51 lz_51 uz_51 => ?_)
        refine th_join (α := Unit) (J := 85) (stk := fun x9 => []) (fun x9 σ9 H9 l9 ls9 => ok y E σ9 ∧ fr [13] E σ σ9 ∧ fm [13, 14, 15, 16, 17, 18, 19, 20, 2, 22] E σ σ9 a ∧ sr E σ9 a Bf ∧ th_H G b0 σ9 H9 ∧ va_S (th_A b0) s.heap H9 l9 ∧ lv_has ls9 5 [(0, .ref a), (1, .int (I ky)), (2, .int (I dp))] ∧ (¬ gI σ9 a 19 = 0 ∨ (a220 < 60 ∧ dp ≤ 7)) ∧ (gI σ9 a 11 = a110) ∧ (gI σ9 a 13 = a130) ∧ (gI σ9 a 14 = a140) ∧ (gI σ9 a 17 = a170) ∧ (gI σ9 a 22 = a220) ∧ (aF σ9 (ad E a 2) = f2)) ?_ (fun jK_70 => ?_)
        · intro x9 σ_K_70 H locs ls hI9
          obtain ⟨hO, hF, hM, hsr, hH, hS, hl, K_70_0, K_70_1, K_70_2, K_70_3, K_70_4, K_70_5, K_70_6⟩ := hI9
          have hl : lv_has ls 5 [(0, .ref a), (1, .int (I ky)), (2, .int (I dp))] := hl
          have K_70_0 : ¬ gI σ_K_70 a 19 = 0 ∨ (a220 < 60 ∧ dp ≤ 7) := K_70_0
          have K_70_1 : gI σ_K_70 a 11 = a110 := K_70_1
          have K_70_2 : gI σ_K_70 a 13 = a130 := K_70_2
          have K_70_3 : gI σ_K_70 a 14 = a140 := K_70_3
          have K_70_4 : gI σ_K_70 a 17 = a170 := K_70_4
          have K_70_5 : gI σ_K_70 a 22 = a220 := K_70_5
          have K_70_6 : aF σ_K_70 (ad E a 2) = f2 := K_70_6
          refine lv_aload_n hx hb dX11_readThing_85 rfl (lv_at hl 0 rfl) ?_
          refine ok.getI hO h_a (by decide) k13_19 (fun _ _ he hv kk => th_get (ci := 11) (C := RX11) (T := TX11) (N := 66) hx hb hts inX11 hown hK hH he rfl 19 (by decide) fl1 hv dX11_readThing_86 kk) (fun z_71 e_72 rz_71 lz_71 uz_71 => ?_)
          refine lv_if_eq (tgt := 93) hx hb dX11_readThing_89 (by decide) (fun c_73 => ?_) (fun c_73 => ?_)
          · replace c_73 := (I_eq (a := z_71) (b := 0) rz_71 (show rng 0 from ⟨by decide, by decide⟩)).mp c_73
            obtain ⟨hq71, hq72⟩ := K_70_0.resolve_left (by omega)
            have hn8 : (8 : Int) - dp < n + 1 := by omega
            clear hn K_70_0 K_38_0
            refine lv_iconst (v := I 4) hx hb dX11_readThing_93 (by decide) ?_
            refine lv_aload_n hx hb dX11_readThing_94 rfl (lv_at hl 0 rfl) ?_
            refine ok.getIc hO h_a (by decide) k13_22 K_70_5 (fun _ _ he hv kk => th_get (ci := 11) (C := RX11) (T := TX11) (N := 66) hx hb hts inX11 hown hK hH he rfl 22 (by decide) fl2 hv dX11_readThing_95 kk) ?_
            refine lv_imul hx hb dX11_readThing_98 ?_
            refine nq_top (I_mul _ _) ?_
            refine lv_istore (lv' := [(4, .int (I (4 * a220))), (0, .ref a), (1, .int (I ky)), (2, .int (I dp))]) hx hb dX11_readThing_99 hl (by decide) rfl (fun ls hl => ?_)
            refine lv_aload_n hx hb dX11_readThing_101 rfl (lv_at hl 1 rfl) ?_
            refine lv_dup hx hb dX11_readThing_102 rfl ?_
            refine ok.getIc hO h_a (by decide) k13_22 K_70_5 (fun _ _ he hv kk => th_get (ci := 11) (C := RX11) (T := TX11) (N := 66) hx hb hts inX11 hown hK hH he rfl 22 (by decide) fl2 hv dX11_readThing_103 kk) ?_
            refine lv_iconst (v := I 1) hx hb dX11_readThing_106 (by decide) ?_
            refine lv_iadd hx hb dX11_readThing_107 ?_
            refine nq_top (I_add _ _) ?_
            refine ok.putJ hO h_a k13_22 ⟨by omega, by omega⟩ (by omega) (by omega) (fun _ he hl9 kk => th_put (ci := 11) (v := .int (I (a220 + 1))) (ty := .int) (C := RX11) (T := TX11) (N := 66) hx hb hts inX11 tyX11 tyX11_ok nmX11 hown hK hH hS h00 he rfl 22 (by decide) fl2 rfl (by decide +kernel) rfl rfl hl9 dX11_readThing_108 kk) (fun σ_s_74 H locs hO hF9 hM9 hg9 ha9 hH hS => ?_)
            replace hM := hM.tu hM9 (by decide)
            replace hF := hF.tu hF9 (by decide)
            have e_75 : gI σ_s_74 a 11 = a110 := (hM9.i (by decide)).trans K_70_1
            have e_76 : gI σ_s_74 a 13 = a130 := (hM9.i (by decide)).trans K_70_2
            have e_77 : gI σ_s_74 a 14 = a140 := (hM9.i (by decide)).trans K_70_3
            have e_78 : gI σ_s_74 a 17 = a170 := (hM9.i (by decide)).trans K_70_4
            have e_79 : aF σ_s_74 (ad E a 2) = f2 := (hM9.a (by decide) (by decide)).trans K_70_6
            have e_80 : gI σ_s_74 a 19 = z_71 := (hM9.i (by decide)).trans e_72
            replace hsr := hsr.mv hM9 (by decide) (by decide) (by decide) (by decide) (by decide)
            have e_81 := hg9
            refine lv_aload_n hx hb dX11_readThing_111 rfl (lv_at hl 1 rfl) ?_
            refine ok.getR hO h_a (by decide) k13_2 (by decide) (fun _ _ he hv kk => th_get (ci := 11) (C := RX11) (T := TX11) (N := 66) hx hb hts inX11 hown hK hH he rfl 2 (by decide) fl3 hv dX11_readThing_112 kk) ?_
            refine lv_iload hx hb dX11_readThing_115 (lv_at hl 0 rfl) ?_
            refine lv_iconst (v := I 2) hx hb dX11_readThing_117 (by decide) ?_
            refine lv_iadd hx hb dX11_readThing_118 ?_
            refine nq_top (I_add _ _) ?_
            refine lv_iload_n hx hb dX11_readThing_119 rfl (lv_at hl 2 rfl) ?_
            refine m_iast hx hb hK hH hS h00 hO h_a k13_2 isA1 (by decide) e_79 ⟨by omega, by omega⟩ (by omega) (by omega) rky el1 dX11_readThing_120 (fun σ_s_82 H locs hO hF9 hM9 ha9 hH hS => ?_)
            replace hM := hM.tu hM9 (by decide)
            replace hF := hF.tu hF9 (by decide)
            have e_83 : gI σ_s_82 a 11 = a110 := (hM9.i (by decide)).trans e_75
            have e_84 : gI σ_s_82 a 13 = a130 := (hM9.i (by decide)).trans e_76
            have e_85 : gI σ_s_82 a 14 = a140 := (hM9.i (by decide)).trans e_77
            have e_86 : gI σ_s_82 a 17 = a170 := (hM9.i (by decide)).trans e_78
            have e_87 : gI σ_s_82 a 19 = z_71 := (hM9.i (by decide)).trans e_80
            have e_88 : gI σ_s_82 a 22 = a220 + 1 := (hM9.i (by decide)).trans e_81
            replace hsr := hsr.mv hM9 (by decide) (by decide) (by decide) (by decide) (by decide)
            obtain ⟨g_89, dg_89⟩ : ∃ g9, g9 = upd f2 (4 * a220 + 2).toNat (I ky) := ⟨_, rfl⟩
            rw [← dg_89] at ha9
            have ef_90 := ha9
            refine lv_aload_n hx hb dX11_readThing_121 rfl (lv_at hl 1 rfl) ?_
            refine ok.getR hO h_a (by decide) k13_2 (by decide) (fun _ _ he hv kk => th_get (ci := 11) (C := RX11) (T := TX11) (N := 66) hx hb hts inX11 hown hK hH he rfl 2 (by decide) fl3 hv dX11_readThing_122 kk) ?_
            refine lv_iload hx hb dX11_readThing_125 (lv_at hl 0 rfl) ?_
            refine lv_iconst (v := I 1) hx hb dX11_readThing_127 (by decide) ?_
            refine lv_iadd hx hb dX11_readThing_128 ?_
            refine nq_top (I_add _ _) ?_
            refine lv_iconst (v := I 0) hx hb dX11_readThing_129 (by decide) ?_
            refine m_iast hx hb hK hH hS h00 hO h_a k13_2 isA1 (by decide) ef_90 ⟨by omega, by omega⟩ (by omega) (by omega) (show rng 0 from ⟨by decide, by decide⟩) el1 dX11_readThing_130 (fun σ_s_91 H locs hO hF9 hM9 ha9 hH hS => ?_)
            replace hM := hM.tu hM9 (by decide)
            replace hF := hF.tu hF9 (by decide)
            have e_92 : gI σ_s_91 a 11 = a110 := (hM9.i (by decide)).trans e_83
            have e_93 : gI σ_s_91 a 13 = a130 := (hM9.i (by decide)).trans e_84
            have e_94 : gI σ_s_91 a 14 = a140 := (hM9.i (by decide)).trans e_85
            have e_95 : gI σ_s_91 a 17 = a170 := (hM9.i (by decide)).trans e_86
            have e_96 : gI σ_s_91 a 19 = z_71 := (hM9.i (by decide)).trans e_87
            have e_97 : gI σ_s_91 a 22 = a220 + 1 := (hM9.i (by decide)).trans e_88
            replace hsr := hsr.mv hM9 (by decide) (by decide) (by decide) (by decide) (by decide)
            obtain ⟨g_98, dg_98⟩ : ∃ g9, g9 = upd g_89 (4 * a220 + 1).toNat (I 0) := ⟨_, rfl⟩
            rw [← dg_98] at ha9
            have ef_99 := ha9
            refine lv_aload_n hx hb dX11_readThing_131 rfl (lv_at hl 1 rfl) ?_
            refine ok.getIc hO h_a (by decide) k13_14 e_94 (fun _ _ he hv kk => th_get (ci := 11) (C := RX11) (T := TX11) (N := 66) hx hb hts inX11 hown hK hH he rfl 14 (by decide) fl0 hv dX11_readThing_132 kk) ?_
            refine lv_iconst (v := I 1) hx hb dX11_readThing_135 (by decide) ?_
            refine lv_icmp_ne (tgt := 163) hx hb dX11_readThing_136 (by decide) (fun c_100 => ?_) (fun c_100 => ?_)
            · replace c_100 := mt (I_eq (a := a140) (b := 1) ra140 (show rng 1 from ⟨by decide, by decide⟩)).mpr c_100
              refine lv_aload_n hx hb dX11_readThing_163 rfl (lv_at hl 1 rfl) ?_
              refine lv_bipush (v := I 91) hx hb dX11_readThing_164 (by decide) ?_
              obtain ⟨_, hc_101⟩ := hO.cell h_a (by decide) (ci := 11) rfl
              refine th_calli (va_runV (As := [.int (I 91)]) (rest := []) ⟨hx, hb, hml, hown, hts⟩ (m_isMarked l G y b0 σ_s_91 E hO a h_a 91 (show rng 91 from (show rng 91 from ⟨by decide, by decide⟩)) Bf hsr (by omega)) (cwV 1 hts gX11_readThing_X11_isMarked rfl rfl rfl (by decide +kernel) ⟨(by first | (simp only [headSpec]; omega) | omega | (dsimp only; omega)), (by first | (simp only [headSpec]; omega) | omega | (dsimp only; omega))⟩) (th_PV hK hH rfl hc_101) rfl rfl hl.1 rfl (lv_room (Nat.le_of_ble_eq_true rfl)) dX11_readThing_166 ⟨(by first | (simp only [headSpec]; omega) | omega | (dsimp only; omega)), (by first | (simp only [headSpec]; omega) | omega | (dsimp only; omega))⟩) hS (fun z_104 σ_s_103 H locs rz_104 hw_102 hH hS => ?_)
              obtain ⟨e9, bhw_102, hw_102⟩ := hw_102
              replace e9 := e9.symm
              subst e9
              have hw_102 : z_104 = 0 ∨ (z_104 = 1 ∧ gI σ_s_91 a 19 = 0 ∧ gI σ_s_91 a 14 = 3 ∧ Bf (gI σ_s_91 a 17) = 91) := hw_102
              refine lv_if_eq (tgt := 192) hx hb dX11_readThing_169 (by decide) (fun c_105 => ?_) (fun c_105 => ?_)
              · replace c_105 := (I_eq (a := z_104) (b := 0) rz_104 (show rng 0 from ⟨by decide, by decide⟩)).mp c_105
                clear hw_102
                refine lv_aload_n hx hb dX11_readThing_192 rfl (lv_at hl 1 rfl) ?_
                refine lv_bipush (v := I 123) hx hb dX11_readThing_193 (by decide) ?_
                obtain ⟨_, hc_106⟩ := hO.cell h_a (by decide) (ci := 11) rfl
                refine th_calli (va_runV (As := [.int (I 123)]) (rest := []) ⟨hx, hb, hml, hown, hts⟩ (m_isMarked l G y b0 σ_s_91 E hO a h_a 123 (show rng 123 from (show rng 123 from ⟨by decide, by decide⟩)) Bf hsr (by omega)) (cwV 1 hts gX11_readThing_X11_isMarked rfl rfl rfl (by decide +kernel) ⟨(by first | (simp only [headSpec]; omega) | omega | (dsimp only; omega)), (by first | (simp only [headSpec]; omega) | omega | (dsimp only; omega))⟩) (th_PV hK hH rfl hc_106) rfl rfl hl.1 rfl (lv_room (Nat.le_of_ble_eq_true rfl)) dX11_readThing_195 ⟨(by first | (simp only [headSpec]; omega) | omega | (dsimp only; omega)), (by first | (simp only [headSpec]; omega) | omega | (dsimp only; omega))⟩) hS (fun z_109 σ_s_108 H locs rz_109 hw_107 hH hS => ?_)
                obtain ⟨e9, bhw_107, hw_107⟩ := hw_107
                replace e9 := e9.symm
                subst e9
                have hw_107 : z_109 = 0 ∨ (z_109 = 1 ∧ gI σ_s_91 a 19 = 0 ∧ gI σ_s_91 a 14 = 3 ∧ Bf (gI σ_s_91 a 17) = 123) := hw_107
                refine lv_if_eq (tgt := 221) hx hb dX11_readThing_198 (by decide) (fun c_110 => ?_) (fun c_110 => ?_)
                · replace c_110 := (I_eq (a := z_109) (b := 0) rz_109 (show rng 0 from ⟨by decide, by decide⟩)).mp c_110
                  clear hw_107
                  refine lv_aload_n hx hb dX11_readThing_221 rfl (lv_at hl 1 rfl) ?_
                  refine ok.getR hO h_a (by decide) k13_2 (by decide) (fun _ _ he hv kk => th_get (ci := 11) (C := RX11) (T := TX11) (N := 66) hx hb hts inX11 hown hK hH he rfl 2 (by decide) fl3 hv dX11_readThing_222 kk) ?_
                  refine lv_iload hx hb dX11_readThing_225 (lv_at hl 0 rfl) ?_
                  refine lv_iconst (v := I 0) hx hb dX11_readThing_227 (by decide) ?_
                  refine m_iast hx hb hK hH hS h00 hO h_a k13_2 isA1 (by decide) ef_99 ⟨by omega, by omega⟩ (by omega) (by omega) (show rng 0 from ⟨by decide, by decide⟩) el1 dX11_readThing_228 (fun σ_s_111 H locs hO hF9 hM9 ha9 hH hS => ?_)
                  replace hM := hM.tu hM9 (by decide)
                  replace hF := hF.tu hF9 (by decide)
                  have e_112 : gI σ_s_111 a 11 = a110 := (hM9.i (by decide)).trans e_92
                  have e_113 : gI σ_s_111 a 13 = a130 := (hM9.i (by decide)).trans e_93
                  have e_114 : gI σ_s_111 a 14 = a140 := (hM9.i (by decide)).trans e_94
                  have e_115 : gI σ_s_111 a 17 = a170 := (hM9.i (by decide)).trans e_95
                  have e_116 : gI σ_s_111 a 19 = z_71 := (hM9.i (by decide)).trans e_96
                  have e_117 : gI σ_s_111 a 22 = a220 + 1 := (hM9.i (by decide)).trans e_97
                  replace hsr := hsr.mv hM9 (by decide) (by decide) (by decide) (by decide) (by decide)
                  obtain ⟨g_118, dg_118⟩ : ∃ g9, g9 = upd g_98 (4 * a220).toNat (I 0) := ⟨_, rfl⟩
                  rw [← dg_118] at ha9
                  have ef_119 := ha9
                  refine lv_aload_n hx hb dX11_readThing_229 rfl (lv_at hl 1 rfl) ?_
                  refine ok.getR hO h_a (by decide) k13_2 (by decide) (fun _ _ he hv kk => th_get (ci := 11) (C := RX11) (T := TX11) (N := 66) hx hb hts inX11 hown hK hH he rfl 2 (by decide) fl3 hv dX11_readThing_230 kk) ?_
                  refine lv_iload hx hb dX11_readThing_233 (lv_at hl 0 rfl) ?_
                  refine lv_iconst (v := I 1) hx hb dX11_readThing_235 (by decide) ?_
                  refine lv_iadd hx hb dX11_readThing_236 ?_
                  refine nq_top (I_add _ _) ?_
                  refine lv_aload_n hx hb dX11_readThing_237 rfl (lv_at hl 1 rfl) ?_
                  obtain ⟨_, hc_120⟩ := hO.cell h_a (by decide) (ci := 11) rfl
                  refine th_calli (va_runV (As := []) (rest := [.int (I (4 * a220 + 1)), .ref (ad E a 2)]) ⟨hx, hb, hml, hown, hts⟩ (m_readNumber l G y b0 σ_s_111 E hO a h_a Bf hsr (by omega)) (cwV 0 hts gX11_readThing_X11_readNumber rfl rfl rfl (by decide +kernel) ⟨(by first | (simp only [headSpec]; omega) | omega | (dsimp only; omega)), (by first | (simp only [headSpec]; omega) | omega | (dsimp only; omega))⟩) (th_PV hK hH rfl hc_120) rfl rfl hl.1 rfl (lv_room (Nat.le_of_ble_eq_true rfl)) dX11_readThing_238 ⟨(by first | (simp only [headSpec]; omega) | omega | (dsimp only; omega)), (by first | (simp only [headSpec]; omega) | omega | (dsimp only; omega))⟩) hS (fun z_123 σ_s_122 H locs rz_123 hw_121 hH hS => ?_)
                  obtain ⟨hO9, hF9, hM9, hw_121⟩ := hw_121
                  replace hM := hM.tu hM9 (by decide)
                  replace hF := hF.tu hF9 (by decide)
                  have e_124 : gI σ_s_122 a 11 = a110 := (hM9.i (by decide)).trans e_112
                  have e_125 : gI σ_s_122 a 22 = a220 + 1 := (hM9.i (by decide)).trans e_117
                  have e_126 : aF σ_s_122 (ad E a 2) = g_118 := (hM9.a (by decide) (by decide)).trans ef_119
                  replace hsr := hsr.mv hM9 (by decide) (by decide) (by decide) (by decide) (by decide)
                  replace hO := hO9
                  have hw_121 : (gI σ_s_111 a 13 ≤ gI σ_s_122 a 13 ∧ gI σ_s_122 a 13 ≤ gI σ_s_111 a 11 ∧ 0 ≤ gI σ_s_122 a 17 ∧ gI σ_s_122 a 17 ≤ gI σ_s_122 a 13) ∧ pgo (gI σ_s_122 a 19) (gI σ_s_122 a 14) (gI σ_s_111 a 13) (gI σ_s_122 a 13) ∧ bdo (gI σ_s_111 a 19) (gI σ_s_122 a 19) := hw_121
                  obtain ⟨z_127, e_128, rz_127, lz_127, uz_127⟩ := hO.gi h_a (by decide) k13_13
                  obtain ⟨z_129, e_130, rz_129, lz_129, uz_129⟩ := hO.gi h_a (by decide) k13_14
                  obtain ⟨z_131, e_132, rz_131, lz_131, uz_131⟩ := hO.gi h_a (by decide) k13_17
                  obtain ⟨z_133, e_134, rz_133, lz_133, uz_133⟩ := hO.gi h_a (by decide) k13_19
                  refine m_iast hx hb hK hH hS h00 hO h_a k13_2 isA1 (by decide) e_126 ⟨by omega, by omega⟩ (by omega) (by omega) rz_123 el1 dX11_readThing_241 (fun σ_s_135 H locs hO hF9 hM9 ha9 hH hS => ?_)
                  replace hM := hM.tu hM9 (by decide)
                  replace hF := hF.tu hF9 (by decide)
                  have e_136 : gI σ_s_135 a 11 = a110 := (hM9.i (by decide)).trans e_124
                  have e_137 : gI σ_s_135 a 22 = a220 + 1 := (hM9.i (by decide)).trans e_125
                  have e_138 : gI σ_s_135 a 13 = z_127 := (hM9.i (by decide)).trans e_128
                  have e_139 : gI σ_s_135 a 14 = z_129 := (hM9.i (by decide)).trans e_130
                  have e_140 : gI σ_s_135 a 17 = z_131 := (hM9.i (by decide)).trans e_132
                  have e_141 : gI σ_s_135 a 19 = z_133 := (hM9.i (by decide)).trans e_134
                  replace hsr := hsr.mv hM9 (by decide) (by decide) (by decide) (by decide) (by decide)
                  obtain ⟨g_142, dg_142⟩ : ∃ g9, g9 = upd g_118 (4 * a220 + 1).toNat (I z_123) := ⟨_, rfl⟩
                  rw [← dg_142] at ha9
                  have ef_143 := ha9
                  refine lv_aload_n hx hb dX11_readThing_242 rfl (lv_at hl 1 rfl) ?_
                  refine ok.getR hO h_a (by decide) k13_2 (by decide) (fun _ _ he hv kk => th_get (ci := 11) (C := RX11) (T := TX11) (N := 66) hx hb hts inX11 hown hK hH he rfl 2 (by decide) fl3 hv dX11_readThing_243 kk) ?_
                  refine lv_iload hx hb dX11_readThing_246 (lv_at hl 0 rfl) ?_
                  refine lv_iconst (v := I 3) hx hb dX11_readThing_248 (by decide) ?_
                  refine lv_iadd hx hb dX11_readThing_249 ?_
                  refine nq_top (I_add _ _) ?_
                  refine lv_aload_n hx hb dX11_readThing_250 rfl (lv_at hl 1 rfl) ?_
                  refine ok.getIc hO h_a (by decide) k13_22 e_137 (fun _ _ he hv kk => th_get (ci := 11) (C := RX11) (T := TX11) (N := 66) hx hb hts inX11 hown hK hH he rfl 22 (by decide) fl2 hv dX11_readThing_251 kk) ?_
                  refine lv_iload hx hb dX11_readThing_254 (lv_at hl 0 rfl) ?_
                  refine lv_iconst (v := I 4) hx hb dX11_readThing_256 (by decide) ?_
                  refine lv_idiv hx hb dX11_readThing_257 (by decide) ?_
                  refine th_div (n := 4) ⟨by omega, by omega⟩ (by omega) (by decide) (fun z_144 rz_144 hz_144 => ?_)
                  refine lv_isub hx hb dX11_readThing_258 ?_
                  refine th_subo (fun z_145 rz_145 hz_145 => ?_)
                  refine m_iast hx hb hK hH hS h00 hO h_a k13_2 isA1 (by decide) ef_143 ⟨by omega, by omega⟩ (by omega) (by omega) rz_145 el1 dX11_readThing_259 (fun σ_s_146 H locs hO hF9 hM9 ha9 hH hS => ?_)
                  replace hM := hM.tu hM9 (by decide)
                  replace hF := hF.tu hF9 (by decide)
                  have e_147 : gI σ_s_146 a 11 = a110 := (hM9.i (by decide)).trans e_136
                  have e_148 : gI σ_s_146 a 22 = a220 + 1 := (hM9.i (by decide)).trans e_137
                  have e_149 : gI σ_s_146 a 13 = z_127 := (hM9.i (by decide)).trans e_138
                  have e_150 : gI σ_s_146 a 14 = z_129 := (hM9.i (by decide)).trans e_139
                  have e_151 : gI σ_s_146 a 17 = z_131 := (hM9.i (by decide)).trans e_140
                  have e_152 : gI σ_s_146 a 19 = z_133 := (hM9.i (by decide)).trans e_141
                  replace hsr := hsr.mv hM9 (by decide) (by decide) (by decide) (by decide) (by decide)
                  obtain ⟨g_153, dg_153⟩ : ∃ g9, g9 = upd g_142 (4 * a220 + 3).toNat (I z_145) := ⟨_, rfl⟩
                  rw [← dg_153] at ha9
                  have ef_154 := ha9
                  exact th_vret hx hb hr hlocks hH hS ⟨hO, hF, hM, ⟨⟨⟨by omega, by omega, by omega, by omega⟩, (pgo.up (show pgo (gI σ_s_122 a 19) (gI σ_s_122 a 14) (gI σ_s_111 a 13) (gI σ_s_122 a 13) from hw_121.2.1) (e_152.trans e_134.symm) (e_150.trans e_130.symm) (by omega) (e_149.trans e_128.symm))⟩, by omega, by rw [show gI σ a 22 = a220 from ea220, show gI σ_s_146 a 22 = a220 + 1 from e_148, show aF σ_s_146 (ad E a 2) = g_153 from ef_154]; exact Or.inr (rdT_leaf dg_89 dg_98 dg_118 dg_142 dg_153 rky (show rng z_145 from rz_145) (by omega) hq72 (by omega))⟩⟩ dX11_readThing_260
                · replace c_110 := mt (I_eq (a := z_109) (b := 0) rz_109 (show rng 0 from ⟨by decide, by decide⟩)).mpr c_110
                  replace hw_107 := (hw_107.resolve_left c_110).2
                  refine lv_aload_n hx hb dX11_readThing_201 rfl (lv_at hl 1 rfl) ?_
                  refine ok.getR hO h_a (by decide) k13_2 (by decide) (fun _ _ he hv kk => th_get (ci := 11) (C := RX11) (T := TX11) (N := 66) hx hb hts inX11 hown hK hH he rfl 2 (by decide) fl3 hv dX11_readThing_202 kk) ?_
                  refine lv_iload hx hb dX11_readThing_205 (lv_at hl 0 rfl) ?_
                  refine lv_iconst (v := I 3) hx hb dX11_readThing_207 (by decide) ?_
                  refine m_iast hx hb hK hH hS h00 hO h_a k13_2 isA1 (by decide) ef_99 ⟨by omega, by omega⟩ (by omega) (by omega) (show rng 3 from ⟨by decide, by decide⟩) el1 dX11_readThing_208 (fun σ_s_155 H locs hO hF9 hM9 ha9 hH hS => ?_)
                  replace hM := hM.tu hM9 (by decide)
                  replace hF := hF.tu hF9 (by decide)
                  have e_156 : gI σ_s_155 a 11 = a110 := (hM9.i (by decide)).trans e_92
                  have e_157 : gI σ_s_155 a 13 = a130 := (hM9.i (by decide)).trans e_93
                  have e_158 : gI σ_s_155 a 14 = a140 := (hM9.i (by decide)).trans e_94
                  have e_159 : gI σ_s_155 a 17 = a170 := (hM9.i (by decide)).trans e_95
                  have e_160 : gI σ_s_155 a 19 = z_71 := (hM9.i (by decide)).trans e_96
                  have e_161 : gI σ_s_155 a 22 = a220 + 1 := (hM9.i (by decide)).trans e_97
                  replace hsr := hsr.mv hM9 (by decide) (by decide) (by decide) (by decide) (by decide)
                  obtain ⟨g_162, dg_162⟩ : ∃ g9, g9 = upd g_98 (4 * a220).toNat (I 3) := ⟨_, rfl⟩
                  rw [← dg_162] at ha9
                  have ef_163 := ha9
                  refine lv_aload_n hx hb dX11_readThing_209 rfl (lv_at hl 1 rfl) ?_
                  refine lv_iload hx hb dX11_readThing_210 (lv_at hl 0 rfl) ?_
                  refine lv_iload_n hx hb dX11_readThing_212 rfl (lv_at hl 3 rfl) ?_
                  refine lv_bipush (v := I 125) hx hb dX11_readThing_213 (by decide) ?_
                  obtain ⟨_, hc_164⟩ := hO.cell h_a (by decide) (ci := 11) rfl
                  refine th_callv (va_runV (As := [.int (I (4 * a220)), .int (I dp), .int (I 125)]) (rest := []) ⟨hx, hb, hml, hown, hts⟩ (m_readMany n ih l G y b0 σ_s_155 E hO a h_a (4 * a220) (show rng (4 * a220) from ⟨by omega, by omega⟩) (by omega) (by omega) dp (show rng dp from rdp) (by omega) (by omega) 125 (show rng 125 from (show rng 125 from ⟨by decide, by decide⟩)) g_162 ef_163 Bf hsr (by omega) (by omega) (by omega) (by omega)) (cwV 3 hts gX11_readThing_X11_readMany rfl rfl rfl (by decide +kernel) ⟨(by first | (simp only [headSpec]; omega) | omega | (dsimp only; omega)), (by first | (simp only [headSpec]; omega) | omega | (dsimp only; omega))⟩) (th_PV hK hH rfl hc_164) rfl rfl hl.1 rfl (lv_room (Nat.le_of_ble_eq_true rfl)) dX11_readThing_215 ⟨(by first | (simp only [headSpec]; omega) | omega | (dsimp only; omega)), (by first | (simp only [headSpec]; omega) | omega | (dsimp only; omega))⟩) hS (fun σ_s_166 H locs hw_165 hH hS => ?_)
                  obtain ⟨hO9, hF9, hM9, hw_165⟩ := hw_165
                  replace hM := hM.tu hM9 (by decide)
                  replace hF := hF.tu hF9 (by decide)
                  have e_167 : gI σ_s_166 a 11 = a110 := (hM9.i (by decide)).trans e_156
                  replace hsr := hsr.mv hM9 (by decide) (by decide) (by decide) (by decide) (by decide)
                  replace hO := hO9
                  generalize ef_169 : aF σ_s_166 (ad E a 2) = g_168 at hw_165
                  have hw_165 : ((gI σ_s_155 a 13 ≤ gI σ_s_166 a 13 ∧ gI σ_s_166 a 13 ≤ gI σ_s_155 a 11 ∧ 0 ≤ gI σ_s_166 a 17 ∧ gI σ_s_166 a 17 ≤ gI σ_s_166 a 13) ∧ pgo (gI σ_s_166 a 19) (gI σ_s_166 a 14) (gI σ_s_155 a 13) (gI σ_s_166 a 13)) ∧ gI σ_s_155 a 22 ≤ gI σ_s_166 a 22 ∧ (¬ gI σ_s_166 a 19 = 0 ∨ rdF g_162 g_168 ((4 * a220) / 4) (gI σ_s_166 a 22) dp) := hw_165
                  obtain ⟨z_170, e_171, rz_170, lz_170, uz_170⟩ := hO.gi h_a (by decide) k13_13
                  obtain ⟨z_172, e_173, rz_172, lz_172, uz_172⟩ := hO.gi h_a (by decide) k13_14
                  obtain ⟨z_174, e_175, rz_174, lz_174, uz_174⟩ := hO.gi h_a (by decide) k13_17
                  obtain ⟨z_176, e_177, rz_176, lz_176, uz_176⟩ := hO.gi h_a (by decide) k13_19
                  obtain ⟨z_178, e_179, rz_178, lz_178, uz_178⟩ := hO.gi h_a (by decide) k13_22
                  refine lv_goto (tgt := 242) hx hb dX11_readThing_218 (by decide) ?_
                  refine lv_aload_n hx hb dX11_readThing_242 rfl (lv_at hl 1 rfl) ?_
                  refine ok.getR hO h_a (by decide) k13_2 (by decide) (fun _ _ he hv kk => th_get (ci := 11) (C := RX11) (T := TX11) (N := 66) hx hb hts inX11 hown hK hH he rfl 2 (by decide) fl3 hv dX11_readThing_243 kk) ?_
                  refine lv_iload hx hb dX11_readThing_246 (lv_at hl 0 rfl) ?_
                  refine lv_iconst (v := I 3) hx hb dX11_readThing_248 (by decide) ?_
                  refine lv_iadd hx hb dX11_readThing_249 ?_
                  refine nq_top (I_add _ _) ?_
                  refine lv_aload_n hx hb dX11_readThing_250 rfl (lv_at hl 1 rfl) ?_
                  refine ok.getIc hO h_a (by decide) k13_22 e_179 (fun _ _ he hv kk => th_get (ci := 11) (C := RX11) (T := TX11) (N := 66) hx hb hts inX11 hown hK hH he rfl 22 (by decide) fl2 hv dX11_readThing_251 kk) ?_
                  refine lv_iload hx hb dX11_readThing_254 (lv_at hl 0 rfl) ?_
                  refine lv_iconst (v := I 4) hx hb dX11_readThing_256 (by decide) ?_
                  refine lv_idiv hx hb dX11_readThing_257 (by decide) ?_
                  refine th_div (n := 4) ⟨by omega, by omega⟩ (by omega) (by decide) (fun z_180 rz_180 hz_180 => ?_)
                  refine lv_isub hx hb dX11_readThing_258 ?_
                  refine th_subo (fun z_181 rz_181 hz_181 => ?_)
                  refine m_iast hx hb hK hH hS h00 hO h_a k13_2 isA1 (by decide) ef_169 ⟨by omega, by omega⟩ (by omega) (by omega) rz_181 el1 dX11_readThing_259 (fun σ_s_182 H locs hO hF9 hM9 ha9 hH hS => ?_)
                  replace hM := hM.tu hM9 (by decide)
                  replace hF := hF.tu hF9 (by decide)
                  have e_183 : gI σ_s_182 a 11 = a110 := (hM9.i (by decide)).trans e_167
                  have e_184 : gI σ_s_182 a 13 = z_170 := (hM9.i (by decide)).trans e_171
                  have e_185 : gI σ_s_182 a 14 = z_172 := (hM9.i (by decide)).trans e_173
                  have e_186 : gI σ_s_182 a 17 = z_174 := (hM9.i (by decide)).trans e_175
                  have e_187 : gI σ_s_182 a 19 = z_176 := (hM9.i (by decide)).trans e_177
                  have e_188 : gI σ_s_182 a 22 = z_178 := (hM9.i (by decide)).trans e_179
                  replace hsr := hsr.mv hM9 (by decide) (by decide) (by decide) (by decide) (by decide)
                  obtain ⟨g_189, dg_189⟩ : ∃ g9, g9 = upd g_168 (4 * a220 + 3).toNat (I z_181) := ⟨_, rfl⟩
                  rw [← dg_189] at ha9
                  have ef_190 := ha9
                  exact th_vret hx hb hr hlocks hH hS ⟨hO, hF, hM, ⟨⟨⟨by omega, by omega, by omega, by omega⟩, (pgo.up (show pgo (gI σ_s_166 a 19) (gI σ_s_166 a 14) (gI σ_s_155 a 13) (gI σ_s_166 a 13) from hw_165.1.2) (e_187.trans e_177.symm) (e_185.trans e_173.symm) (by omega) (e_184.trans e_171.symm))⟩, by omega, hw_165.2.2.elim (fun h9 => Or.inl (by rw [(e_187.trans e_177.symm)]; exact h9)) (fun h9 => Or.inr (by rw [show gI σ a 22 = a220 from ea220, (e_188.trans e_179.symm), show aF σ_s_182 (ad E a 2) = g_189 from ef_190]; exact rdT_many h9 (by omega) dg_89 dg_98 dg_162 dg_189 rky (show rng z_181 from rz_181) (by omega) hq72 (by omega)))⟩⟩ dX11_readThing_260
              · replace c_105 := mt (I_eq (a := z_104) (b := 0) rz_104 (show rng 0 from ⟨by decide, by decide⟩)).mpr c_105
                replace hw_102 := (hw_102.resolve_left c_105).2
                refine lv_aload_n hx hb dX11_readThing_172 rfl (lv_at hl 1 rfl) ?_
                refine ok.getR hO h_a (by decide) k13_2 (by decide) (fun _ _ he hv kk => th_get (ci := 11) (C := RX11) (T := TX11) (N := 66) hx hb hts inX11 hown hK hH he rfl 2 (by decide) fl3 hv dX11_readThing_173 kk) ?_
                refine lv_iload hx hb dX11_readThing_176 (lv_at hl 0 rfl) ?_
                refine lv_iconst (v := I 2) hx hb dX11_readThing_178 (by decide) ?_
                refine m_iast hx hb hK hH hS h00 hO h_a k13_2 isA1 (by decide) ef_99 ⟨by omega, by omega⟩ (by omega) (by omega) (show rng 2 from ⟨by decide, by decide⟩) el1 dX11_readThing_179 (fun σ_s_191 H locs hO hF9 hM9 ha9 hH hS => ?_)
                replace hM := hM.tu hM9 (by decide)
                replace hF := hF.tu hF9 (by decide)
                have e_192 : gI σ_s_191 a 11 = a110 := (hM9.i (by decide)).trans e_92
                have e_193 : gI σ_s_191 a 13 = a130 := (hM9.i (by decide)).trans e_93
                have e_194 : gI σ_s_191 a 14 = a140 := (hM9.i (by decide)).trans e_94
                have e_195 : gI σ_s_191 a 17 = a170 := (hM9.i (by decide)).trans e_95
                have e_196 : gI σ_s_191 a 19 = z_71 := (hM9.i (by decide)).trans e_96
                have e_197 : gI σ_s_191 a 22 = a220 + 1 := (hM9.i (by decide)).trans e_97
                replace hsr := hsr.mv hM9 (by decide) (by decide) (by decide) (by decide) (by decide)
                obtain ⟨g_198, dg_198⟩ : ∃ g9, g9 = upd g_98 (4 * a220).toNat (I 2) := ⟨_, rfl⟩
                rw [← dg_198] at ha9
                have ef_199 := ha9
                refine lv_aload_n hx hb dX11_readThing_180 rfl (lv_at hl 1 rfl) ?_
                refine lv_iload hx hb dX11_readThing_181 (lv_at hl 0 rfl) ?_
                refine lv_iload_n hx hb dX11_readThing_183 rfl (lv_at hl 3 rfl) ?_
                refine lv_bipush (v := I 93) hx hb dX11_readThing_184 (by decide) ?_
                obtain ⟨_, hc_200⟩ := hO.cell h_a (by decide) (ci := 11) rfl
                refine th_callv (va_runV (As := [.int (I (4 * a220)), .int (I dp), .int (I 93)]) (rest := []) ⟨hx, hb, hml, hown, hts⟩ (m_readMany n ih l G y b0 σ_s_191 E hO a h_a (4 * a220) (show rng (4 * a220) from ⟨by omega, by omega⟩) (by omega) (by omega) dp (show rng dp from rdp) (by omega) (by omega) 93 (show rng 93 from (show rng 93 from ⟨by decide, by decide⟩)) g_198 ef_199 Bf hsr (by omega) (by omega) (by omega) (by omega)) (cwV 3 hts gX11_readThing_X11_readMany rfl rfl rfl (by decide +kernel) ⟨(by first | (simp only [headSpec]; omega) | omega | (dsimp only; omega)), (by first | (simp only [headSpec]; omega) | omega | (dsimp only; omega))⟩) (th_PV hK hH rfl hc_200) rfl rfl hl.1 rfl (lv_room (Nat.le_of_ble_eq_true rfl)) dX11_readThing_186 ⟨(by first | (simp only [headSpec]; omega) | omega | (dsimp only; omega)), (by first | (simp only [headSpec]; omega) | omega | (dsimp only; omega))⟩) hS (fun σ_s_202 H locs hw_201 hH hS => ?_)
                obtain ⟨hO9, hF9, hM9, hw_201⟩ := hw_201
                replace hM := hM.tu hM9 (by decide)
                replace hF := hF.tu hF9 (by decide)
                have e_203 : gI σ_s_202 a 11 = a110 := (hM9.i (by decide)).trans e_192
                replace hsr := hsr.mv hM9 (by decide) (by decide) (by decide) (by decide) (by decide)
                replace hO := hO9
                generalize ef_205 : aF σ_s_202 (ad E a 2) = g_204 at hw_201
                have hw_201 : ((gI σ_s_191 a 13 ≤ gI σ_s_202 a 13 ∧ gI σ_s_202 a 13 ≤ gI σ_s_191 a 11 ∧ 0 ≤ gI σ_s_202 a 17 ∧ gI σ_s_202 a 17 ≤ gI σ_s_202 a 13) ∧ pgo (gI σ_s_202 a 19) (gI σ_s_202 a 14) (gI σ_s_191 a 13) (gI σ_s_202 a 13)) ∧ gI σ_s_191 a 22 ≤ gI σ_s_202 a 22 ∧ (¬ gI σ_s_202 a 19 = 0 ∨ rdF g_198 g_204 ((4 * a220) / 4) (gI σ_s_202 a 22) dp) := hw_201
                obtain ⟨z_206, e_207, rz_206, lz_206, uz_206⟩ := hO.gi h_a (by decide) k13_13
                obtain ⟨z_208, e_209, rz_208, lz_208, uz_208⟩ := hO.gi h_a (by decide) k13_14
                obtain ⟨z_210, e_211, rz_210, lz_210, uz_210⟩ := hO.gi h_a (by decide) k13_17
                obtain ⟨z_212, e_213, rz_212, lz_212, uz_212⟩ := hO.gi h_a (by decide) k13_19
                obtain ⟨z_214, e_215, rz_214, lz_214, uz_214⟩ := hO.gi h_a (by decide) k13_22
                refine lv_goto (tgt := 242) hx hb dX11_readThing_189 (by decide) ?_
                refine lv_aload_n hx hb dX11_readThing_242 rfl (lv_at hl 1 rfl) ?_
                refine ok.getR hO h_a (by decide) k13_2 (by decide) (fun _ _ he hv kk => th_get (ci := 11) (C := RX11) (T := TX11) (N := 66) hx hb hts inX11 hown hK hH he rfl 2 (by decide) fl3 hv dX11_readThing_243 kk) ?_
                refine lv_iload hx hb dX11_readThing_246 (lv_at hl 0 rfl) ?_
                refine lv_iconst (v := I 3) hx hb dX11_readThing_248 (by decide) ?_
                refine lv_iadd hx hb dX11_readThing_249 ?_
                refine nq_top (I_add _ _) ?_
                refine lv_aload_n hx hb dX11_readThing_250 rfl (lv_at hl 1 rfl) ?_
                refine ok.getIc hO h_a (by decide) k13_22 e_215 (fun _ _ he hv kk => th_get (ci := 11) (C := RX11) (T := TX11) (N := 66) hx hb hts inX11 hown hK hH he rfl 22 (by decide) fl2 hv dX11_readThing_251 kk) ?_
                refine lv_iload hx hb dX11_readThing_254 (lv_at hl 0 rfl) ?_
                refine lv_iconst (v := I 4) hx hb dX11_readThing_256 (by decide) ?_
                refine lv_idiv hx hb dX11_readThing_257 (by decide) ?_
                refine th_div (n := 4) ⟨by omega, by omega⟩ (by omega) (by decide) (fun z_216 rz_216 hz_216 => ?_)
                refine lv_isub hx hb dX11_readThing_258 ?_
                refine th_subo (fun z_217 rz_217 hz_217 => ?_)
                refine m_iast hx hb hK hH hS h00 hO h_a k13_2 isA1 (by decide) ef_205 ⟨by omega, by omega⟩ (by omega) (by omega) rz_217 el1 dX11_readThing_259 (fun σ_s_218 H locs hO hF9 hM9 ha9 hH hS => ?_)
                replace hM := hM.tu hM9 (by decide)
                replace hF := hF.tu hF9 (by decide)
                have e_219 : gI σ_s_218 a 11 = a110 := (hM9.i (by decide)).trans e_203
                have e_220 : gI σ_s_218 a 13 = z_206 := (hM9.i (by decide)).trans e_207
                have e_221 : gI σ_s_218 a 14 = z_208 := (hM9.i (by decide)).trans e_209
                have e_222 : gI σ_s_218 a 17 = z_210 := (hM9.i (by decide)).trans e_211
                have e_223 : gI σ_s_218 a 19 = z_212 := (hM9.i (by decide)).trans e_213
                have e_224 : gI σ_s_218 a 22 = z_214 := (hM9.i (by decide)).trans e_215
                replace hsr := hsr.mv hM9 (by decide) (by decide) (by decide) (by decide) (by decide)
                obtain ⟨g_225, dg_225⟩ : ∃ g9, g9 = upd g_204 (4 * a220 + 3).toNat (I z_217) := ⟨_, rfl⟩
                rw [← dg_225] at ha9
                have ef_226 := ha9
                exact th_vret hx hb hr hlocks hH hS ⟨hO, hF, hM, ⟨⟨⟨by omega, by omega, by omega, by omega⟩, (pgo.up (show pgo (gI σ_s_202 a 19) (gI σ_s_202 a 14) (gI σ_s_191 a 13) (gI σ_s_202 a 13) from hw_201.1.2) (e_223.trans e_213.symm) (e_221.trans e_209.symm) (by omega) (e_220.trans e_207.symm))⟩, by omega, hw_201.2.2.elim (fun h9 => Or.inl (by rw [(e_223.trans e_213.symm)]; exact h9)) (fun h9 => Or.inr (by rw [show gI σ a 22 = a220 from ea220, (e_224.trans e_215.symm), show aF σ_s_218 (ad E a 2) = g_225 from ef_226]; exact rdT_many h9 (by omega) dg_89 dg_98 dg_198 dg_225 rky (show rng z_217 from rz_217) (by omega) hq72 (by omega)))⟩⟩ dX11_readThing_260
            · replace c_100 := (I_eq (a := a140) (b := 1) ra140 (show rng 1 from ⟨by decide, by decide⟩)).mp c_100
              refine lv_aload_n hx hb dX11_readThing_139 rfl (lv_at hl 1 rfl) ?_
              refine ok.getR hO h_a (by decide) k13_2 (by decide) (fun _ _ he hv kk => th_get (ci := 11) (C := RX11) (T := TX11) (N := 66) hx hb hts inX11 hown hK hH he rfl 2 (by decide) fl3 hv dX11_readThing_140 kk) ?_
              refine lv_iload hx hb dX11_readThing_143 (lv_at hl 0 rfl) ?_
              refine lv_iconst (v := I 1) hx hb dX11_readThing_145 (by decide) ?_
              refine m_iast hx hb hK hH hS h00 hO h_a k13_2 isA1 (by decide) ef_99 ⟨by omega, by omega⟩ (by omega) (by omega) (show rng 1 from ⟨by decide, by decide⟩) el1 dX11_readThing_146 (fun σ_s_227 H locs hO hF9 hM9 ha9 hH hS => ?_)
              replace hM := hM.tu hM9 (by decide)
              replace hF := hF.tu hF9 (by decide)
              have e_228 : gI σ_s_227 a 11 = a110 := (hM9.i (by decide)).trans e_92
              have e_229 : gI σ_s_227 a 13 = a130 := (hM9.i (by decide)).trans e_93
              have e_230 : gI σ_s_227 a 14 = a140 := (hM9.i (by decide)).trans e_94
              have e_231 : gI σ_s_227 a 17 = a170 := (hM9.i (by decide)).trans e_95
              have e_232 : gI σ_s_227 a 19 = z_71 := (hM9.i (by decide)).trans e_96
              have e_233 : gI σ_s_227 a 22 = a220 + 1 := (hM9.i (by decide)).trans e_97
              replace hsr := hsr.mv hM9 (by decide) (by decide) (by decide) (by decide) (by decide)
              obtain ⟨g_234, dg_234⟩ : ∃ g9, g9 = upd g_98 (4 * a220).toNat (I 1) := ⟨_, rfl⟩
              rw [← dg_234] at ha9
              have ef_235 := ha9
              refine lv_aload_n hx hb dX11_readThing_147 rfl (lv_at hl 1 rfl) ?_
              refine ok.getR hO h_a (by decide) k13_2 (by decide) (fun _ _ he hv kk => th_get (ci := 11) (C := RX11) (T := TX11) (N := 66) hx hb hts inX11 hown hK hH he rfl 2 (by decide) fl3 hv dX11_readThing_148 kk) ?_
              refine lv_iload hx hb dX11_readThing_151 (lv_at hl 0 rfl) ?_
              refine lv_iconst (v := I 1) hx hb dX11_readThing_153 (by decide) ?_
              refine lv_iadd hx hb dX11_readThing_154 ?_
              refine nq_top (I_add _ _) ?_
              refine lv_aload_n hx hb dX11_readThing_155 rfl (lv_at hl 1 rfl) ?_
              obtain ⟨_, hc_236⟩ := hO.cell h_a (by decide) (ci := 11) rfl
              refine th_calli (va_runV (As := []) (rest := [.int (I (4 * a220 + 1)), .ref (ad E a 2)]) ⟨hx, hb, hml, hown, hts⟩ (m_readWord l G y b0 σ_s_227 E hO a h_a Bf hsr (by omega)) (cwV 0 hts gX11_readThing_X11_readWord rfl rfl rfl (by decide +kernel) ⟨(by first | (simp only [headSpec]; omega) | omega | (dsimp only; omega)), (by first | (simp only [headSpec]; omega) | omega | (dsimp only; omega))⟩) (th_PV hK hH rfl hc_236) rfl rfl hl.1 rfl (lv_room (Nat.le_of_ble_eq_true rfl)) dX11_readThing_156 ⟨(by first | (simp only [headSpec]; omega) | omega | (dsimp only; omega)), (by first | (simp only [headSpec]; omega) | omega | (dsimp only; omega))⟩) hS (fun z_239 σ_s_238 H locs rz_239 hw_237 hH hS => ?_)
              obtain ⟨hO9, hF9, hM9, hw_237⟩ := hw_237
              replace hM := hM.tu hM9 (by decide)
              replace hF := hF.tu hF9 (by decide)
              have e_240 : gI σ_s_238 a 11 = a110 := (hM9.i (by decide)).trans e_228
              have e_241 : gI σ_s_238 a 22 = a220 + 1 := (hM9.i (by decide)).trans e_233
              have e_242 : aF σ_s_238 (ad E a 2) = g_234 := (hM9.a (by decide) (by decide)).trans ef_235
              replace hsr := hsr.mv hM9 (by decide) (by decide) (by decide) (by decide) (by decide)
              replace hO := hO9
              have hw_237 : (gI σ_s_227 a 13 ≤ gI σ_s_238 a 13 ∧ gI σ_s_238 a 13 ≤ gI σ_s_227 a 11 ∧ 0 ≤ gI σ_s_238 a 17 ∧ gI σ_s_238 a 17 ≤ gI σ_s_238 a 13) ∧ pgo (gI σ_s_238 a 19) (gI σ_s_238 a 14) (gI σ_s_227 a 13) (gI σ_s_238 a 13) ∧ bdo (gI σ_s_227 a 19) (gI σ_s_238 a 19) := hw_237
              obtain ⟨z_243, e_244, rz_243, lz_243, uz_243⟩ := hO.gi h_a (by decide) k13_13
              obtain ⟨z_245, e_246, rz_245, lz_245, uz_245⟩ := hO.gi h_a (by decide) k13_14
              obtain ⟨z_247, e_248, rz_247, lz_247, uz_247⟩ := hO.gi h_a (by decide) k13_17
              obtain ⟨z_249, e_250, rz_249, lz_249, uz_249⟩ := hO.gi h_a (by decide) k13_19
              refine m_iast hx hb hK hH hS h00 hO h_a k13_2 isA1 (by decide) e_242 ⟨by omega, by omega⟩ (by omega) (by omega) rz_239 el1 dX11_readThing_159 (fun σ_s_251 H locs hO hF9 hM9 ha9 hH hS => ?_)
              replace hM := hM.tu hM9 (by decide)
              replace hF := hF.tu hF9 (by decide)
              have e_252 : gI σ_s_251 a 11 = a110 := (hM9.i (by decide)).trans e_240
              have e_253 : gI σ_s_251 a 22 = a220 + 1 := (hM9.i (by decide)).trans e_241
              have e_254 : gI σ_s_251 a 13 = z_243 := (hM9.i (by decide)).trans e_244
              have e_255 : gI σ_s_251 a 14 = z_245 := (hM9.i (by decide)).trans e_246
              have e_256 : gI σ_s_251 a 17 = z_247 := (hM9.i (by decide)).trans e_248
              have e_257 : gI σ_s_251 a 19 = z_249 := (hM9.i (by decide)).trans e_250
              replace hsr := hsr.mv hM9 (by decide) (by decide) (by decide) (by decide) (by decide)
              obtain ⟨g_258, dg_258⟩ : ∃ g9, g9 = upd g_234 (4 * a220 + 1).toNat (I z_239) := ⟨_, rfl⟩
              rw [← dg_258] at ha9
              have ef_259 := ha9
              refine lv_goto (tgt := 242) hx hb dX11_readThing_160 (by decide) ?_
              refine lv_aload_n hx hb dX11_readThing_242 rfl (lv_at hl 1 rfl) ?_
              refine ok.getR hO h_a (by decide) k13_2 (by decide) (fun _ _ he hv kk => th_get (ci := 11) (C := RX11) (T := TX11) (N := 66) hx hb hts inX11 hown hK hH he rfl 2 (by decide) fl3 hv dX11_readThing_243 kk) ?_
              refine lv_iload hx hb dX11_readThing_246 (lv_at hl 0 rfl) ?_
              refine lv_iconst (v := I 3) hx hb dX11_readThing_248 (by decide) ?_
              refine lv_iadd hx hb dX11_readThing_249 ?_
              refine nq_top (I_add _ _) ?_
              refine lv_aload_n hx hb dX11_readThing_250 rfl (lv_at hl 1 rfl) ?_
              refine ok.getIc hO h_a (by decide) k13_22 e_253 (fun _ _ he hv kk => th_get (ci := 11) (C := RX11) (T := TX11) (N := 66) hx hb hts inX11 hown hK hH he rfl 22 (by decide) fl2 hv dX11_readThing_251 kk) ?_
              refine lv_iload hx hb dX11_readThing_254 (lv_at hl 0 rfl) ?_
              refine lv_iconst (v := I 4) hx hb dX11_readThing_256 (by decide) ?_
              refine lv_idiv hx hb dX11_readThing_257 (by decide) ?_
              refine th_div (n := 4) ⟨by omega, by omega⟩ (by omega) (by decide) (fun z_260 rz_260 hz_260 => ?_)
              refine lv_isub hx hb dX11_readThing_258 ?_
              refine th_subo (fun z_261 rz_261 hz_261 => ?_)
              refine m_iast hx hb hK hH hS h00 hO h_a k13_2 isA1 (by decide) ef_259 ⟨by omega, by omega⟩ (by omega) (by omega) rz_261 el1 dX11_readThing_259 (fun σ_s_262 H locs hO hF9 hM9 ha9 hH hS => ?_)
              replace hM := hM.tu hM9 (by decide)
              replace hF := hF.tu hF9 (by decide)
              have e_263 : gI σ_s_262 a 11 = a110 := (hM9.i (by decide)).trans e_252
              have e_264 : gI σ_s_262 a 22 = a220 + 1 := (hM9.i (by decide)).trans e_253
              have e_265 : gI σ_s_262 a 13 = z_243 := (hM9.i (by decide)).trans e_254
              have e_266 : gI σ_s_262 a 14 = z_245 := (hM9.i (by decide)).trans e_255
              have e_267 : gI σ_s_262 a 17 = z_247 := (hM9.i (by decide)).trans e_256
              have e_268 : gI σ_s_262 a 19 = z_249 := (hM9.i (by decide)).trans e_257
              replace hsr := hsr.mv hM9 (by decide) (by decide) (by decide) (by decide) (by decide)
              obtain ⟨g_269, dg_269⟩ : ∃ g9, g9 = upd g_258 (4 * a220 + 3).toNat (I z_261) := ⟨_, rfl⟩
              rw [← dg_269] at ha9
              have ef_270 := ha9
              exact th_vret hx hb hr hlocks hH hS ⟨hO, hF, hM, ⟨⟨⟨by omega, by omega, by omega, by omega⟩, (pgo.up (show pgo (gI σ_s_238 a 19) (gI σ_s_238 a 14) (gI σ_s_227 a 13) (gI σ_s_238 a 13) from hw_237.2.1) (e_268.trans e_250.symm) (e_266.trans e_246.symm) (by omega) (e_265.trans e_244.symm))⟩, by omega, by rw [show gI σ a 22 = a220 from ea220, show gI σ_s_262 a 22 = a220 + 1 from e_264, show aF σ_s_262 (ad E a 2) = g_269 from ef_270]; exact Or.inr (rdT_leaf dg_89 dg_98 dg_234 dg_258 dg_269 rky (show rng z_261 from rz_261) (by omega) hq72 (by omega))⟩⟩ dX11_readThing_260
          · replace c_73 := mt (I_eq (a := z_71) (b := 0) rz_71 (show rng 0 from ⟨by decide, by decide⟩)).mpr c_73
            exact th_vret hx hb hr hlocks hH hS ⟨hO, hF, hM, ⟨⟨⟨by omega, by omega, by omega, by omega⟩, pgo.of (by omega)⟩, by omega, Or.inl (by omega)⟩⟩ dX11_readThing_92
        · refine lv_if_ne (tgt := 85) hx hb dX11_readThing_62 (by decide) (fun c_271 => ?_) (fun c_271 => ?_)
          · replace c_271 := mt (I_eq (a := z_51) (b := 0) rz_51 (show rng 0 from ⟨by decide, by decide⟩)).mpr c_271
            exact jK_70 () σ_K_50 _ _ _ ⟨hO, hF, hM, hsr, hH, hS, lv_sub hl [0, 1, 2] rfl, by first | (dsimp only; omega) | omega, K_50_0, K_50_1, K_50_2, K_50_3, K_50_4, K_50_5⟩
          · replace c_271 := (I_eq (a := z_51) (b := 0) rz_51 (show rng 0 from ⟨by decide, by decide⟩)).mp c_271
            refine lv_aload_n hx hb dX11_readThing_65 rfl (lv_at hl 0 rfl) ?_
            refine ok.getIc hO h_a (by decide) k13_22 K_50_4 (fun _ _ he hv kk => th_get (ci := 11) (C := RX11) (T := TX11) (N := 66) hx hb hts inX11 hown hK hH he rfl 22 (by decide) fl2 hv dX11_readThing_66 kk) ?_
            refine lv_bipush (v := I 60) hx hb dX11_readThing_69 (by decide) ?_
            refine th_join (α := Unit) (J := 80) (stk := fun x9 => []) (fun x9 σ9 H9 l9 ls9 => σ9 = σ_K_50 ∧ th_H G b0 σ9 H9 ∧ va_S (th_A b0) s.heap H9 l9 ∧ lv_has ls9 5 [(0, .ref a), (1, .int (I ky)), (2, .int (I dp))]) ?_ (fun jK_275 => ?_)
            · intro x9 σ_K_275 H locs ls hI9
              obtain ⟨eK_275, hH, hS, hl⟩ := hI9
              replace eK_275 := eK_275.symm
              subst eK_275
              have hl : lv_has ls 5 [(0, .ref a), (1, .int (I ky)), (2, .int (I dp))] := hl
              refine lv_aload_n hx hb dX11_readThing_80 rfl (lv_at hl 0 rfl) ?_
              refine lv_iconst (v := I 2) hx hb dX11_readThing_81 (by decide) ?_
              obtain ⟨_, hc_276⟩ := hO.cell h_a (by decide) (ci := 11) rfl
              refine th_callv (va_runV (As := [.int (I 2)]) (rest := []) ⟨hx, hb, hml, hown, hts⟩ (m_wrong l G y b0 σ_K_50 E hO a h_a 2 (show rng 2 from (show rng 2 from ⟨by decide, by decide⟩)) (by omega) (by omega)) (cwV 1 hts gX11_readThing_X11_wrong rfl rfl rfl (by decide +kernel) ⟨(by first | (simp only [headSpec]; omega) | omega | (dsimp only; omega)), (by first | (simp only [headSpec]; omega) | omega | (dsimp only; omega))⟩) (th_PV hK hH rfl hc_276) rfl rfl hl.1 rfl (lv_room (Nat.le_of_ble_eq_true rfl)) dX11_readThing_82 ⟨(by first | (simp only [headSpec]; omega) | omega | (dsimp only; omega)), (by first | (simp only [headSpec]; omega) | omega | (dsimp only; omega))⟩) hS (fun σ_s_278 H locs hw_277 hH hS => ?_)
              obtain ⟨hO9, hF9, hM9, hw_277⟩ := hw_277
              replace hM := hM.tu hM9 (by decide)
              replace hF := hF.tu hF9 (by decide)
              have e_279 : gI σ_s_278 a 11 = a110 := (hM9.i (by decide)).trans K_50_0
              have e_280 : gI σ_s_278 a 13 = a130 := (hM9.i (by decide)).trans K_50_1
              have e_281 : gI σ_s_278 a 14 = a140 := (hM9.i (by decide)).trans K_50_2
              have e_282 : gI σ_s_278 a 17 = a170 := (hM9.i (by decide)).trans K_50_3
              have e_283 : gI σ_s_278 a 22 = a220 := (hM9.i (by decide)).trans K_50_4
              have e_284 : aF σ_s_278 (ad E a 2) = f2 := (hM9.a (by decide) (by decide)).trans K_50_5
              replace hsr := hsr.mv hM9 (by decide) (by decide) (by decide) (by decide) (by decide)
              replace hO := hO9
              have hw_277 : ¬ gI σ_s_278 a 19 = 0 ∧ (gI σ_K_50 a 19 = 0 ∨ gI σ_s_278 a 19 = gI σ_K_50 a 19) := hw_277
              exact jK_70 () σ_s_278 _ _ _ ⟨hO, hF, hM, hsr, hH, hS, lv_sub hl [0, 1, 2] rfl, by first | (dsimp only; omega) | omega, e_279, e_280, e_281, e_282, e_283, e_284⟩
            · refine lv_icmp_eq (tgt := 80) hx hb dX11_readThing_71 (by decide) (fun c_285 => ?_) (fun c_285 => ?_)
              · replace c_285 := (I_eq (a := a220) (b := 60) ra220 (show rng 60 from ⟨by decide, by decide⟩)).mp c_285
                exact jK_275 () σ_K_50 _ _ _ ⟨rfl, hH, hS, lv_sub hl [0, 1, 2] rfl⟩
              · replace c_285 := mt (I_eq (a := a220) (b := 60) ra220 (show rng 60 from ⟨by decide, by decide⟩)).mpr c_285
                refine lv_iload_n hx hb dX11_readThing_74 rfl (lv_at hl 2 rfl) ?_
                refine lv_bipush (v := I 7) hx hb dX11_readThing_75 (by decide) ?_
                refine lv_icmp_le (tgt := 85) hx hb dX11_readThing_77 (by decide) (fun c_286 => ?_) (fun c_286 => ?_)
                · replace c_286 := (I_le (a := dp) (b := 7) rdp (show rng 7 from ⟨by decide, by decide⟩)).mp c_286
                  exact jK_70 () σ_K_50 _ _ _ ⟨hO, hF, hM, hsr, hH, hS, lv_sub hl [0, 1, 2] rfl, by first | (dsimp only; omega) | omega, K_50_0, K_50_1, K_50_2, K_50_3, K_50_4, K_50_5⟩
                · replace c_286 := mt (I_le (a := dp) (b := 7) rdp (show rng 7 from ⟨by decide, by decide⟩)).mpr c_286
                  exact jK_275 () σ_K_50 _ _ _ ⟨rfl, hH, hS, lv_sub hl [0, 1, 2] rfl⟩
      · refine lv_if_ne (tgt := 58) hx hb dX11_readThing_50 (by decide) (fun c_287 => ?_) (fun c_287 => ?_)
        · replace c_287 := mt (I_eq (a := w0q37) (b := 0) rw0q37 (show rng 0 from ⟨by decide, by decide⟩)).mpr c_287
          replace hl : lv_has ls 5 [(0, .ref a), (1, .int (I ky)), (2, .int (I dp))] := lv_sub hl [1, 2, 3] rfl
          exact jK_50 () σ _ _ _ ⟨hO, hF, hM, hsr, hH, hS, lv_sub hl [0, 1, 2] rfl, ea110, ea130, ea140, ea170, ea220, ef2⟩
        · replace c_287 := (I_eq (a := w0q37) (b := 0) rw0q37 (show rng 0 from ⟨by decide, by decide⟩)).mp c_287
          refine lv_aload_n hx hb dX11_readThing_53 rfl (lv_at hl 1 rfl) ?_
          refine lv_iconst (v := I 1) hx hb dX11_readThing_54 (by decide) ?_
          obtain ⟨_, hc_288⟩ := hO.cell h_a (by decide) (ci := 11) rfl
          refine th_callv (va_runV (As := [.int (I 1)]) (rest := []) ⟨hx, hb, hml, hown, hts⟩ (m_wrong l G y b0 σ E hO a h_a 1 (show rng 1 from (show rng 1 from ⟨by decide, by decide⟩)) (by omega) (by omega)) (cwV 1 hts gX11_readThing_X11_wrong rfl rfl rfl (by decide +kernel) ⟨(by first | (simp only [headSpec]; omega) | omega | (dsimp only; omega)), (by first | (simp only [headSpec]; omega) | omega | (dsimp only; omega))⟩) (th_PV hK hH rfl hc_288) rfl rfl hl.1 rfl (lv_room (Nat.le_of_ble_eq_true rfl)) dX11_readThing_55 ⟨(by first | (simp only [headSpec]; omega) | omega | (dsimp only; omega)), (by first | (simp only [headSpec]; omega) | omega | (dsimp only; omega))⟩) hS (fun σ_s_290 H locs hw_289 hH hS => ?_)
          obtain ⟨hO9, hF9, hM9, hw_289⟩ := hw_289
          replace hM := hM.tu hM9 (by decide)
          replace hF := hF.tu hF9 (by decide)
          have e_291 : aF σ_s_290 (ad E a 2) = f2 := (hM9.a (by decide) (by decide)).trans ef2
          have e_292 : gI σ_s_290 a 11 = a110 := (hM9.i (by decide)).trans ea110
          have e_293 : gI σ_s_290 a 13 = a130 := (hM9.i (by decide)).trans ea130
          have e_294 : gI σ_s_290 a 14 = a140 := (hM9.i (by decide)).trans ea140
          have e_295 : gI σ_s_290 a 17 = a170 := (hM9.i (by decide)).trans ea170
          have e_296 : gI σ_s_290 a 22 = a220 := (hM9.i (by decide)).trans ea220
          replace hsr := hsr.mv hM9 (by decide) (by decide) (by decide) (by decide) (by decide)
          replace hO := hO9
          have hw_289 : ¬ gI σ_s_290 a 19 = 0 ∧ (gI σ a 19 = 0 ∨ gI σ_s_290 a 19 = gI σ a 19) := hw_289
          replace hl : lv_has ls 5 [(0, .ref a), (1, .int (I ky)), (2, .int (I dp))] := lv_sub hl [1, 2, 3] rfl
          exact jK_50 () σ_s_290 _ _ _ ⟨hO, hF, hM, hsr, hH, hS, lv_sub hl [0, 1, 2] rfl, e_292, e_293, e_294, e_295, e_296, e_291⟩
    · refine th_join (α := Unit) (J := 43) (stk := fun x9 => []) (fun x9 σ9 H9 l9 ls9 => σ9 = σ ∧ th_H G b0 σ9 H9 ∧ va_S (th_A b0) s.heap H9 l9 ∧ lv_has ls9 5 [(0, .ref a), (1, .int (I ky)), (2, .int (I dp))]) ?_ (fun jK_315 => ?_)
      · intro x9 σ_K_315 H locs ls hI9
        obtain ⟨eK_315, hH, hS, hl⟩ := hI9
        replace eK_315 := eK_315.symm
        subst eK_315
        have hl : lv_has ls 5 [(0, .ref a), (1, .int (I ky)), (2, .int (I dp))] := hl
        refine lv_iconst (v := I 1) hx hb dX11_readThing_43 (by decide) ?_
        refine lv_goto (tgt := 48) hx hb dX11_readThing_44 (by decide) ?_
        exact jK_38 (1) σ _ _ _ ⟨rfl, hH, hS, lv_sub hl [0, 1, 2] rfl, (show rng 1 from ⟨by decide, by decide⟩), by first | (dsimp only; omega) | omega⟩
      · refine lv_icmp_eq (tgt := 43) hx hb dX11_readThing_5 (by decide) (fun c_316 => ?_) (fun c_316 => ?_)
        · replace c_316 := (I_eq (a := a140) (b := 2) ra140 (show rng 2 from ⟨by decide, by decide⟩)).mp c_316
          exact jK_315 () σ _ _ _ ⟨rfl, hH, hS, lv_sub hl [0, 1, 2] rfl⟩
        · replace c_316 := mt (I_eq (a := a140) (b := 2) ra140 (show rng 2 from ⟨by decide, by decide⟩)).mpr c_316
          refine lv_aload_n hx hb dX11_readThing_8 rfl (lv_at hl 0 rfl) ?_
          refine ok.getIc hO h_a (by decide) k13_14 ea140 (fun _ _ he hv kk => th_get (ci := 11) (C := RX11) (T := TX11) (N := 66) hx hb hts inX11 hown hK hH he rfl 14 (by decide) fl0 hv dX11_readThing_9 kk) ?_
          refine lv_iconst (v := I 1) hx hb dX11_readThing_12 (by decide) ?_
          refine lv_icmp_eq (tgt := 43) hx hb dX11_readThing_13 (by decide) (fun c_317 => ?_) (fun c_317 => ?_)
          · replace c_317 := (I_eq (a := a140) (b := 1) ra140 (show rng 1 from ⟨by decide, by decide⟩)).mp c_317
            exact jK_315 () σ _ _ _ ⟨rfl, hH, hS, lv_sub hl [0, 1, 2] rfl⟩
          · replace c_317 := mt (I_eq (a := a140) (b := 1) ra140 (show rng 1 from ⟨by decide, by decide⟩)).mpr c_317
            refine lv_aload_n hx hb dX11_readThing_16 rfl (lv_at hl 0 rfl) ?_
            refine lv_bipush (v := I 45) hx hb dX11_readThing_17 (by decide) ?_
            obtain ⟨_, hc_318⟩ := hO.cell h_a (by decide) (ci := 11) rfl
            refine th_calli (va_runV (As := [.int (I 45)]) (rest := []) ⟨hx, hb, hml, hown, hts⟩ (m_isMarked l G y b0 σ E hO a h_a 45 (show rng 45 from (show rng 45 from ⟨by decide, by decide⟩)) Bf hsr (by omega)) (cwV 1 hts gX11_readThing_X11_isMarked rfl rfl rfl (by decide +kernel) ⟨(by first | (simp only [headSpec]; omega) | omega | (dsimp only; omega)), (by first | (simp only [headSpec]; omega) | omega | (dsimp only; omega))⟩) (th_PV hK hH rfl hc_318) rfl rfl hl.1 rfl (lv_room (Nat.le_of_ble_eq_true rfl)) dX11_readThing_19 ⟨(by first | (simp only [headSpec]; omega) | omega | (dsimp only; omega)), (by first | (simp only [headSpec]; omega) | omega | (dsimp only; omega))⟩) hS (fun z_321 σ_s_320 H locs rz_321 hw_319 hH hS => ?_)
            obtain ⟨e9, bhw_319, hw_319⟩ := hw_319
            replace e9 := e9.symm
            subst e9
            have hw_319 : z_321 = 0 ∨ (z_321 = 1 ∧ gI σ a 19 = 0 ∧ gI σ a 14 = 3 ∧ Bf (gI σ a 17) = 45) := hw_319
            refine lv_if_ne (tgt := 43) hx hb dX11_readThing_22 (by decide) (fun c_322 => ?_) (fun c_322 => ?_)
            · replace c_322 := mt (I_eq (a := z_321) (b := 0) rz_321 (show rng 0 from ⟨by decide, by decide⟩)).mpr c_322
              replace hw_319 := (hw_319.resolve_left c_322).2
              exact jK_315 () σ _ _ _ ⟨rfl, hH, hS, lv_sub hl [0, 1, 2] rfl⟩
            · replace c_322 := (I_eq (a := z_321) (b := 0) rz_321 (show rng 0 from ⟨by decide, by decide⟩)).mp c_322
              clear hw_319
              refine lv_aload_n hx hb dX11_readThing_25 rfl (lv_at hl 0 rfl) ?_
              refine lv_bipush (v := I 91) hx hb dX11_readThing_26 (by decide) ?_
              obtain ⟨_, hc_323⟩ := hO.cell h_a (by decide) (ci := 11) rfl
              refine th_calli (va_runV (As := [.int (I 91)]) (rest := []) ⟨hx, hb, hml, hown, hts⟩ (m_isMarked l G y b0 σ E hO a h_a 91 (show rng 91 from (show rng 91 from ⟨by decide, by decide⟩)) Bf hsr (by omega)) (cwV 1 hts gX11_readThing_X11_isMarked rfl rfl rfl (by decide +kernel) ⟨(by first | (simp only [headSpec]; omega) | omega | (dsimp only; omega)), (by first | (simp only [headSpec]; omega) | omega | (dsimp only; omega))⟩) (th_PV hK hH rfl hc_323) rfl rfl hl.1 rfl (lv_room (Nat.le_of_ble_eq_true rfl)) dX11_readThing_28 ⟨(by first | (simp only [headSpec]; omega) | omega | (dsimp only; omega)), (by first | (simp only [headSpec]; omega) | omega | (dsimp only; omega))⟩) hS (fun z_326 σ_s_325 H locs rz_326 hw_324 hH hS => ?_)
              obtain ⟨e9, bhw_324, hw_324⟩ := hw_324
              replace e9 := e9.symm
              subst e9
              have hw_324 : z_326 = 0 ∨ (z_326 = 1 ∧ gI σ a 19 = 0 ∧ gI σ a 14 = 3 ∧ Bf (gI σ a 17) = 91) := hw_324
              refine lv_if_ne (tgt := 43) hx hb dX11_readThing_31 (by decide) (fun c_327 => ?_) (fun c_327 => ?_)
              · replace c_327 := mt (I_eq (a := z_326) (b := 0) rz_326 (show rng 0 from ⟨by decide, by decide⟩)).mpr c_327
                replace hw_324 := (hw_324.resolve_left c_327).2
                exact jK_315 () σ _ _ _ ⟨rfl, hH, hS, lv_sub hl [0, 1, 2] rfl⟩
              · replace c_327 := (I_eq (a := z_326) (b := 0) rz_326 (show rng 0 from ⟨by decide, by decide⟩)).mp c_327
                clear hw_324
                refine lv_aload_n hx hb dX11_readThing_34 rfl (lv_at hl 0 rfl) ?_
                refine lv_bipush (v := I 123) hx hb dX11_readThing_35 (by decide) ?_
                obtain ⟨_, hc_328⟩ := hO.cell h_a (by decide) (ci := 11) rfl
                refine th_calli (va_runV (As := [.int (I 123)]) (rest := []) ⟨hx, hb, hml, hown, hts⟩ (m_isMarked l G y b0 σ E hO a h_a 123 (show rng 123 from (show rng 123 from ⟨by decide, by decide⟩)) Bf hsr (by omega)) (cwV 1 hts gX11_readThing_X11_isMarked rfl rfl rfl (by decide +kernel) ⟨(by first | (simp only [headSpec]; omega) | omega | (dsimp only; omega)), (by first | (simp only [headSpec]; omega) | omega | (dsimp only; omega))⟩) (th_PV hK hH rfl hc_328) rfl rfl hl.1 rfl (lv_room (Nat.le_of_ble_eq_true rfl)) dX11_readThing_37 ⟨(by first | (simp only [headSpec]; omega) | omega | (dsimp only; omega)), (by first | (simp only [headSpec]; omega) | omega | (dsimp only; omega))⟩) hS (fun z_331 σ_s_330 H locs rz_331 hw_329 hH hS => ?_)
                obtain ⟨e9, bhw_329, hw_329⟩ := hw_329
                replace e9 := e9.symm
                subst e9
                have hw_329 : z_331 = 0 ∨ (z_331 = 1 ∧ gI σ a 19 = 0 ∧ gI σ a 14 = 3 ∧ Bf (gI σ a 17) = 123) := hw_329
                refine lv_if_eq (tgt := 47) hx hb dX11_readThing_40 (by decide) (fun c_332 => ?_) (fun c_332 => ?_)
                · replace c_332 := (I_eq (a := z_331) (b := 0) rz_331 (show rng 0 from ⟨by decide, by decide⟩)).mp c_332
                  clear hw_329
                  refine lv_iconst (v := I 0) hx hb dX11_readThing_47 (by decide) ?_
                  exact jK_38 (0) σ _ _ _ ⟨rfl, hH, hS, lv_sub hl [0, 1, 2] rfl, (show rng 0 from ⟨by decide, by decide⟩), by first | (dsimp only; omega) | omega⟩
                · replace c_332 := mt (I_eq (a := z_331) (b := 0) rz_331 (show rng 0 from ⟨by decide, by decide⟩)).mpr c_332
                  replace hw_329 := (hw_329.resolve_left c_332).2
                  exact jK_315 () σ _ _ _ ⟨rfl, hH, hS, lv_sub hl [0, 1, 2] rfl⟩
