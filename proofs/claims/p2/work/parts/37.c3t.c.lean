set_option maxHeartbeats 4000000 in
set_option maxRecDepth 100000 in
theorem m_readThing (n : Nat) : ∀ (l : Launch) (G : va_G) (y : Nat → ClassId) (b0 : Nat) (σ : th_M) (E : th_E) (hO : ok y E σ) (a : Nat) (h_a : kd E a = 13) (ky : Int) (rky : rng ky) (dp : Int) (rdp : rng dp) (l_dp : 0 ≤ dp) (u_dp : dp ≤ 8) (f2 : Nat → Int32) (ef2 : aF σ (ad E a 2) = f2) (Bf : Int → Int) (hsr : sr E σ a Bf) (hy0 : 0 ≤ gI σ a 17 ∧ gI σ a 17 ≤ gI σ a 13 ∧ gI σ a 13 ≤ gI σ a 11 ∧ gI σ a 11 ≤ 400) (hy1 : gI σ a 19 = 0) (hn : (8 - dp).toNat < n), Met l yX11_readThing wsX11_readThing ({ frames := 4*n+12, cells := 0, slots := 0, locals := (120*n+900) }) (th_P G y b0 σ [.ref a, .int (I ky), .int (I dp)]) (th_Qv G b0 (fun σ1 => ok y E σ1 ∧ fr [13] E σ σ1 ∧ fm [13, 14, 15, 16, 17, 18, 19, 20, 2, 22] E σ σ1 a ∧ (((gI σ a 13 ≤ gI σ1 a 13 ∧ gI σ1 a 13 ≤ gI σ a 11 ∧ 0 ≤ gI σ1 a 17 ∧ gI σ1 a 17 ≤ gI σ1 a 13) ∧ pgo (gI σ1 a 19) (gI σ1 a 14) (gI σ a 13) (gI σ1 a 13)) ∧ gI σ a 22 ≤ gI σ1 a 22 ∧ (¬ gI σ1 a 19 = 0 ∨ rdT f2 (aF σ1 (ad E a 2)) (gI σ a 22) (gI σ1 a 22) ky dp)))) 0 0 (th_A b0) := by
  induction n with
  | zero => intro l G y b0 σ E hO a h_a ky rky dp rdp l_dp u_dp f2 ef2 Bf hsr hy0 hy1 hn; exact absurd hn (Nat.not_lt_zero _)
  | succ n ih =>
    intro l G y b0 σ E hO a h_a ky rky dp rdp l_dp u_dp f2 ef2 Bf hsr hy0 hy1 hn
    refine Met.ofW (cc := cX11_readThing) (maxL := 5) (ret := none) (by decide) rfl ?_
    intro p e s m args below meth c s₁ B hml hv
    obtain ⟨rfl, hH, hK⟩ := hv
    have hx := B.exec
    have hb := B.bytes
    have hr := B.returns
    have hts := atoms_spec (ws := wsX11_readThing) B.pre
    have hown : s.vm.findClass RX11 = some m.cls := findClass_of_methodNamed B.named
    have hlocks := B.notSynchronized
    have h00 : b0 ≤ s.heap.size := hH.1
    have hS : va_S (th_A b0) s.heap s.heap [] := va_S.rf
    have hF : fr [13] E σ σ := fr.rf
    have hM : fm [13, 14, 15, 16, 17, 18, 19, 20, 2, 22] E σ σ a := fm.rf
    have inX11 : ∀ w ∈ wsX110, w ∈ wsX11_readThing := by decide +kernel
    have fl0 := hts (.fieldLink RX11 136 "NestQueryModel" "token" "I") (by decide +kernel)
    have fl1 := hts (.fieldLink RX11 162 "NestQueryModel" "bad" "I") (by decide +kernel)
    have fl2 := hts (.fieldLink RX11 188 "NestQueryModel" "dataMany" "I") (by decide +kernel)
    have fl3 := hts (.fieldLink RX11 13 "NestQueryModel" "data" "[I") (by decide +kernel)
    have hl := lv_entry ([.ref a, .int (I ky), .int (I dp)]) (n := 5) (Nat.le_of_ble_eq_true rfl)
    rw [lg_entry_eq]
    generalize (lg_sl ([.ref a, .int (I ky), .int (I dp)]) ++ List.replicate (5 - (lg_sl ([.ref a, .int (I ky), .int (I dp)])).length) Slot.unset).toArray = ls at hl ⊢
    have hl : lv_has ls 5 [(0, .ref a), (1, .int (I ky)), (2, .int (I dp))] := hl
    obtain ⟨a110, ea110, ra110, la110, ua110⟩ := hO.gi h_a (by decide) k13_11
    obtain ⟨a130, ea130, ra130, la130, ua130⟩ := hO.gi h_a (by decide) k13_13
    obtain ⟨a140, ea140, ra140, la140, ua140⟩ := hO.gi h_a (by decide) k13_14
    obtain ⟨a170, ea170, ra170, la170, ua170⟩ := hO.gi h_a (by decide) k13_17
    obtain ⟨a190, ea190, ra190, la190, ua190⟩ := hO.gi h_a (by decide) k13_19
    obtain ⟨a220, ea220, ra220, la220, ua220⟩ := hO.gi h_a (by decide) k13_22
    refine lv_aload_n hx hb dX11_readThing_0 rfl (lv_at hl 0 rfl) ?_
    refine ok.getIc hO h_a (by decide) k13_14 ea140 (fun _ _ he hv kk => th_get (ci := 11) (C := RX11) (T := TX11) (N := 66) hx hb hts inX11 hown hK hH he rfl 14 (by decide) fl0 hv dX11_readThing_1 kk) ?_
    refine lv_iconst (v := I 2) hx hb dX11_readThing_4 (by decide) ?_
    refine th_join (α := Int) (J := 48) (stk := fun x9 => [.int (I x9)]) (fun x9 σ9 H9 l9 ls9 => σ9 = σ ∧ th_H G b0 σ9 H9 ∧ va_S (th_A b0) s.heap H9 l9 ∧ lv_has ls9 5 [(0, .ref a), (1, .int (I ky)), (2, .int (I dp))] ∧ rng x9 ∧ (x9 = 0 ∨ x9 = 1)) ?_ (fun jK_38 => ?_)
    · intro x9 σ_K_38 H locs ls hI9
      obtain ⟨w0q37, ex9⟩ : ∃ z, z = x9 := ⟨_, rfl⟩
      subst ex9
      obtain ⟨eK_38, hH, hS, hl, rw0q37, K_38_0⟩ := hI9
      replace eK_38 := eK_38.symm
      subst eK_38
      have hl : lv_has ls 5 [(0, .ref a), (1, .int (I ky)), (2, .int (I dp))] := hl
      have rw0q37 : rng w0q37 := rw0q37
      have K_38_0 : w0q37 = 0 ∨ w0q37 = 1 := K_38_0
      refine lv_istore_n (lv' := [(3, .int (I w0q37)), (0, .ref a), (1, .int (I ky)), (2, .int (I dp))]) hx hb dX11_readThing_48 rfl hl (by decide) rfl (fun ls hl => ?_)
      refine lv_iload_n hx hb dX11_readThing_49 rfl (lv_at hl 0 rfl) ?_
      refine th_join (α := Unit) (J := 58) (stk := fun x9 => []) (fun x9 σ9 H9 l9 ls9 => ok y E σ9 ∧ fr [13] E σ σ9 ∧ fm [13, 14, 15, 16, 17, 18, 19, 20, 2, 22] E σ σ9 a ∧ sr E σ9 a Bf ∧ th_H G b0 σ9 H9 ∧ va_S (th_A b0) s.heap H9 l9 ∧ lv_has ls9 5 [(0, .ref a), (1, .int (I ky)), (2, .int (I dp))] ∧ (gI σ9 a 11 = a110) ∧ (gI σ9 a 13 = a130) ∧ (gI σ9 a 14 = a140) ∧ (gI σ9 a 17 = a170) ∧ (gI σ9 a 22 = a220) ∧ (aF σ9 (ad E a 2) = f2)) ?_ (fun jK_50 => ?_)
      · intro x9 σ_K_50 H locs ls hI9
        obtain ⟨hO, hF, hM, hsr, hH, hS, hl, K_50_0, K_50_1, K_50_2, K_50_3, K_50_4, K_50_5⟩ := hI9
        have hl : lv_has ls 5 [(0, .ref a), (1, .int (I ky)), (2, .int (I dp))] := hl
        have K_50_0 : gI σ_K_50 a 11 = a110 := K_50_0
        have K_50_1 : gI σ_K_50 a 13 = a130 := K_50_1
        have K_50_2 : gI σ_K_50 a 14 = a140 := K_50_2
        have K_50_3 : gI σ_K_50 a 17 = a170 := K_50_3
        have K_50_4 : gI σ_K_50 a 22 = a220 := K_50_4
        have K_50_5 : aF σ_K_50 (ad E a 2) = f2 := K_50_5
        refine lv_aload_n hx hb dX11_readThing_58 rfl (lv_at hl 0 rfl) ?_
        refine ok.getI hO h_a (by decide) k13_19 (fun _ _ he hv kk => th_get (ci := 11) (C := RX11) (T := TX11) (N := 66) hx hb hts inX11 hown hK hH he rfl 19 (by decide) fl1 hv dX11_readThing_59 kk) (fun z_51 e_52 rz_51 lz_51 uz_51 => ?_)
        refine th_join (α := Unit) (J := 85) (stk := fun x9 => []) (fun x9 σ9 H9 l9 ls9 => ok y E σ9 ∧ fr [13] E σ σ9 ∧ fm [13, 14, 15, 16, 17, 18, 19, 20, 2, 22] E σ σ9 a ∧ sr E σ9 a Bf ∧ th_H G b0 σ9 H9 ∧ va_S (th_A b0) s.heap H9 l9 ∧ lv_has ls9 5 [(0, .ref a), (1, .int (I ky)), (2, .int (I dp))] ∧ (¬ gI σ9 a 19 = 0 ∨ (a220 < 60 ∧ dp ≤ 7)) ∧ (gI σ9 a 11 = a110) ∧ (gI σ9 a 13 = a130) ∧ (gI σ9 a 14 = a140) ∧ (gI σ9 a 17 = a170) ∧ (gI σ9 a 22 = a220) ∧ (aF σ9 (ad E a 2) = f2)) ?_ (fun jK_70 => ?_)
        · intro x9 σ_K_70 H locs ls hI9
          obtain ⟨hO, hF, hM, hsr, hH, hS, hl, K_70_0, K_70_1, K_70_2, K_70_3, K_70_4, K_70_5, K_70_6⟩ := hI9
          have hl : lv_has ls 5 [(0, .ref a), (1, .int (I ky)), (2, .int (I dp))] := hl
          have K_70_0 : ¬ gI σ_K_70 a 19 = 0 ∨ (a220 < 60 ∧ dp ≤ 7) := K_70_0
          have K_70_1 : gI σ_K_70 a 11 = a110 := K_70_1
          have K_70_2 : gI σ_K_70 a 13 = a130 := K_70_2
          have K_70_3 : gI σ_K_70 a 14 = a140 := K_70_3
          have K_70_4 : gI σ_K_70 a 17 = a170 := K_70_4
          have K_70_5 : gI σ_K_70 a 22 = a220 := K_70_5
          have K_70_6 : aF σ_K_70 (ad E a 2) = f2 := K_70_6
          refine lv_aload_n hx hb dX11_readThing_85 rfl (lv_at hl 0 rfl) ?_
          refine ok.getI hO h_a (by decide) k13_19 (fun _ _ he hv kk => th_get (ci := 11) (C := RX11) (T := TX11) (N := 66) hx hb hts inX11 hown hK hH he rfl 19 (by decide) fl1 hv dX11_readThing_86 kk) (fun z_71 e_72 rz_71 lz_71 uz_71 => ?_)
          refine lv_if_eq (tgt := 93) hx hb dX11_readThing_89 (by decide) (fun c_73 => ?_) (fun c_73 => ?_)
          · replace c_73 := (I_eq (a := z_71) (b := 0) rz_71 (show rng 0 from ⟨by decide, by decide⟩)).mp c_73
            refine lv_iconst (v := I 4) hx hb dX11_readThing_93 (by decide) ?_
            refine lv_aload_n hx hb dX11_readThing_94 rfl (lv_at hl 0 rfl) ?_
            refine ok.getIc hO h_a (by decide) k13_22 K_70_5 (fun _ _ he hv kk => th_get (ci := 11) (C := RX11) (T := TX11) (N := 66) hx hb hts inX11 hown hK hH he rfl 22 (by decide) fl2 hv dX11_readThing_95 kk) ?_
            refine lv_imul hx hb dX11_readThing_98 ?_
            refine nq_top (I_mul _ _) ?_
            refine lv_istore (lv' := [(4, .int (I (4 * a220))), (0, .ref a), (1, .int (I ky)), (2, .int (I dp))]) hx hb dX11_readThing_99 hl (by decide) rfl (fun ls hl => ?_)
            refine lv_aload_n hx hb dX11_readThing_101 rfl (lv_at hl 1 rfl) ?_
            refine lv_dup hx hb dX11_readThing_102 rfl ?_
            refine ok.getIc hO h_a (by decide) k13_22 K_70_5 (fun _ _ he hv kk => th_get (ci := 11) (C := RX11) (T := TX11) (N := 66) hx hb hts inX11 hown hK hH he rfl 22 (by decide) fl2 hv dX11_readThing_103 kk) ?_
            refine lv_iconst (v := I 1) hx hb dX11_readThing_106 (by decide) ?_
            refine lv_iadd hx hb dX11_readThing_107 ?_
            refine nq_top (I_add _ _) ?_
            refine ok.putJ hO h_a k13_22 ⟨by omega, by omega⟩ (by omega) (by omega) (fun _ he hl9 kk => th_put (ci := 11) (v := .int (I (a220 + 1))) (ty := .int) (C := RX11) (T := TX11) (N := 66) hx hb hts inX11 tyX11 tyX11_ok nmX11 hown hK hH hS h00 he rfl 22 (by decide) fl2 rfl (by decide +kernel) rfl rfl hl9 dX11_readThing_108 kk) (fun σ_s_74 H locs hO hF9 hM9 hg9 ha9 hH hS => ?_)
            replace hM := hM.tu hM9 (by decide)
            replace hF := hF.tu hF9 (by decide)
            have e_75 : gI σ_s_74 a 11 = a110 := (hM9.i (by decide)).trans K_70_1
            have e_76 : gI σ_s_74 a 13 = a130 := (hM9.i (by decide)).trans K_70_2
            have e_77 : gI σ_s_74 a 14 = a140 := (hM9.i (by decide)).trans K_70_3
            have e_78 : gI σ_s_74 a 17 = a170 := (hM9.i (by decide)).trans K_70_4
            have e_79 : aF σ_s_74 (ad E a 2) = f2 := (hM9.a (by decide) (by decide)).trans K_70_6
            have e_80 : gI σ_s_74 a 19 = z_71 := (hM9.i (by decide)).trans e_72
            replace hsr := hsr.mv hM9 (by decide) (by decide) (by decide) (by decide) (by decide)
            have e_81 := hg9
            refine lv_aload_n hx hb dX11_readThing_111 rfl (lv_at hl 1 rfl) ?_
            refine ok.getR hO h_a (by decide) k13_2 (by decide) (fun _ _ he hv kk => th_get (ci := 11) (C := RX11) (T := TX11) (N := 66) hx hb hts inX11 hown hK hH he rfl 2 (by decide) fl3 hv dX11_readThing_112 kk) ?_
            refine lv_iload hx hb dX11_readThing_115 (lv_at hl 0 rfl) ?_
            refine lv_iconst (v := I 2) hx hb dX11_readThing_117 (by decide) ?_
            refine lv_iadd hx hb dX11_readThing_118 ?_
            refine nq_top (I_add _ _) ?_
            refine lv_iload_n hx hb dX11_readThing_119 rfl (lv_at hl 2 rfl) ?_
            refine m_iast hx hb hK hH hS h00 hO h_a k13_2 isA1 (by decide) e_79 ⟨by omega, by omega⟩ (by omega) (by omega) rky el1 dX11_readThing_120 (fun σ_s_82 H locs hO hF9 hM9 ha9 hH hS => ?_)
            replace hM := hM.tu hM9 (by decide)
            replace hF := hF.tu hF9 (by decide)
            have e_83 : gI σ_s_82 a 11 = a110 := (hM9.i (by decide)).trans e_75
            have e_84 : gI σ_s_82 a 13 = a130 := (hM9.i (by decide)).trans e_76
            have e_85 : gI σ_s_82 a 14 = a140 := (hM9.i (by decide)).trans e_77
            have e_86 : gI σ_s_82 a 17 = a170 := (hM9.i (by decide)).trans e_78
            have e_87 : gI σ_s_82 a 19 = z_71 := (hM9.i (by decide)).trans e_80
            have e_88 : gI σ_s_82 a 22 = a220 + 1 := (hM9.i (by decide)).trans e_81
            replace hsr := hsr.mv hM9 (by decide) (by decide) (by decide) (by decide) (by decide)
            obtain ⟨g_89, dg_89⟩ : ∃ g9, g9 = upd f2 (4 * a220 + 2).toNat (I ky) := ⟨_, rfl⟩
            rw [← dg_89] at ha9
            have ef_90 := ha9
            refine lv_aload_n hx hb dX11_readThing_121 rfl (lv_at hl 1 rfl) ?_
            refine ok.getR hO h_a (by decide) k13_2 (by decide) (fun _ _ he hv kk => th_get (ci := 11) (C := RX11) (T := TX11) (N := 66) hx hb hts inX11 hown hK hH he rfl 2 (by decide) fl3 hv dX11_readThing_122 kk) ?_
            refine lv_iload hx hb dX11_readThing_125 (lv_at hl 0 rfl) ?_
            refine lv_iconst (v := I 1) hx hb dX11_readThing_127 (by decide) ?_
            refine lv_iadd hx hb dX11_readThing_128 ?_
            refine nq_top (I_add _ _) ?_
            refine lv_iconst (v := I 0) hx hb dX11_readThing_129 (by decide) ?_
            refine m_iast hx hb hK hH hS h00 hO h_a k13_2 isA1 (by decide) ef_90 ⟨by omega, by omega⟩ (by omega) (by omega) (show rng 0 from ⟨by decide, by decide⟩) el1 dX11_readThing_130 (fun σ_s_91 H locs hO hF9 hM9 ha9 hH hS => ?_)
            replace hM := hM.tu hM9 (by decide)
            replace hF := hF.tu hF9 (by decide)
            have e_92 : gI σ_s_91 a 11 = a110 := (hM9.i (by decide)).trans e_83
            have e_93 : gI σ_s_91 a 13 = a130 := (hM9.i (by decide)).trans e_84
            have e_94 : gI σ_s_91 a 14 = a140 := (hM9.i (by decide)).trans e_85
            have e_95 : gI σ_s_91 a 17 = a170 := (hM9.i (by decide)).trans e_86
            have e_96 : gI σ_s_91 a 19 = z_71 := (hM9.i (by decide)).trans e_87
            have e_97 : gI σ_s_91 a 22 = a220 + 1 := (hM9.i (by decide)).trans e_88
            replace hsr := hsr.mv hM9 (by decide) (by decide) (by decide) (by decide) (by decide)
            obtain ⟨g_98, dg_98⟩ : ∃ g9, g9 = upd g_89 (4 * a220 + 1).toNat (I 0) := ⟨_, rfl⟩
            rw [← dg_98] at ha9
            have ef_99 := ha9
            refine lv_aload_n hx hb dX11_readThing_131 rfl (lv_at hl 1 rfl) ?_
            refine ok.getIc hO h_a (by decide) k13_14 e_94 (fun _ _ he hv kk => th_get (ci := 11) (C := RX11) (T := TX11) (N := 66) hx hb hts inX11 hown hK hH he rfl 14 (by decide) fl0 hv dX11_readThing_132 kk) ?_
            refine lv_iconst (v := I 1) hx hb dX11_readThing_135 (by decide) ?_
            refine lv_icmp_ne (tgt := 163) hx hb dX11_readThing_136 (by decide) (fun c_100 => ?_) (fun c_100 => ?_)
            · replace c_100 := mt (I_eq (a := a140) (b := 1) ra140 (show rng 1 from ⟨by decide, by decide⟩)).mpr c_100
              refine lv_aload_n hx hb dX11_readThing_163 rfl (lv_at hl 1 rfl) ?_
              refine lv_bipush (v := I 91) hx hb dX11_readThing_164 (by decide) ?_
              obtain ⟨_, hc_101⟩ := hO.cell h_a (by decide) (ci := 11) rfl
              refine th_calli (va_runV (As := [.int (I 91)]) (rest := []) ⟨hx, hb, hml, hown, hts⟩ (m_isMarked l G y b0 σ_s_91 E hO a h_a 91 (show rng 91 from (show rng 91 from ⟨by decide, by decide⟩)) Bf hsr (by omega)) (cwV 1 hts gX11_readThing_X11_isMarked rfl rfl rfl (by decide +kernel) ⟨(by first | (simp only [headSpec]; omega) | omega | (dsimp only; omega)), (by first | (simp only [headSpec]; omega) | omega | (dsimp only; omega))⟩) (th_PV hK hH rfl hc_101) rfl rfl hl.1 rfl (lv_room (Nat.le_of_ble_eq_true rfl)) dX11_readThing_166 ⟨(by first | (simp only [headSpec]; omega) | omega | (dsimp only; omega)), (by first | (simp only [headSpec]; omega) | omega | (dsimp only; omega))⟩) hS (fun z_104 σ_s_103 H locs rz_104 hw_102 hH hS => ?_)
              obtain ⟨e9, bhw_102, hw_102⟩ := hw_102
              replace e9 := e9.symm
              subst e9
              have hw_102 : z_104 = 0 ∨ (z_104 = 1 ∧ gI σ_s_91 a 19 = 0 ∧ gI σ_s_91 a 14 = 3 ∧ Bf (gI σ_s_91 a 17) = 91) := hw_102
              refine lv_if_eq (tgt := 192) hx hb dX11_readThing_169 (by decide) (fun c_105 => ?_) (fun c_105 => ?_)
              · replace c_105 := (I_eq (a := z_104) (b := 0) rz_104 (show rng 0 from ⟨by decide, by decide⟩)).mp c_105
                clear hw_102
                refine lv_aload_n hx hb dX11_readThing_192 rfl (lv_at hl 1 rfl) ?_
                refine lv_bipush (v := I 123) hx hb dX11_readThing_193 (by decide) ?_
                obtain ⟨_, hc_106⟩ := hO.cell h_a (by decide) (ci := 11) rfl
                refine th_calli (va_runV (As := [.int (I 123)]) (rest := []) ⟨hx, hb, hml, hown, hts⟩ (m_isMarked l G y b0 σ_s_91 E hO a h_a 123 (show rng 123 from (show rng 123 from ⟨by decide, by decide⟩)) Bf hsr (by omega)) (cwV 1 hts gX11_readThing_X11_isMarked rfl rfl rfl (by decide +kernel) ⟨(by first | (simp only [headSpec]; omega) | omega | (dsimp only; omega)), (by first | (simp only [headSpec]; omega) | omega | (dsimp only; omega))⟩) (th_PV hK hH rfl hc_106) rfl rfl hl.1 rfl (lv_room (Nat.le_of_ble_eq_true rfl)) dX11_readThing_195 ⟨(by first | (simp only [headSpec]; omega) | omega | (dsimp only; omega)), (by first | (simp only [headSpec]; omega) | omega | (dsimp only; omega))⟩) hS (fun z_109 σ_s_108 H locs rz_109 hw_107 hH hS => ?_)
                obtain ⟨e9, bhw_107, hw_107⟩ := hw_107
                replace e9 := e9.symm
                subst e9
                have hw_107 : z_109 = 0 ∨ (z_109 = 1 ∧ gI σ_s_91 a 19 = 0 ∧ gI σ_s_91 a 14 = 3 ∧ Bf (gI σ_s_91 a 17) = 123) := hw_107
                refine lv_if_eq (tgt := 221) hx hb dX11_readThing_198 (by decide) (fun c_110 => ?_) (fun c_110 => ?_)
                · replace c_110 := (I_eq (a := z_109) (b := 0) rz_109 (show rng 0 from ⟨by decide, by decide⟩)).mp c_110
                  clear hw_107
                  refine lv_aload_n hx hb dX11_readThing_221 rfl (lv_at hl 1 rfl) ?_
                  refine ok.getR hO h_a (by decide) k13_2 (by decide) (fun _ _ he hv kk => th_get (ci := 11) (C := RX11) (T := TX11) (N := 66) hx hb hts inX11 hown hK hH he rfl 2 (by decide) fl3 hv dX11_readThing_222 kk) ?_
                  refine lv_iload hx hb dX11_readThing_225 (lv_at hl 0 rfl) ?_
                  refine lv_iconst (v := I 0) hx hb dX11_readThing_227 (by decide) ?_
                  refine m_iast hx hb hK hH hS h00 hO h_a k13_2 isA1 (by decide) ef_99 ⟨by omega, by omega⟩ (by omega) (by omega) (show rng 0 from ⟨by decide, by decide⟩) el1 dX11_readThing_228 (fun σ_s_111 H locs hO hF9 hM9 ha9 hH hS => ?_)
                  replace hM := hM.tu hM9 (by decide)
                  replace hF := hF.tu hF9 (by decide)
                  have e_112 : gI σ_s_111 a 11 = a110 := (hM9.i (by decide)).trans e_92
                  have e_113 : gI σ_s_111 a 13 = a130 := (hM9.i (by decide)).trans e_93
                  have e_114 : gI σ_s_111 a 14 = a140 := (hM9.i (by decide)).trans e_94
                  have e_115 : gI σ_s_111 a 17 = a170 := (hM9.i (by decide)).trans e_95
                  have e_116 : gI σ_s_111 a 19 = z_71 := (hM9.i (by decide)).trans e_96
                  have e_117 : gI σ_s_111 a 22 = a220 + 1 := (hM9.i (by decide)).trans e_97
                  replace hsr := hsr.mv hM9 (by decide) (by decide) (by decide) (by decide) (by decide)
                  obtain ⟨g_118, dg_118⟩ : ∃ g9, g9 = upd g_98 (4 * a220).toNat (I 0) := ⟨_, rfl⟩
                  rw [← dg_118] at ha9
                  have ef_119 := ha9
                  refine lv_aload_n hx hb dX11_readThing_229 rfl (lv_at hl 1 rfl) ?_
                  refine ok.getR hO h_a (by decide) k13_2 (by decide) (fun _ _ he hv kk => th_get (ci := 11) (C := RX11) (T := TX11) (N := 66) hx hb hts inX11 hown hK hH he rfl 2 (by decide) fl3 hv dX11_readThing_230 kk) ?_
                  refine lv_iload hx hb dX11_readThing_233 (lv_at hl 0 rfl) ?_
                  refine lv_iconst (v := I 1) hx hb dX11_readThing_235 (by decide) ?_
                  refine lv_iadd hx hb dX11_readThing_236 ?_
                  refine nq_top (I_add _ _) ?_
                  refine lv_aload_n hx hb dX11_readThing_237 rfl (lv_at hl 1 rfl) ?_
                  obtain ⟨_, hc_120⟩ := hO.cell h_a (by decide) (ci := 11) rfl
                  refine th_calli (va_runV (As := []) (rest := [.int (I (4 * a220 + 1)), .ref (ad E a 2)]) ⟨hx, hb, hml, hown, hts⟩ (m_readNumber l G y b0 σ_s_111 E hO a h_a Bf hsr (by omega)) (cwV 0 hts gX11_readThing_X11_readNumber rfl rfl rfl (by decide +kernel) ⟨(by first | (simp only [headSpec]; omega) | omega | (dsimp only; omega)), (by first | (simp only [headSpec]; omega) | omega | (dsimp only; omega))⟩) (th_PV hK hH rfl hc_120) rfl rfl hl.1 rfl (lv_room (Nat.le_of_ble_eq_true rfl)) dX11_readThing_238 ⟨(by first | (simp only [headSpec]; omega) | omega | (dsimp only; omega)), (by first | (simp only [headSpec]; omega) | omega | (dsimp only; omega))⟩) hS (fun z_123 σ_s_122 H locs rz_123 hw_121 hH hS => ?_)
                  obtain ⟨hO9, hF9, hM9, hw_121⟩ := hw_121
                  replace hM := hM.tu hM9 (by decide)
                  replace hF := hF.tu hF9 (by decide)
                  have e_124 : gI σ_s_122 a 11 = a110 := (hM9.i (by decide)).trans e_112
                  have e_125 : gI σ_s_122 a 22 = a220 + 1 := (hM9.i (by decide)).trans e_117
                  have e_126 : aF σ_s_122 (ad E a 2) = g_118 := (hM9.a (by decide) (by decide)).trans ef_119
                  replace hsr := hsr.mv hM9 (by decide) (by decide) (by decide) (by decide) (by decide)
                  replace hO := hO9
                  have hw_121 : (gI σ_s_111 a 13 ≤ gI σ_s_122 a 13 ∧ gI σ_s_122 a 13 ≤ gI σ_s_111 a 11 ∧ 0 ≤ gI σ_s_122 a 17 ∧ gI σ_s_122 a 17 ≤ gI σ_s_122 a 13) ∧ pgo (gI σ_s_122 a 19) (gI σ_s_122 a 14) (gI σ_s_111 a 13) (gI σ_s_122 a 13) ∧ bdo (gI σ_s_111 a 19) (gI σ_s_122 a 19) := hw_121
                  simp only [pgo, bdo] at hw_121
                  refine m_iast hx hb hK hH hS h00 hO h_a k13_2 isA1 (by decide) e_126 ⟨by omega, by omega⟩ (by omega) (by omega) rz_123 el1 dX11_readThing_241 (fun σ_s_127 H locs hO hF9 hM9 ha9 hH hS => ?_)
                  replace hM := hM.tu hM9 (by decide)
                  replace hF := hF.tu hF9 (by decide)
                  have e_128 : gI σ_s_127 a 11 = a110 := (hM9.i (by decide)).trans e_124
                  have e_129 : gI σ_s_127 a 22 = a220 + 1 := (hM9.i (by decide)).trans e_125
                  replace hsr := hsr.mv hM9 (by decide) (by decide) (by decide) (by decide) (by decide)
                  obtain ⟨g_130, dg_130⟩ : ∃ g9, g9 = upd g_118 (4 * a220 + 1).toNat (I z_123) := ⟨_, rfl⟩
                  rw [← dg_130] at ha9
                  have ef_131 := ha9
                  refine lv_aload_n hx hb dX11_readThing_242 rfl (lv_at hl 1 rfl) ?_
                  refine ok.getR hO h_a (by decide) k13_2 (by decide) (fun _ _ he hv kk => th_get (ci := 11) (C := RX11) (T := TX11) (N := 66) hx hb hts inX11 hown hK hH he rfl 2 (by decide) fl3 hv dX11_readThing_243 kk) ?_
                  refine lv_iload hx hb dX11_readThing_246 (lv_at hl 0 rfl) ?_
                  refine lv_iconst (v := I 3) hx hb dX11_readThing_248 (by decide) ?_
                  refine lv_iadd hx hb dX11_readThing_249 ?_
                  refine nq_top (I_add _ _) ?_
                  refine lv_aload_n hx hb dX11_readThing_250 rfl (lv_at hl 1 rfl) ?_
                  refine ok.getIc hO h_a (by decide) k13_22 e_129 (fun _ _ he hv kk => th_get (ci := 11) (C := RX11) (T := TX11) (N := 66) hx hb hts inX11 hown hK hH he rfl 22 (by decide) fl2 hv dX11_readThing_251 kk) ?_
                  refine lv_iload hx hb dX11_readThing_254 (lv_at hl 0 rfl) ?_
                  refine lv_iconst (v := I 4) hx hb dX11_readThing_256 (by decide) ?_
                  refine lv_idiv hx hb dX11_readThing_257 (by decide) ?_
                  refine th_div (n := 4) ⟨by omega, by omega⟩ (by omega) (by decide) (fun z_132 rz_132 hz_132 => ?_)
                  refine lv_isub hx hb dX11_readThing_258 ?_
                  refine th_subo (fun z_133 rz_133 hz_133 => ?_)
                  refine m_iast hx hb hK hH hS h00 hO h_a k13_2 isA1 (by decide) ef_131 ⟨by omega, by omega⟩ (by omega) (by omega) rz_133 el1 dX11_readThing_259 (fun σ_s_134 H locs hO hF9 hM9 ha9 hH hS => ?_)
                  replace hM := hM.tu hM9 (by decide)
                  replace hF := hF.tu hF9 (by decide)
                  have e_135 : gI σ_s_134 a 11 = a110 := (hM9.i (by decide)).trans e_128
                  have e_136 : gI σ_s_134 a 22 = a220 + 1 := (hM9.i (by decide)).trans e_129
                  replace hsr := hsr.mv hM9 (by decide) (by decide) (by decide) (by decide) (by decide)
                  obtain ⟨g_137, dg_137⟩ : ∃ g9, g9 = upd g_130 (4 * a220 + 3).toNat (I z_133) := ⟨_, rfl⟩
                  rw [← dg_137] at ha9
                  have ef_138 := ha9
                  exact th_vret hx hb hr hlocks hH hS ⟨hO, hF, hM, ⟨⟨by omega, pgo.of (by omega)⟩, by omega, by rw [show gI σ a 22 = a220 by omega, show gI σ_s_134 a 22 = a220 + 1 by omega, show aF σ_s_134 (ad E a 2) = g_137 from ef_138]; exact Or.inr ((rdF.zero (f := g_130) same.rf).node (by omega) dg_137 (by omega) ⟨by omega, by omega⟩ (by omega) (((((same.rf).up1 dg_89 (by omega)).up1 dg_98 (by omega)).up1 dg_118 (by omega)).up1 dg_130 (by omega)) ((mY_up dg_130 (by omega) (by omega)).trans ((mY_up dg_118 (by omega) (by omega)).trans ((mY_up dg_98 (by omega) (by omega)).trans (mY_at dg_89 rky)))))⟩⟩ dX11_readThing_260
                · replace c_110 := mt (I_eq (a := z_109) (b := 0) rz_109 (show rng 0 from ⟨by decide, by decide⟩)).mpr c_110
                  replace hw_107 := (hw_107.resolve_left c_110).2
                  refine lv_aload_n hx hb dX11_readThing_201 rfl (lv_at hl 1 rfl) ?_
                  refine ok.getR hO h_a (by decide) k13_2 (by decide) (fun _ _ he hv kk => th_get (ci := 11) (C := RX11) (T := TX11) (N := 66) hx hb hts inX11 hown hK hH he rfl 2 (by decide) fl3 hv dX11_readThing_202 kk) ?_
                  refine lv_iload hx hb dX11_readThing_205 (lv_at hl 0 rfl) ?_
                  refine lv_iconst (v := I 3) hx hb dX11_readThing_207 (by decide) ?_
                  refine m_iast hx hb hK hH hS h00 hO h_a k13_2 isA1 (by decide) ef_99 ⟨by omega, by omega⟩ (by omega) (by omega) (show rng 3 from ⟨by decide, by decide⟩) el1 dX11_readThing_208 (fun σ_s_139 H locs hO hF9 hM9 ha9 hH hS => ?_)
                  replace hM := hM.tu hM9 (by decide)
                  replace hF := hF.tu hF9 (by decide)
                  have e_140 : gI σ_s_139 a 11 = a110 := (hM9.i (by decide)).trans e_92
                  have e_141 : gI σ_s_139 a 13 = a130 := (hM9.i (by decide)).trans e_93
                  have e_142 : gI σ_s_139 a 14 = a140 := (hM9.i (by decide)).trans e_94
                  have e_143 : gI σ_s_139 a 17 = a170 := (hM9.i (by decide)).trans e_95
                  have e_144 : gI σ_s_139 a 19 = z_71 := (hM9.i (by decide)).trans e_96
                  have e_145 : gI σ_s_139 a 22 = a220 + 1 := (hM9.i (by decide)).trans e_97
                  replace hsr := hsr.mv hM9 (by decide) (by decide) (by decide) (by decide) (by decide)
                  obtain ⟨g_146, dg_146⟩ : ∃ g9, g9 = upd g_98 (4 * a220).toNat (I 3) := ⟨_, rfl⟩
                  rw [← dg_146] at ha9
                  have ef_147 := ha9
                  refine lv_aload_n hx hb dX11_readThing_209 rfl (lv_at hl 1 rfl) ?_
                  refine lv_iload hx hb dX11_readThing_210 (lv_at hl 0 rfl) ?_
                  refine lv_iload_n hx hb dX11_readThing_212 rfl (lv_at hl 3 rfl) ?_
                  refine lv_bipush (v := I 125) hx hb dX11_readThing_213 (by decide) ?_
                  obtain ⟨_, hc_148⟩ := hO.cell h_a (by decide) (ci := 11) rfl
                  refine th_callv (va_runV (As := [.int (I (4 * a220)), .int (I dp), .int (I 125)]) (rest := []) ⟨hx, hb, hml, hown, hts⟩ (m_readMany n ih l G y b0 σ_s_139 E hO a h_a (4 * a220) (show rng (4 * a220) from ⟨by omega, by omega⟩) (by omega) (by omega) dp (show rng dp from rdp) (by omega) (by omega) 125 (show rng 125 from (show rng 125 from ⟨by decide, by decide⟩)) g_146 ef_147 Bf hsr (by omega) (by omega) (by omega) (by omega)) (cwV 3 hts gX11_readThing_X11_readMany rfl rfl rfl (by decide +kernel) ⟨(by first | (simp only [headSpec]; omega) | omega | (dsimp only; omega)), (by first | (simp only [headSpec]; omega) | omega | (dsimp only; omega))⟩) (th_PV hK hH rfl hc_148) rfl rfl hl.1 rfl (lv_room (Nat.le_of_ble_eq_true rfl)) dX11_readThing_215 ⟨(by first | (simp only [headSpec]; omega) | omega | (dsimp only; omega)), (by first | (simp only [headSpec]; omega) | omega | (dsimp only; omega))⟩) hS (fun σ_s_150 H locs hw_149 hH hS => ?_)
                  obtain ⟨hO9, hF9, hM9, hw_149⟩ := hw_149
                  replace hM := hM.tu hM9 (by decide)
                  replace hF := hF.tu hF9 (by decide)
                  have e_151 : gI σ_s_150 a 11 = a110 := (hM9.i (by decide)).trans e_140
                  replace hsr := hsr.mv hM9 (by decide) (by decide) (by decide) (by decide) (by decide)
                  replace hO := hO9
                  generalize ef_153 : aF σ_s_150 (ad E a 2) = g_152 at hw_149
                  have hw_149 : ((gI σ_s_139 a 13 ≤ gI σ_s_150 a 13 ∧ gI σ_s_150 a 13 ≤ gI σ_s_139 a 11 ∧ 0 ≤ gI σ_s_150 a 17 ∧ gI σ_s_150 a 17 ≤ gI σ_s_150 a 13) ∧ pgo (gI σ_s_150 a 19) (gI σ_s_150 a 14) (gI σ_s_139 a 13) (gI σ_s_150 a 13)) ∧ gI σ_s_139 a 22 ≤ gI σ_s_150 a 22 ∧ (¬ gI σ_s_150 a 19 = 0 ∨ rdF g_146 g_152 ((4 * a220) / 4) (gI σ_s_150 a 22) dp) := hw_149
                  simp only [pgo, bdo] at hw_149
                  refine lv_goto (tgt := 242) hx hb dX11_readThing_218 (by decide) ?_
                  refine lv_aload_n hx hb dX11_readThing_242 rfl (lv_at hl 1 rfl) ?_
                  refine ok.getR hO h_a (by decide) k13_2 (by decide) (fun _ _ he hv kk => th_get (ci := 11) (C := RX11) (T := TX11) (N := 66) hx hb hts inX11 hown hK hH he rfl 2 (by decide) fl3 hv dX11_readThing_243 kk) ?_
                  refine lv_iload hx hb dX11_readThing_246 (lv_at hl 0 rfl) ?_
                  refine lv_iconst (v := I 3) hx hb dX11_readThing_248 (by decide) ?_
                  refine lv_iadd hx hb dX11_readThing_249 ?_
                  refine nq_top (I_add _ _) ?_
                  refine lv_aload_n hx hb dX11_readThing_250 rfl (lv_at hl 1 rfl) ?_
                  refine ok.getI hO h_a (by decide) k13_22 (fun _ _ he hv kk => th_get (ci := 11) (C := RX11) (T := TX11) (N := 66) hx hb hts inX11 hown hK hH he rfl 22 (by decide) fl2 hv dX11_readThing_251 kk) (fun z_154 e_155 rz_154 lz_154 uz_154 => ?_)
                  refine lv_iload hx hb dX11_readThing_254 (lv_at hl 0 rfl) ?_
                  refine lv_iconst (v := I 4) hx hb dX11_readThing_256 (by decide) ?_
                  refine lv_idiv hx hb dX11_readThing_257 (by decide) ?_
                  refine th_div (n := 4) ⟨by omega, by omega⟩ (by omega) (by decide) (fun z_156 rz_156 hz_156 => ?_)
                  refine lv_isub hx hb dX11_readThing_258 ?_
                  refine th_subo (fun z_157 rz_157 hz_157 => ?_)
                  refine m_iast hx hb hK hH hS h00 hO h_a k13_2 isA1 (by decide) ef_153 ⟨by omega, by omega⟩ (by omega) (by omega) rz_157 el1 dX11_readThing_259 (fun σ_s_158 H locs hO hF9 hM9 ha9 hH hS => ?_)
                  replace hM := hM.tu hM9 (by decide)
                  replace hF := hF.tu hF9 (by decide)
                  have e_159 : gI σ_s_158 a 11 = a110 := (hM9.i (by decide)).trans e_151
                  have e_160 : gI σ_s_158 a 22 = z_154 := (hM9.i (by decide)).trans e_155
                  replace hsr := hsr.mv hM9 (by decide) (by decide) (by decide) (by decide) (by decide)
                  obtain ⟨g_161, dg_161⟩ : ∃ g9, g9 = upd g_152 (4 * a220 + 3).toNat (I z_157) := ⟨_, rfl⟩
                  rw [← dg_161] at ha9
                  have ef_162 := ha9
                  exact th_vret hx hb hr hlocks hH hS ⟨hO, hF, hM, ⟨⟨by omega, pgo.of (by omega)⟩, by omega, hw_149.2.2.elim (fun h9 => Or.inl (by omega)) (fun h9 => Or.inr (by rw [show 4 * a220 / 4 = a220 by omega] at h9; rw [show gI σ a 22 = a220 by omega, show gI σ_s_158 a 22 = gI σ_s_150 a 22 by omega, show aF σ_s_158 (ad E a 2) = g_161 from ef_162]; exact h9.node (by omega) dg_161 (by omega) ⟨by omega, by omega⟩ (by omega) ((((same.rf).up1 dg_89 (by omega)).up1 dg_98 (by omega)).up1 dg_146 (by omega)) ((mY_up dg_146 (by omega) (by omega)).trans ((mY_up dg_98 (by omega) (by omega)).trans (mY_at dg_89 rky)))))⟩⟩ dX11_readThing_260
              · replace c_105 := mt (I_eq (a := z_104) (b := 0) rz_104 (show rng 0 from ⟨by decide, by decide⟩)).mpr c_105
                replace hw_102 := (hw_102.resolve_left c_105).2
                refine lv_aload_n hx hb dX11_readThing_172 rfl (lv_at hl 1 rfl) ?_
                refine ok.getR hO h_a (by decide) k13_2 (by decide) (fun _ _ he hv kk => th_get (ci := 11) (C := RX11) (T := TX11) (N := 66) hx hb hts inX11 hown hK hH he rfl 2 (by decide) fl3 hv dX11_readThing_173 kk) ?_
                refine lv_iload hx hb dX11_readThing_176 (lv_at hl 0 rfl) ?_
                refine lv_iconst (v := I 2) hx hb dX11_readThing_178 (by decide) ?_
                refine m_iast hx hb hK hH hS h00 hO h_a k13_2 isA1 (by decide) ef_99 ⟨by omega, by omega⟩ (by omega) (by omega) (show rng 2 from ⟨by decide, by decide⟩) el1 dX11_readThing_179 (fun σ_s_163 H locs hO hF9 hM9 ha9 hH hS => ?_)
                replace hM := hM.tu hM9 (by decide)
                replace hF := hF.tu hF9 (by decide)
                have e_164 : gI σ_s_163 a 11 = a110 := (hM9.i (by decide)).trans e_92
                have e_165 : gI σ_s_163 a 13 = a130 := (hM9.i (by decide)).trans e_93
                have e_166 : gI σ_s_163 a 14 = a140 := (hM9.i (by decide)).trans e_94
                have e_167 : gI σ_s_163 a 17 = a170 := (hM9.i (by decide)).trans e_95
                have e_168 : gI σ_s_163 a 19 = z_71 := (hM9.i (by decide)).trans e_96
                have e_169 : gI σ_s_163 a 22 = a220 + 1 := (hM9.i (by decide)).trans e_97
                replace hsr := hsr.mv hM9 (by decide) (by decide) (by decide) (by decide) (by decide)
                obtain ⟨g_170, dg_170⟩ : ∃ g9, g9 = upd g_98 (4 * a220).toNat (I 2) := ⟨_, rfl⟩
                rw [← dg_170] at ha9
                have ef_171 := ha9
                refine lv_aload_n hx hb dX11_readThing_180 rfl (lv_at hl 1 rfl) ?_
                refine lv_iload hx hb dX11_readThing_181 (lv_at hl 0 rfl) ?_
                refine lv_iload_n hx hb dX11_readThing_183 rfl (lv_at hl 3 rfl) ?_
                refine lv_bipush (v := I 93) hx hb dX11_readThing_184 (by decide) ?_
                obtain ⟨_, hc_172⟩ := hO.cell h_a (by decide) (ci := 11) rfl
                refine th_callv (va_runV (As := [.int (I (4 * a220)), .int (I dp), .int (I 93)]) (rest := []) ⟨hx, hb, hml, hown, hts⟩ (m_readMany n ih l G y b0 σ_s_163 E hO a h_a (4 * a220) (show rng (4 * a220) from ⟨by omega, by omega⟩) (by omega) (by omega) dp (show rng dp from rdp) (by omega) (by omega) 93 (show rng 93 from (show rng 93 from ⟨by decide, by decide⟩)) g_170 ef_171 Bf hsr (by omega) (by omega) (by omega) (by omega)) (cwV 3 hts gX11_readThing_X11_readMany rfl rfl rfl (by decide +kernel) ⟨(by first | (simp only [headSpec]; omega) | omega | (dsimp only; omega)), (by first | (simp only [headSpec]; omega) | omega | (dsimp only; omega))⟩) (th_PV hK hH rfl hc_172) rfl rfl hl.1 rfl (lv_room (Nat.le_of_ble_eq_true rfl)) dX11_readThing_186 ⟨(by first | (simp only [headSpec]; omega) | omega | (dsimp only; omega)), (by first | (simp only [headSpec]; omega) | omega | (dsimp only; omega))⟩) hS (fun σ_s_174 H locs hw_173 hH hS => ?_)
                obtain ⟨hO9, hF9, hM9, hw_173⟩ := hw_173
                replace hM := hM.tu hM9 (by decide)
                replace hF := hF.tu hF9 (by decide)
                have e_175 : gI σ_s_174 a 11 = a110 := (hM9.i (by decide)).trans e_164
                replace hsr := hsr.mv hM9 (by decide) (by decide) (by decide) (by decide) (by decide)
                replace hO := hO9
                generalize ef_177 : aF σ_s_174 (ad E a 2) = g_176 at hw_173
                have hw_173 : ((gI σ_s_163 a 13 ≤ gI σ_s_174 a 13 ∧ gI σ_s_174 a 13 ≤ gI σ_s_163 a 11 ∧ 0 ≤ gI σ_s_174 a 17 ∧ gI σ_s_174 a 17 ≤ gI σ_s_174 a 13) ∧ pgo (gI σ_s_174 a 19) (gI σ_s_174 a 14) (gI σ_s_163 a 13) (gI σ_s_174 a 13)) ∧ gI σ_s_163 a 22 ≤ gI σ_s_174 a 22 ∧ (¬ gI σ_s_174 a 19 = 0 ∨ rdF g_170 g_176 ((4 * a220) / 4) (gI σ_s_174 a 22) dp) := hw_173
                simp only [pgo, bdo] at hw_173
                refine lv_goto (tgt := 242) hx hb dX11_readThing_189 (by decide) ?_
                refine lv_aload_n hx hb dX11_readThing_242 rfl (lv_at hl 1 rfl) ?_
                refine ok.getR hO h_a (by decide) k13_2 (by decide) (fun _ _ he hv kk => th_get (ci := 11) (C := RX11) (T := TX11) (N := 66) hx hb hts inX11 hown hK hH he rfl 2 (by decide) fl3 hv dX11_readThing_243 kk) ?_
                refine lv_iload hx hb dX11_readThing_246 (lv_at hl 0 rfl) ?_
                refine lv_iconst (v := I 3) hx hb dX11_readThing_248 (by decide) ?_
                refine lv_iadd hx hb dX11_readThing_249 ?_
                refine nq_top (I_add _ _) ?_
                refine lv_aload_n hx hb dX11_readThing_250 rfl (lv_at hl 1 rfl) ?_
                refine ok.getI hO h_a (by decide) k13_22 (fun _ _ he hv kk => th_get (ci := 11) (C := RX11) (T := TX11) (N := 66) hx hb hts inX11 hown hK hH he rfl 22 (by decide) fl2 hv dX11_readThing_251 kk) (fun z_178 e_179 rz_178 lz_178 uz_178 => ?_)
                refine lv_iload hx hb dX11_readThing_254 (lv_at hl 0 rfl) ?_
                refine lv_iconst (v := I 4) hx hb dX11_readThing_256 (by decide) ?_
                refine lv_idiv hx hb dX11_readThing_257 (by decide) ?_
                refine th_div (n := 4) ⟨by omega, by omega⟩ (by omega) (by decide) (fun z_180 rz_180 hz_180 => ?_)
                refine lv_isub hx hb dX11_readThing_258 ?_
                refine th_subo (fun z_181 rz_181 hz_181 => ?_)
                refine m_iast hx hb hK hH hS h00 hO h_a k13_2 isA1 (by decide) ef_177 ⟨by omega, by omega⟩ (by omega) (by omega) rz_181 el1 dX11_readThing_259 (fun σ_s_182 H locs hO hF9 hM9 ha9 hH hS => ?_)
                replace hM := hM.tu hM9 (by decide)
                replace hF := hF.tu hF9 (by decide)
                have e_183 : gI σ_s_182 a 11 = a110 := (hM9.i (by decide)).trans e_175
                have e_184 : gI σ_s_182 a 22 = z_178 := (hM9.i (by decide)).trans e_179
                replace hsr := hsr.mv hM9 (by decide) (by decide) (by decide) (by decide) (by decide)
                obtain ⟨g_185, dg_185⟩ : ∃ g9, g9 = upd g_176 (4 * a220 + 3).toNat (I z_181) := ⟨_, rfl⟩
                rw [← dg_185] at ha9
                have ef_186 := ha9
                exact th_vret hx hb hr hlocks hH hS ⟨hO, hF, hM, ⟨⟨by omega, pgo.of (by omega)⟩, by omega, hw_173.2.2.elim (fun h9 => Or.inl (by omega)) (fun h9 => Or.inr (by rw [show 4 * a220 / 4 = a220 by omega] at h9; rw [show gI σ a 22 = a220 by omega, show gI σ_s_182 a 22 = gI σ_s_174 a 22 by omega, show aF σ_s_182 (ad E a 2) = g_185 from ef_186]; exact h9.node (by omega) dg_185 (by omega) ⟨by omega, by omega⟩ (by omega) ((((same.rf).up1 dg_89 (by omega)).up1 dg_98 (by omega)).up1 dg_170 (by omega)) ((mY_up dg_170 (by omega) (by omega)).trans ((mY_up dg_98 (by omega) (by omega)).trans (mY_at dg_89 rky)))))⟩⟩ dX11_readThing_260
            · replace c_100 := (I_eq (a := a140) (b := 1) ra140 (show rng 1 from ⟨by decide, by decide⟩)).mp c_100
              refine lv_aload_n hx hb dX11_readThing_139 rfl (lv_at hl 1 rfl) ?_
              refine ok.getR hO h_a (by decide) k13_2 (by decide) (fun _ _ he hv kk => th_get (ci := 11) (C := RX11) (T := TX11) (N := 66) hx hb hts inX11 hown hK hH he rfl 2 (by decide) fl3 hv dX11_readThing_140 kk) ?_
              refine lv_iload hx hb dX11_readThing_143 (lv_at hl 0 rfl) ?_
              refine lv_iconst (v := I 1) hx hb dX11_readThing_145 (by decide) ?_
              refine m_iast hx hb hK hH hS h00 hO h_a k13_2 isA1 (by decide) ef_99 ⟨by omega, by omega⟩ (by omega) (by omega) (show rng 1 from ⟨by decide, by decide⟩) el1 dX11_readThing_146 (fun σ_s_187 H locs hO hF9 hM9 ha9 hH hS => ?_)
              replace hM := hM.tu hM9 (by decide)
              replace hF := hF.tu hF9 (by decide)
              have e_188 : gI σ_s_187 a 11 = a110 := (hM9.i (by decide)).trans e_92
              have e_189 : gI σ_s_187 a 13 = a130 := (hM9.i (by decide)).trans e_93
              have e_190 : gI σ_s_187 a 14 = a140 := (hM9.i (by decide)).trans e_94
              have e_191 : gI σ_s_187 a 17 = a170 := (hM9.i (by decide)).trans e_95
              have e_192 : gI σ_s_187 a 19 = z_71 := (hM9.i (by decide)).trans e_96
              have e_193 : gI σ_s_187 a 22 = a220 + 1 := (hM9.i (by decide)).trans e_97
              replace hsr := hsr.mv hM9 (by decide) (by decide) (by decide) (by decide) (by decide)
              obtain ⟨g_194, dg_194⟩ : ∃ g9, g9 = upd g_98 (4 * a220).toNat (I 1) := ⟨_, rfl⟩
              rw [← dg_194] at ha9
              have ef_195 := ha9
              refine lv_aload_n hx hb dX11_readThing_147 rfl (lv_at hl 1 rfl) ?_
              refine ok.getR hO h_a (by decide) k13_2 (by decide) (fun _ _ he hv kk => th_get (ci := 11) (C := RX11) (T := TX11) (N := 66) hx hb hts inX11 hown hK hH he rfl 2 (by decide) fl3 hv dX11_readThing_148 kk) ?_
              refine lv_iload hx hb dX11_readThing_151 (lv_at hl 0 rfl) ?_
              refine lv_iconst (v := I 1) hx hb dX11_readThing_153 (by decide) ?_
              refine lv_iadd hx hb dX11_readThing_154 ?_
              refine nq_top (I_add _ _) ?_
              refine lv_aload_n hx hb dX11_readThing_155 rfl (lv_at hl 1 rfl) ?_
              obtain ⟨_, hc_196⟩ := hO.cell h_a (by decide) (ci := 11) rfl
              refine th_calli (va_runV (As := []) (rest := [.int (I (4 * a220 + 1)), .ref (ad E a 2)]) ⟨hx, hb, hml, hown, hts⟩ (m_readWord l G y b0 σ_s_187 E hO a h_a Bf hsr (by omega)) (cwV 0 hts gX11_readThing_X11_readWord rfl rfl rfl (by decide +kernel) ⟨(by first | (simp only [headSpec]; omega) | omega | (dsimp only; omega)), (by first | (simp only [headSpec]; omega) | omega | (dsimp only; omega))⟩) (th_PV hK hH rfl hc_196) rfl rfl hl.1 rfl (lv_room (Nat.le_of_ble_eq_true rfl)) dX11_readThing_156 ⟨(by first | (simp only [headSpec]; omega) | omega | (dsimp only; omega)), (by first | (simp only [headSpec]; omega) | omega | (dsimp only; omega))⟩) hS (fun z_199 σ_s_198 H locs rz_199 hw_197 hH hS => ?_)
              obtain ⟨hO9, hF9, hM9, hw_197⟩ := hw_197
              replace hM := hM.tu hM9 (by decide)
              replace hF := hF.tu hF9 (by decide)
              have e_200 : gI σ_s_198 a 11 = a110 := (hM9.i (by decide)).trans e_188
              have e_201 : gI σ_s_198 a 22 = a220 + 1 := (hM9.i (by decide)).trans e_193
              have e_202 : aF σ_s_198 (ad E a 2) = g_194 := (hM9.a (by decide) (by decide)).trans ef_195
              replace hsr := hsr.mv hM9 (by decide) (by decide) (by decide) (by decide) (by decide)
              replace hO := hO9
              have hw_197 : (gI σ_s_187 a 13 ≤ gI σ_s_198 a 13 ∧ gI σ_s_198 a 13 ≤ gI σ_s_187 a 11 ∧ 0 ≤ gI σ_s_198 a 17 ∧ gI σ_s_198 a 17 ≤ gI σ_s_198 a 13) ∧ pgo (gI σ_s_198 a 19) (gI σ_s_198 a 14) (gI σ_s_187 a 13) (gI σ_s_198 a 13) ∧ bdo (gI σ_s_187 a 19) (gI σ_s_198 a 19) := hw_197
              simp only [pgo, bdo] at hw_197
              refine m_iast hx hb hK hH hS h00 hO h_a k13_2 isA1 (by decide) e_202 ⟨by omega, by omega⟩ (by omega) (by omega) rz_199 el1 dX11_readThing_159 (fun σ_s_203 H locs hO hF9 hM9 ha9 hH hS => ?_)
              replace hM := hM.tu hM9 (by decide)
              replace hF := hF.tu hF9 (by decide)
              have e_204 : gI σ_s_203 a 11 = a110 := (hM9.i (by decide)).trans e_200
              have e_205 : gI σ_s_203 a 22 = a220 + 1 := (hM9.i (by decide)).trans e_201
              replace hsr := hsr.mv hM9 (by decide) (by decide) (by decide) (by decide) (by decide)
              obtain ⟨g_206, dg_206⟩ : ∃ g9, g9 = upd g_194 (4 * a220 + 1).toNat (I z_199) := ⟨_, rfl⟩
              rw [← dg_206] at ha9
              have ef_207 := ha9
              refine lv_goto (tgt := 242) hx hb dX11_readThing_160 (by decide) ?_
              refine lv_aload_n hx hb dX11_readThing_242 rfl (lv_at hl 1 rfl) ?_
              refine ok.getR hO h_a (by decide) k13_2 (by decide) (fun _ _ he hv kk => th_get (ci := 11) (C := RX11) (T := TX11) (N := 66) hx hb hts inX11 hown hK hH he rfl 2 (by decide) fl3 hv dX11_readThing_243 kk) ?_
              refine lv_iload hx hb dX11_readThing_246 (lv_at hl 0 rfl) ?_
              refine lv_iconst (v := I 3) hx hb dX11_readThing_248 (by decide) ?_
              refine lv_iadd hx hb dX11_readThing_249 ?_
              refine nq_top (I_add _ _) ?_
              refine lv_aload_n hx hb dX11_readThing_250 rfl (lv_at hl 1 rfl) ?_
              refine ok.getIc hO h_a (by decide) k13_22 e_205 (fun _ _ he hv kk => th_get (ci := 11) (C := RX11) (T := TX11) (N := 66) hx hb hts inX11 hown hK hH he rfl 22 (by decide) fl2 hv dX11_readThing_251 kk) ?_
              refine lv_iload hx hb dX11_readThing_254 (lv_at hl 0 rfl) ?_
              refine lv_iconst (v := I 4) hx hb dX11_readThing_256 (by decide) ?_
              refine lv_idiv hx hb dX11_readThing_257 (by decide) ?_
              refine th_div (n := 4) ⟨by omega, by omega⟩ (by omega) (by decide) (fun z_208 rz_208 hz_208 => ?_)
              refine lv_isub hx hb dX11_readThing_258 ?_
              refine th_subo (fun z_209 rz_209 hz_209 => ?_)
              refine m_iast hx hb hK hH hS h00 hO h_a k13_2 isA1 (by decide) ef_207 ⟨by omega, by omega⟩ (by omega) (by omega) rz_209 el1 dX11_readThing_259 (fun σ_s_210 H locs hO hF9 hM9 ha9 hH hS => ?_)
              replace hM := hM.tu hM9 (by decide)
              replace hF := hF.tu hF9 (by decide)
              have e_211 : gI σ_s_210 a 11 = a110 := (hM9.i (by decide)).trans e_204
              have e_212 : gI σ_s_210 a 22 = a220 + 1 := (hM9.i (by decide)).trans e_205
              replace hsr := hsr.mv hM9 (by decide) (by decide) (by decide) (by decide) (by decide)
              obtain ⟨g_213, dg_213⟩ : ∃ g9, g9 = upd g_206 (4 * a220 + 3).toNat (I z_209) := ⟨_, rfl⟩
              rw [← dg_213] at ha9
              have ef_214 := ha9
              exact th_vret hx hb hr hlocks hH hS ⟨hO, hF, hM, ⟨⟨by omega, pgo.of (by omega)⟩, by omega, by rw [show gI σ a 22 = a220 by omega, show gI σ_s_210 a 22 = a220 + 1 by omega, show aF σ_s_210 (ad E a 2) = g_213 from ef_214]; exact Or.inr ((rdF.zero (f := g_206) same.rf).node (by omega) dg_213 (by omega) ⟨by omega, by omega⟩ (by omega) (((((same.rf).up1 dg_89 (by omega)).up1 dg_98 (by omega)).up1 dg_194 (by omega)).up1 dg_206 (by omega)) ((mY_up dg_206 (by omega) (by omega)).trans ((mY_up dg_194 (by omega) (by omega)).trans ((mY_up dg_98 (by omega) (by omega)).trans (mY_at dg_89 rky)))))⟩⟩ dX11_readThing_260
          · replace c_73 := mt (I_eq (a := z_71) (b := 0) rz_71 (show rng 0 from ⟨by decide, by decide⟩)).mpr c_73
            exact th_vret hx hb hr hlocks hH hS ⟨hO, hF, hM, ⟨⟨by omega, pgo.of (by omega)⟩, by omega, Or.inl (by omega)⟩⟩ dX11_readThing_92
        · refine lv_if_ne (tgt := 85) hx hb dX11_readThing_62 (by decide) (fun c_215 => ?_) (fun c_215 => ?_)
          · replace c_215 := mt (I_eq (a := z_51) (b := 0) rz_51 (show rng 0 from ⟨by decide, by decide⟩)).mpr c_215
            exact jK_70 () σ_K_50 _ _ _ ⟨hO, hF, hM, hsr, hH, hS, lv_sub hl [0, 1, 2] rfl, by first | (dsimp only; omega) | omega, K_50_0, K_50_1, K_50_2, K_50_3, K_50_4, K_50_5⟩
          · replace c_215 := (I_eq (a := z_51) (b := 0) rz_51 (show rng 0 from ⟨by decide, by decide⟩)).mp c_215
            refine lv_aload_n hx hb dX11_readThing_65 rfl (lv_at hl 0 rfl) ?_
            refine ok.getIc hO h_a (by decide) k13_22 K_50_4 (fun _ _ he hv kk => th_get (ci := 11) (C := RX11) (T := TX11) (N := 66) hx hb hts inX11 hown hK hH he rfl 22 (by decide) fl2 hv dX11_readThing_66 kk) ?_
            refine lv_bipush (v := I 60) hx hb dX11_readThing_69 (by decide) ?_
            refine th_join (α := Unit) (J := 80) (stk := fun x9 => []) (fun x9 σ9 H9 l9 ls9 => σ9 = σ_K_50 ∧ th_H G b0 σ9 H9 ∧ va_S (th_A b0) s.heap H9 l9 ∧ lv_has ls9 5 [(0, .ref a), (1, .int (I ky)), (2, .int (I dp))]) ?_ (fun jK_219 => ?_)
            · intro x9 σ_K_219 H locs ls hI9
              obtain ⟨eK_219, hH, hS, hl⟩ := hI9
              replace eK_219 := eK_219.symm
              subst eK_219
              have hl : lv_has ls 5 [(0, .ref a), (1, .int (I ky)), (2, .int (I dp))] := hl
              refine lv_aload_n hx hb dX11_readThing_80 rfl (lv_at hl 0 rfl) ?_
              refine lv_iconst (v := I 2) hx hb dX11_readThing_81 (by decide) ?_
              obtain ⟨_, hc_220⟩ := hO.cell h_a (by decide) (ci := 11) rfl
              refine th_callv (va_runV (As := [.int (I 2)]) (rest := []) ⟨hx, hb, hml, hown, hts⟩ (m_wrong l G y b0 σ_K_50 E hO a h_a 2 (show rng 2 from (show rng 2 from ⟨by decide, by decide⟩)) (by omega) (by omega)) (cwV 1 hts gX11_readThing_X11_wrong rfl rfl rfl (by decide +kernel) ⟨(by first | (simp only [headSpec]; omega) | omega | (dsimp only; omega)), (by first | (simp only [headSpec]; omega) | omega | (dsimp only; omega))⟩) (th_PV hK hH rfl hc_220) rfl rfl hl.1 rfl (lv_room (Nat.le_of_ble_eq_true rfl)) dX11_readThing_82 ⟨(by first | (simp only [headSpec]; omega) | omega | (dsimp only; omega)), (by first | (simp only [headSpec]; omega) | omega | (dsimp only; omega))⟩) hS (fun σ_s_222 H locs hw_221 hH hS => ?_)
              obtain ⟨hO9, hF9, hM9, hw_221⟩ := hw_221
              replace hM := hM.tu hM9 (by decide)
              replace hF := hF.tu hF9 (by decide)
              have e_223 : gI σ_s_222 a 11 = a110 := (hM9.i (by decide)).trans K_50_0
              have e_224 : gI σ_s_222 a 13 = a130 := (hM9.i (by decide)).trans K_50_1
              have e_225 : gI σ_s_222 a 14 = a140 := (hM9.i (by decide)).trans K_50_2
              have e_226 : gI σ_s_222 a 17 = a170 := (hM9.i (by decide)).trans K_50_3
              have e_227 : gI σ_s_222 a 22 = a220 := (hM9.i (by decide)).trans K_50_4
              have e_228 : aF σ_s_222 (ad E a 2) = f2 := (hM9.a (by decide) (by decide)).trans K_50_5
              replace hsr := hsr.mv hM9 (by decide) (by decide) (by decide) (by decide) (by decide)
              replace hO := hO9
              have hw_221 : ¬ gI σ_s_222 a 19 = 0 ∧ (gI σ_K_50 a 19 = 0 ∨ gI σ_s_222 a 19 = gI σ_K_50 a 19) := hw_221
              exact jK_70 () σ_s_222 _ _ _ ⟨hO, hF, hM, hsr, hH, hS, lv_sub hl [0, 1, 2] rfl, by first | (dsimp only; omega) | omega, e_223, e_224, e_225, e_226, e_227, e_228⟩
            · refine lv_icmp_eq (tgt := 80) hx hb dX11_readThing_71 (by decide) (fun c_229 => ?_) (fun c_229 => ?_)
              · replace c_229 := (I_eq (a := a220) (b := 60) ra220 (show rng 60 from ⟨by decide, by decide⟩)).mp c_229
                exact jK_219 () σ_K_50 _ _ _ ⟨rfl, hH, hS, lv_sub hl [0, 1, 2] rfl⟩
              · replace c_229 := mt (I_eq (a := a220) (b := 60) ra220 (show rng 60 from ⟨by decide, by decide⟩)).mpr c_229
                refine lv_iload_n hx hb dX11_readThing_74 rfl (lv_at hl 2 rfl) ?_
                refine lv_bipush (v := I 7) hx hb dX11_readThing_75 (by decide) ?_
                refine lv_icmp_le (tgt := 85) hx hb dX11_readThing_77 (by decide) (fun c_230 => ?_) (fun c_230 => ?_)
                · replace c_230 := (I_le (a := dp) (b := 7) rdp (show rng 7 from ⟨by decide, by decide⟩)).mp c_230
                  exact jK_70 () σ_K_50 _ _ _ ⟨hO, hF, hM, hsr, hH, hS, lv_sub hl [0, 1, 2] rfl, by first | (dsimp only; omega) | omega, K_50_0, K_50_1, K_50_2, K_50_3, K_50_4, K_50_5⟩
                · replace c_230 := mt (I_le (a := dp) (b := 7) rdp (show rng 7 from ⟨by decide, by decide⟩)).mpr c_230
                  exact jK_219 () σ_K_50 _ _ _ ⟨rfl, hH, hS, lv_sub hl [0, 1, 2] rfl⟩
      · refine lv_if_ne (tgt := 58) hx hb dX11_readThing_50 (by decide) (fun c_231 => ?_) (fun c_231 => ?_)
        · replace c_231 := mt (I_eq (a := w0q37) (b := 0) rw0q37 (show rng 0 from ⟨by decide, by decide⟩)).mpr c_231
          replace hl : lv_has ls 5 [(0, .ref a), (1, .int (I ky)), (2, .int (I dp))] := lv_sub hl [1, 2, 3] rfl
          exact jK_50 () σ _ _ _ ⟨hO, hF, hM, hsr, hH, hS, lv_sub hl [0, 1, 2] rfl, ea110, ea130, ea140, ea170, ea220, ef2⟩
        · replace c_231 := (I_eq (a := w0q37) (b := 0) rw0q37 (show rng 0 from ⟨by decide, by decide⟩)).mp c_231
          refine lv_aload_n hx hb dX11_readThing_53 rfl (lv_at hl 1 rfl) ?_
          refine lv_iconst (v := I 1) hx hb dX11_readThing_54 (by decide) ?_
          obtain ⟨_, hc_232⟩ := hO.cell h_a (by decide) (ci := 11) rfl
          refine th_callv (va_runV (As := [.int (I 1)]) (rest := []) ⟨hx, hb, hml, hown, hts⟩ (m_wrong l G y b0 σ E hO a h_a 1 (show rng 1 from (show rng 1 from ⟨by decide, by decide⟩)) (by omega) (by omega)) (cwV 1 hts gX11_readThing_X11_wrong rfl rfl rfl (by decide +kernel) ⟨(by first | (simp only [headSpec]; omega) | omega | (dsimp only; omega)), (by first | (simp only [headSpec]; omega) | omega | (dsimp only; omega))⟩) (th_PV hK hH rfl hc_232) rfl rfl hl.1 rfl (lv_room (Nat.le_of_ble_eq_true rfl)) dX11_readThing_55 ⟨(by first | (simp only [headSpec]; omega) | omega | (dsimp only; omega)), (by first | (simp only [headSpec]; omega) | omega | (dsimp only; omega))⟩) hS (fun σ_s_234 H locs hw_233 hH hS => ?_)
          obtain ⟨hO9, hF9, hM9, hw_233⟩ := hw_233
          replace hM := hM.tu hM9 (by decide)
          replace hF := hF.tu hF9 (by decide)
          have e_235 : aF σ_s_234 (ad E a 2) = f2 := (hM9.a (by decide) (by decide)).trans ef2
          have e_236 : gI σ_s_234 a 11 = a110 := (hM9.i (by decide)).trans ea110
          have e_237 : gI σ_s_234 a 13 = a130 := (hM9.i (by decide)).trans ea130
          have e_238 : gI σ_s_234 a 14 = a140 := (hM9.i (by decide)).trans ea140
          have e_239 : gI σ_s_234 a 17 = a170 := (hM9.i (by decide)).trans ea170
          have e_240 : gI σ_s_234 a 22 = a220 := (hM9.i (by decide)).trans ea220
          replace hsr := hsr.mv hM9 (by decide) (by decide) (by decide) (by decide) (by decide)
          replace hO := hO9
          have hw_233 : ¬ gI σ_s_234 a 19 = 0 ∧ (gI σ a 19 = 0 ∨ gI σ_s_234 a 19 = gI σ a 19) := hw_233
          replace hl : lv_has ls 5 [(0, .ref a), (1, .int (I ky)), (2, .int (I dp))] := lv_sub hl [1, 2, 3] rfl
          exact jK_50 () σ_s_234 _ _ _ ⟨hO, hF, hM, hsr, hH, hS, lv_sub hl [0, 1, 2] rfl, e_236, e_237, e_238, e_239, e_240, e_235⟩
    · refine th_join (α := Unit) (J := 43) (stk := fun x9 => []) (fun x9 σ9 H9 l9 ls9 => σ9 = σ ∧ th_H G b0 σ9 H9 ∧ va_S (th_A b0) s.heap H9 l9 ∧ lv_has ls9 5 [(0, .ref a), (1, .int (I ky)), (2, .int (I dp))]) ?_ (fun jK_259 => ?_)
      · intro x9 σ_K_259 H locs ls hI9
        obtain ⟨eK_259, hH, hS, hl⟩ := hI9
        replace eK_259 := eK_259.symm
        subst eK_259
        have hl : lv_has ls 5 [(0, .ref a), (1, .int (I ky)), (2, .int (I dp))] := hl
        refine lv_iconst (v := I 1) hx hb dX11_readThing_43 (by decide) ?_
        refine lv_goto (tgt := 48) hx hb dX11_readThing_44 (by decide) ?_
        exact jK_38 (1) σ _ _ _ ⟨rfl, hH, hS, lv_sub hl [0, 1, 2] rfl, (show rng 1 from ⟨by decide, by decide⟩), by first | (dsimp only; omega) | omega⟩
      · refine lv_icmp_eq (tgt := 43) hx hb dX11_readThing_5 (by decide) (fun c_260 => ?_) (fun c_260 => ?_)
        · replace c_260 := (I_eq (a := a140) (b := 2) ra140 (show rng 2 from ⟨by decide, by decide⟩)).mp c_260
          exact jK_259 () σ _ _ _ ⟨rfl, hH, hS, lv_sub hl [0, 1, 2] rfl⟩
        · replace c_260 := mt (I_eq (a := a140) (b := 2) ra140 (show rng 2 from ⟨by decide, by decide⟩)).mpr c_260
          refine lv_aload_n hx hb dX11_readThing_8 rfl (lv_at hl 0 rfl) ?_
          refine ok.getIc hO h_a (by decide) k13_14 ea140 (fun _ _ he hv kk => th_get (ci := 11) (C := RX11) (T := TX11) (N := 66) hx hb hts inX11 hown hK hH he rfl 14 (by decide) fl0 hv dX11_readThing_9 kk) ?_
          refine lv_iconst (v := I 1) hx hb dX11_readThing_12 (by decide) ?_
          refine lv_icmp_eq (tgt := 43) hx hb dX11_readThing_13 (by decide) (fun c_261 => ?_) (fun c_261 => ?_)
          · replace c_261 := (I_eq (a := a140) (b := 1) ra140 (show rng 1 from ⟨by decide, by decide⟩)).mp c_261
            exact jK_259 () σ _ _ _ ⟨rfl, hH, hS, lv_sub hl [0, 1, 2] rfl⟩
          · replace c_261 := mt (I_eq (a := a140) (b := 1) ra140 (show rng 1 from ⟨by decide, by decide⟩)).mpr c_261
            refine lv_aload_n hx hb dX11_readThing_16 rfl (lv_at hl 0 rfl) ?_
            refine lv_bipush (v := I 45) hx hb dX11_readThing_17 (by decide) ?_
            obtain ⟨_, hc_262⟩ := hO.cell h_a (by decide) (ci := 11) rfl
            refine th_calli (va_runV (As := [.int (I 45)]) (rest := []) ⟨hx, hb, hml, hown, hts⟩ (m_isMarked l G y b0 σ E hO a h_a 45 (show rng 45 from (show rng 45 from ⟨by decide, by decide⟩)) Bf hsr (by omega)) (cwV 1 hts gX11_readThing_X11_isMarked rfl rfl rfl (by decide +kernel) ⟨(by first | (simp only [headSpec]; omega) | omega | (dsimp only; omega)), (by first | (simp only [headSpec]; omega) | omega | (dsimp only; omega))⟩) (th_PV hK hH rfl hc_262) rfl rfl hl.1 rfl (lv_room (Nat.le_of_ble_eq_true rfl)) dX11_readThing_19 ⟨(by first | (simp only [headSpec]; omega) | omega | (dsimp only; omega)), (by first | (simp only [headSpec]; omega) | omega | (dsimp only; omega))⟩) hS (fun z_265 σ_s_264 H locs rz_265 hw_263 hH hS => ?_)
            obtain ⟨e9, bhw_263, hw_263⟩ := hw_263
            replace e9 := e9.symm
            subst e9
            have hw_263 : z_265 = 0 ∨ (z_265 = 1 ∧ gI σ a 19 = 0 ∧ gI σ a 14 = 3 ∧ Bf (gI σ a 17) = 45) := hw_263
            refine lv_if_ne (tgt := 43) hx hb dX11_readThing_22 (by decide) (fun c_266 => ?_) (fun c_266 => ?_)
            · replace c_266 := mt (I_eq (a := z_265) (b := 0) rz_265 (show rng 0 from ⟨by decide, by decide⟩)).mpr c_266
              replace hw_263 := (hw_263.resolve_left c_266).2
              exact jK_259 () σ _ _ _ ⟨rfl, hH, hS, lv_sub hl [0, 1, 2] rfl⟩
            · replace c_266 := (I_eq (a := z_265) (b := 0) rz_265 (show rng 0 from ⟨by decide, by decide⟩)).mp c_266
              clear hw_263
              refine lv_aload_n hx hb dX11_readThing_25 rfl (lv_at hl 0 rfl) ?_
              refine lv_bipush (v := I 91) hx hb dX11_readThing_26 (by decide) ?_
              obtain ⟨_, hc_267⟩ := hO.cell h_a (by decide) (ci := 11) rfl
              refine th_calli (va_runV (As := [.int (I 91)]) (rest := []) ⟨hx, hb, hml, hown, hts⟩ (m_isMarked l G y b0 σ E hO a h_a 91 (show rng 91 from (show rng 91 from ⟨by decide, by decide⟩)) Bf hsr (by omega)) (cwV 1 hts gX11_readThing_X11_isMarked rfl rfl rfl (by decide +kernel) ⟨(by first | (simp only [headSpec]; omega) | omega | (dsimp only; omega)), (by first | (simp only [headSpec]; omega) | omega | (dsimp only; omega))⟩) (th_PV hK hH rfl hc_267) rfl rfl hl.1 rfl (lv_room (Nat.le_of_ble_eq_true rfl)) dX11_readThing_28 ⟨(by first | (simp only [headSpec]; omega) | omega | (dsimp only; omega)), (by first | (simp only [headSpec]; omega) | omega | (dsimp only; omega))⟩) hS (fun z_270 σ_s_269 H locs rz_270 hw_268 hH hS => ?_)
              obtain ⟨e9, bhw_268, hw_268⟩ := hw_268
              replace e9 := e9.symm
              subst e9
              have hw_268 : z_270 = 0 ∨ (z_270 = 1 ∧ gI σ a 19 = 0 ∧ gI σ a 14 = 3 ∧ Bf (gI σ a 17) = 91) := hw_268
              refine lv_if_ne (tgt := 43) hx hb dX11_readThing_31 (by decide) (fun c_271 => ?_) (fun c_271 => ?_)
              · replace c_271 := mt (I_eq (a := z_270) (b := 0) rz_270 (show rng 0 from ⟨by decide, by decide⟩)).mpr c_271
                replace hw_268 := (hw_268.resolve_left c_271).2
                exact jK_259 () σ _ _ _ ⟨rfl, hH, hS, lv_sub hl [0, 1, 2] rfl⟩
              · replace c_271 := (I_eq (a := z_270) (b := 0) rz_270 (show rng 0 from ⟨by decide, by decide⟩)).mp c_271
                clear hw_268
                refine lv_aload_n hx hb dX11_readThing_34 rfl (lv_at hl 0 rfl) ?_
                refine lv_bipush (v := I 123) hx hb dX11_readThing_35 (by decide) ?_
                obtain ⟨_, hc_272⟩ := hO.cell h_a (by decide) (ci := 11) rfl
                refine th_calli (va_runV (As := [.int (I 123)]) (rest := []) ⟨hx, hb, hml, hown, hts⟩ (m_isMarked l G y b0 σ E hO a h_a 123 (show rng 123 from (show rng 123 from ⟨by decide, by decide⟩)) Bf hsr (by omega)) (cwV 1 hts gX11_readThing_X11_isMarked rfl rfl rfl (by decide +kernel) ⟨(by first | (simp only [headSpec]; omega) | omega | (dsimp only; omega)), (by first | (simp only [headSpec]; omega) | omega | (dsimp only; omega))⟩) (th_PV hK hH rfl hc_272) rfl rfl hl.1 rfl (lv_room (Nat.le_of_ble_eq_true rfl)) dX11_readThing_37 ⟨(by first | (simp only [headSpec]; omega) | omega | (dsimp only; omega)), (by first | (simp only [headSpec]; omega) | omega | (dsimp only; omega))⟩) hS (fun z_275 σ_s_274 H locs rz_275 hw_273 hH hS => ?_)
                obtain ⟨e9, bhw_273, hw_273⟩ := hw_273
                replace e9 := e9.symm
                subst e9
                have hw_273 : z_275 = 0 ∨ (z_275 = 1 ∧ gI σ a 19 = 0 ∧ gI σ a 14 = 3 ∧ Bf (gI σ a 17) = 123) := hw_273
                refine lv_if_eq (tgt := 47) hx hb dX11_readThing_40 (by decide) (fun c_276 => ?_) (fun c_276 => ?_)
                · replace c_276 := (I_eq (a := z_275) (b := 0) rz_275 (show rng 0 from ⟨by decide, by decide⟩)).mp c_276
                  clear hw_273
                  refine lv_iconst (v := I 0) hx hb dX11_readThing_47 (by decide) ?_
                  exact jK_38 (0) σ _ _ _ ⟨rfl, hH, hS, lv_sub hl [0, 1, 2] rfl, (show rng 0 from ⟨by decide, by decide⟩), by first | (dsimp only; omega) | omega⟩
                · replace c_276 := mt (I_eq (a := z_275) (b := 0) rz_275 (show rng 0 from ⟨by decide, by decide⟩)).mpr c_276
                  replace hw_273 := (hw_273.resolve_left c_276).2
                  exact jK_259 () σ _ _ _ ⟨rfl, hH, hS, lv_sub hl [0, 1, 2] rfl⟩
