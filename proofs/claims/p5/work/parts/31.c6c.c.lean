set_option maxHeartbeats 4000000 in
set_option maxRecDepth 100000 in
theorem m_emit (n : Nat) : ∀ (l : Launch) (G : va_G) (y : Nat → ClassId) (b0 : Nat) (σ : th_M) (E : th_E) (hO : ok y E σ) (a : Nat) (h_a : kd E a = 13) (i : Int) (ri : rng i) (l_i : 0 ≤ i) (u_i : i ≤ 59) (dp : Int) (rdp : rng dp) (l_dp : 0 ≤ dp) (u_dp : dp ≤ 7) (f1 : Nat → Int32) (ef1 : aF σ (ad E a 1) = f1) (f2 : Nat → Int32) (ef2 : aF σ (ad E a 2) = f2) (f3 : Nat → Int32) (ef3 : aF σ (ad E a 3) = f3) (f35 : Nat → Int32) (ef35 : aF σ (ad E a 35) = f35) (hy0 : wf f1 0 (mS f1 0)) (hy1 : 1 ≤ mS f1 0 ∧ mS f1 0 ≤ 60) (hy2 : tr f1) (hy3 : tdc (gI σ a 32) f2) (hy4 : i < mS f1 0) (hy5 : dp ≤ cn f1 i i.toNat) (hy6 : gI σ a 5 + 61 * mS f1 i ≤ 4000) (hn : (8 - dp).toNat < n), Met l yX11_emit wsX11_emit ({ frames := 4*n+12, cells := 0, slots := 0, locals := (120*n+600) }) (th_P G y b0 σ [.ref a, .int (I i), .int (I dp)]) (th_Qv G b0 (fun σ1 => ok y E σ1 ∧ fr [13] E σ σ1 ∧ fm [3, 5, 35] E σ σ1 a ∧ (blk f3 (aF σ1 (ad E a 3)) (gI σ a 5) (gI σ1 a 5) (mY f1 i) ∧ gI σ1 a 5 - gI σ a 5 ≤ 61 * mS f1 i ∧ ofr f35 (aF σ1 (ad E a 35)) (60 * dp)))) 0 0 (th_A b0) := by
  induction n with
  | zero => intro l G y b0 σ E hO a h_a i ri l_i u_i dp rdp l_dp u_dp f1 ef1 f2 ef2 f3 ef3 f35 ef35 hy0 hy1 hy2 hy3 hy4 hy5 hy6 hn; exact absurd hn (Nat.not_lt_zero _)
  | succ n ih =>
    intro l G y b0 σ E hO a h_a i ri l_i u_i dp rdp l_dp u_dp f1 ef1 f2 ef2 f3 ef3 f35 ef35 hy0 hy1 hy2 hy3 hy4 hy5 hy6 hn
    refine Met.ofW (cc := cX11_emit) (maxL := 6) (ret := none) (by decide) rfl ?_
    intro p e s m args below meth c s₁ B hml hv
    obtain ⟨rfl, hH, hK⟩ := hv
    have hx := B.exec
    have hb := B.bytes
    have hr := B.returns
    have hts := atoms_spec (ws := wsX11_emit) B.pre
    have hown : s.vm.findClass RX11 = some m.cls := findClass_of_methodNamed B.named
    have hlocks := B.notSynchronized
    have h00 : b0 ≤ s.heap.size := hH.1
    have hS : va_S (th_A b0) s.heap s.heap [] := va_S.rf
    have hF : fr [13] E σ σ := fr.rf
    have hM : fm [3, 5, 35] E σ σ a := fm.rf
    have hk0 := hy0 i (by omega) (by omega)
    have inX11 : ∀ w ∈ wsX110, w ∈ wsX11_emit := by decide +kernel
    have fl0 := hts (.fieldLink RX11 35 "NestQueryModel" "set" "[Z") (by decide +kernel)
    have fl1 := hts (.fieldLink RX11 353 "NestQueryModel" "madeMany" "I") (by decide +kernel)
    have fl2 := hts (.fieldLink RX11 9 "NestQueryModel" "tree" "[I") (by decide +kernel)
    have fl3 := hts (.fieldLink RX11 16 "NestQueryModel" "made" "[I") (by decide +kernel)
    have fl4 := hts (.fieldLink RX11 369 "NestQueryModel" "change" "I") (by decide +kernel)
    have fl5 := hts (.fieldLink RX11 375 "NestQueryModel" "changeBy" "I") (by decide +kernel)
    have fl6 := hts (.methodLink RX11 153 Lib.Math.min.name) (by decide +kernel)
    have fl7 := hts (.static Lib.Math.min.name) (by decide +kernel)
    have fl8 := hts (.initialized "java/lang/Math") (by decide +kernel)
    have fl9 := hts (.code Lib.Math.min.name Lib.Math.min.code 2 (some .int)) (by decide +kernel)
    have fl10 := hts (.methodLink RX11 313 Lib.Math.max.name) (by decide +kernel)
    have fl11 := hts (.static Lib.Math.max.name) (by decide +kernel)
    have fl12 := hts (.code Lib.Math.max.name Lib.Math.max.code 2 (some .int)) (by decide +kernel)
    have fl13 := hts (.fieldLink RX11 13 "NestQueryModel" "data" "[I") (by decide +kernel)
    have hl := lv_entry ([.ref a, .int (I i), .int (I dp)]) (n := 6) (Nat.le_of_ble_eq_true rfl)
    rw [lg_entry_eq]
    generalize (lg_sl ([.ref a, .int (I i), .int (I dp)]) ++ List.replicate (6 - (lg_sl ([.ref a, .int (I i), .int (I dp)])).length) Slot.unset).toArray = ls at hl ⊢
    have hl : lv_has ls 6 [(0, .ref a), (1, .int (I i)), (2, .int (I dp))] := hl
    obtain ⟨a50, ea50, ra50, la50, ua50⟩ := hO.gi h_a (by decide) k13_5
    obtain ⟨a320, ea320, ra320, la320, ua320⟩ := hO.gi h_a (by decide) k13_32
    refine lv_aload_n hx hb dX11_emit_0 rfl (lv_at hl 0 rfl) ?_
    refine ok.getR hO h_a (by decide) k13_23 (by decide) (fun _ _ he hv kk => th_get (ci := 11) (C := RX11) (T := TX11) (N := 66) hx hb hts inX11 hown hK hH he rfl 23 (by decide) fl0 hv dX11_emit_1 kk) ?_
    refine lv_iload_n hx hb dX11_emit_4 rfl (lv_at hl 1 rfl) ?_
    refine m_zald hx hb hK hH hO h_a k13_23 ri (by omega) (by omega) dX11_emit_5 (fun z_1 rz_1 uz_1 => ?_)
    refine lv_istore_n (lv' := [(3, .int (I z_1)), (0, .ref a), (1, .int (I i)), (2, .int (I dp))]) hx hb dX11_emit_6 rfl hl (by decide) rfl (fun ls hl => ?_)
    refine lv_iload_n hx hb dX11_emit_7 rfl (lv_at hl 0 rfl) ?_
    refine lv_if_eq (tgt := 38) hx hb dX11_emit_8 (by decide) (fun c_2 => ?_) (fun c_2 => ?_)
    · replace c_2 := (I_eq (a := z_1) (b := 0) rz_1 (show rng 0 from ⟨by decide, by decide⟩)).mp c_2
      refine lv_iconst (v := I 4) hx hb dX11_emit_38 (by decide) ?_
      refine lv_aload_n hx hb dX11_emit_39 rfl (lv_at hl 1 rfl) ?_
      refine ok.getIc hO h_a (by decide) k13_5 ea50 (fun _ _ he hv kk => th_get (ci := 11) (C := RX11) (T := TX11) (N := 66) hx hb hts inX11 hown hK hH he rfl 5 (by decide) fl1 hv dX11_emit_40 kk) ?_
      refine lv_imul hx hb dX11_emit_43 ?_
      refine nq_top (I_mul _ _) ?_
      refine lv_istore (lv' := [(4, .int (I (4 * a50))), (3, .int (I z_1)), (0, .ref a), (1, .int (I i)), (2, .int (I dp))]) hx hb dX11_emit_44 hl (by decide) rfl (fun ls hl => ?_)
      refine lv_iconst (v := I 0) hx hb dX11_emit_46 (by decide) ?_
      refine lv_istore (lv' := [(5, .int (I 0)), (4, .int (I (4 * a50))), (3, .int (I z_1)), (0, .ref a), (1, .int (I i)), (2, .int (I dp))]) hx hb dX11_emit_47 hl (by decide) rfl (fun ls hl => ?_)
      refine th_loop (α := Int × (Nat → Int32)) (pc := 49) (fun x9 => (4 - x9.1).toNat) (fun x9 σ9 H9 l9 ls9 => ok y E σ9 ∧ fr [13] E σ σ9 ∧ fm [3, 5, 35] E σ σ9 a ∧ th_H G b0 σ9 H9 ∧ va_S (th_A b0) s.heap H9 l9 ∧ lv_has ls9 6 [(0, .ref a), (1, .int (I i)), (2, .int (I dp)), (3, .int (I z_1)), (4, .int (I (4 * a50))), (5, .int (I x9.1))] ∧ rng x9.1 ∧ (0 ≤ x9.1) ∧ (x9.1 ≤ 4) ∧ (cpd f3 x9.2 f1 (gI σ a 5) i x9.1) ∧ (gI σ9 a 5 = a50) ∧ (gI σ9 a 32 = a320) ∧ (aF σ9 (ad E a 1) = f1) ∧ (aF σ9 (ad E a 2) = f2) ∧ (aF σ9 (ad E a 35) = f35) ∧ (aF σ9 (ad E a 3) = x9.2)) ?_ (0, f3) σ _ _ _ ⟨hO, hF, hM, hH, hS, lv_sub hl [3, 4, 5, 2, 1, 0] rfl, (show rng 0 from ⟨by decide, by decide⟩), by first | (dsimp only; omega) | omega, by first | (dsimp only; omega) | omega, cpd.zero, ea50, ea320, ef1, ef2, ef35, ef3⟩
      intro x9 σ_J_31 H locs ls hI9 ihJ_31
      obtain ⟨v5q30, F3q29⟩ := x9
      obtain ⟨hO, hF, hM, hH, hS, hl, rv5q30, J_31_0, J_31_1, J_31_2, J_31_3, J_31_4, J_31_5, J_31_6, J_31_7, J_31_8⟩ := hI9
      have hl : lv_has ls 6 [(0, .ref a), (1, .int (I i)), (2, .int (I dp)), (3, .int (I z_1)), (4, .int (I (4 * a50))), (5, .int (I v5q30))] := hl
      have rv5q30 : rng v5q30 := rv5q30
      have J_31_0 : 0 ≤ v5q30 := J_31_0
      have J_31_1 : v5q30 ≤ 4 := J_31_1
      have J_31_2 : cpd f3 F3q29 f1 (gI σ a 5) i v5q30 := J_31_2
      have J_31_3 : gI σ_J_31 a 5 = a50 := J_31_3
      have J_31_4 : gI σ_J_31 a 32 = a320 := J_31_4
      have J_31_5 : aF σ_J_31 (ad E a 1) = f1 := J_31_5
      have J_31_6 : aF σ_J_31 (ad E a 2) = f2 := J_31_6
      have J_31_7 : aF σ_J_31 (ad E a 35) = f35 := J_31_7
      have J_31_8 : aF σ_J_31 (ad E a 3) = F3q29 := J_31_8
      refine lv_iload hx hb dX11_emit_49 (lv_at hl 5 rfl) ?_
      refine lv_iconst (v := I 4) hx hb dX11_emit_51 (by decide) ?_
      refine lv_icmp_ge (tgt := 82) hx hb dX11_emit_52 (by decide) (fun c_32 => ?_) (fun c_32 => ?_)
      · replace c_32 := (I_le (a := 4) (b := v5q30) (show rng 4 from ⟨by decide, by decide⟩) rv5q30).mp c_32
        have hnd_33 : nd f3 F3q29 f1 a50 i := (by have h9 := J_31_2; rw [show gI σ a 5 = a50 by omega] at h9; exact nd.of h9 (by omega) (by omega))
        refine lv_aload_n hx hb dX11_emit_82 rfl (lv_at hl 0 rfl) ?_
        refine lv_dup hx hb dX11_emit_83 rfl ?_
        refine ok.getIc hO h_a (by decide) k13_5 J_31_3 (fun _ _ he hv kk => th_get (ci := 11) (C := RX11) (T := TX11) (N := 66) hx hb hts inX11 hown hK hH he rfl 5 (by decide) fl1 hv dX11_emit_84 kk) ?_
        refine lv_iconst (v := I 1) hx hb dX11_emit_87 (by decide) ?_
        refine lv_iadd hx hb dX11_emit_88 ?_
        refine nq_top (I_add _ _) ?_
        refine ok.putJ hO h_a k13_5 ⟨by omega, by omega⟩ (by omega) (by omega) (fun _ he hl9 kk => th_put (ci := 11) (v := .int (I (a50 + 1))) (ty := .int) (C := RX11) (T := TX11) (N := 66) hx hb hts inX11 tyX11 tyX11_ok nmX11 hown hK hH hS h00 he rfl 5 (by decide) fl1 rfl (by decide +kernel) rfl rfl hl9 dX11_emit_89 kk) (fun σ_s_34 H locs hO hF9 hM9 hg9 ha9 hH hS => ?_)
        replace hM := hM.tu hM9 (by decide)
        replace hF := hF.tu hF9 (by decide)
        have e_35 : gI σ_s_34 a 32 = a320 := (hM9.i (by decide)).trans J_31_4
        have e_36 : aF σ_s_34 (ad E a 1) = f1 := (hM9.a (by decide) (by decide)).trans J_31_5
        have e_37 : aF σ_s_34 (ad E a 2) = f2 := (hM9.a (by decide) (by decide)).trans J_31_6
        have e_38 : aF σ_s_34 (ad E a 35) = f35 := (hM9.a (by decide) (by decide)).trans J_31_7
        have e_39 : aF σ_s_34 (ad E a 3) = F3q29 := (hM9.a (by decide) (by decide)).trans J_31_8
        have e_40 := hg9
        refine lv_iload_n hx hb dX11_emit_92 rfl (lv_at hl 3 rfl) ?_
        refine lv_if_eq (tgt := 151) hx hb dX11_emit_93 (by decide) (fun c_41 => ?_) (fun c_41 => ?_)
        · replace c_41 := (I_eq (a := z_1) (b := 0) rz_1 (show rng 0 from ⟨by decide, by decide⟩)).mp c_41
          refine lv_aload_n hx hb dX11_emit_151 rfl (lv_at hl 0 rfl) ?_
          refine ok.getR hO h_a (by decide) k13_1 (by decide) (fun _ _ he hv kk => th_get (ci := 11) (C := RX11) (T := TX11) (N := 66) hx hb hts inX11 hown hK hH he rfl 1 (by decide) fl2 hv dX11_emit_152 kk) ?_
          refine lv_iload_n hx hb dX11_emit_155 rfl (lv_at hl 1 rfl) ?_
          refine th_calli (va_runS (As := [.ref (ad E a 1), .int (I i)]) (rest := []) ⟨hx, hb, hml, hown, hts⟩ (w_holds l G y b0 σ_s_34 E hO (ad E a 1) 240 f1 (hO.roww h_a k13_1 isA1 e_36 rfl) i (show rng i from ri) (by omega) (by omega) (by omega)) (va_cwS 2 hts gX11_emit_X11_holds rfl rfl rfl (by decide +kernel) ⟨(by first | (simp only [headSpec]; omega) | omega | (dsimp only; omega)), (by first | (simp only [headSpec]; omega) | omega | (dsimp only; omega))⟩) (th_PS hK hH) rfl rfl hl.1 rfl (lv_room (Nat.le_of_ble_eq_true rfl)) dX11_emit_156 ⟨(by first | (simp only [headSpec]; omega) | omega | (dsimp only; omega)), (by first | (simp only [headSpec]; omega) | omega | (dsimp only; omega))⟩) hS (fun z_44 σ_s_43 H locs rz_44 hw_42 hH hS => ?_)
          obtain ⟨e9, bhw_42, hw_42⟩ := hw_42
          replace e9 := e9.symm
          subst e9
          have hw_42 : (z_44 = 1 ∧ 2 ≤ mK f1 i) ∨ (z_44 = 0 ∧ ¬ 2 ≤ mK f1 i) := hw_42
          refine lv_if_eq (tgt := 169) hx hb dX11_emit_159 (by decide) (fun c_45 => ?_) (fun c_45 => ?_)
          · replace c_45 := (I_eq (a := z_44) (b := 0) rz_44 (show rng 0 from ⟨by decide, by decide⟩)).mp c_45
            refine lv_aload_n hx hb dX11_emit_169 rfl (lv_at hl 0 rfl) ?_
            refine ok.getR hO h_a (by decide) k13_3 (by decide) (fun _ _ he hv kk => th_get (ci := 11) (C := RX11) (T := TX11) (N := 66) hx hb hts inX11 hown hK hH he rfl 3 (by decide) fl3 hv dX11_emit_170 kk) ?_
            refine lv_iload hx hb dX11_emit_173 (lv_at hl 4 rfl) ?_
            refine lv_iconst (v := I 3) hx hb dX11_emit_175 (by decide) ?_
            refine lv_iadd hx hb dX11_emit_176 ?_
            refine nq_top (I_add _ _) ?_
            refine lv_aload_n hx hb dX11_emit_177 rfl (lv_at hl 0 rfl) ?_
            refine ok.getIc hO h_a (by decide) k13_5 e_40 (fun _ _ he hv kk => th_get (ci := 11) (C := RX11) (T := TX11) (N := 66) hx hb hts inX11 hown hK hH he rfl 5 (by decide) fl1 hv dX11_emit_178 kk) ?_
            refine lv_iload hx hb dX11_emit_181 (lv_at hl 4 rfl) ?_
            refine lv_iconst (v := I 4) hx hb dX11_emit_183 (by decide) ?_
            refine lv_idiv hx hb dX11_emit_184 (by decide) ?_
            refine th_div (n := 4) ⟨by omega, by omega⟩ (by omega) (by decide) (fun z_46 rz_46 hz_46 => ?_)
            refine lv_isub hx hb dX11_emit_185 ?_
            refine nq_top (I_sub _ _) ?_
            refine m_iast hx hb hK hH hS h00 hO h_a k13_3 isA1 (by decide) e_39 ⟨by omega, by omega⟩ (by omega) (by omega) ⟨by omega, by omega⟩ el1 dX11_emit_186 (fun σ_s_47 H locs hO hF9 hM9 ha9 hH hS => ?_)
            replace hM := hM.tu hM9 (by decide)
            replace hF := hF.tu hF9 (by decide)
            have e_48 : gI σ_s_47 a 32 = a320 := (hM9.i (by decide)).trans e_35
            have e_49 : aF σ_s_47 (ad E a 1) = f1 := (hM9.a (by decide) (by decide)).trans e_36
            have e_50 : aF σ_s_47 (ad E a 2) = f2 := (hM9.a (by decide) (by decide)).trans e_37
            have e_51 : aF σ_s_47 (ad E a 35) = f35 := (hM9.a (by decide) (by decide)).trans e_38
            have e_52 : gI σ_s_47 a 5 = a50 + 1 := (hM9.i (by decide)).trans e_40
            obtain ⟨g_53, dg_53⟩ : ∃ g9, g9 = upd F3q29 (4 * a50 + 3).toNat (I (a50 + 1 - z_46)) := ⟨_, rfl⟩
            rw [← dg_53] at ha9
            have ef_54 := ha9
            exact th_vret hx hb hr hlocks hH hS ⟨hO, hF, hM, by have hn8 := hnd_33; have h9 := (emf.leaf (f1 := f1) (g := F3q29) (i := i) (m := a50) (by omega)).node hn8.2.1 hn8.2.2 hn8.1 dg_53 (by omega) (by omega) ⟨by omega, by omega⟩ (by omega); rw [show aF σ_s_47 (ad E a 3) = g_53 from ef_54, show aF σ_s_47 (ad E a 35) = f35 from e_51, show gI σ a 5 = a50 by omega]; exact ⟨by rw [show gI σ_s_47 a 5 = a50 + 1 by omega]; exact h9.1, by omega, ofr.rf⟩⟩ dX11_emit_187
          · replace c_45 := mt (I_eq (a := z_44) (b := 0) rz_44 (show rng 0 from ⟨by decide, by decide⟩)).mpr c_45
            refine lv_aload_n hx hb dX11_emit_162 rfl (lv_at hl 0 rfl) ?_
            refine lv_iload_n hx hb dX11_emit_163 rfl (lv_at hl 1 rfl) ?_
            refine lv_iload_n hx hb dX11_emit_164 rfl (lv_at hl 3 rfl) ?_
            refine lv_iload_n hx hb dX11_emit_165 rfl (lv_at hl 2 rfl) ?_
            obtain ⟨_, hc_55⟩ := hO.cell h_a (by decide) (ci := 11) rfl
            refine th_callv (va_runV (As := [.int (I i), .int (I z_1), .int (I dp)]) (rest := []) ⟨hx, hb, hml, hown, hts⟩ (m_emitWithin n ih l G y b0 σ_s_34 E hO a h_a i (show rng i from ri) (by omega) (by omega) z_1 (show rng z_1 from rz_1) (by omega) (by omega) dp (show rng dp from rdp) (by omega) (by omega) f1 e_36 f2 e_37 F3q29 e_39 f35 e_38 (hy0) (by omega) (hy2) ((by rw [show gI σ_s_34 a 32 = gI σ a 32 by omega]; exact hy3)) (by omega) (hy5) (by omega) (by omega) (by omega)) (cwV 3 hts gX11_emit_X11_emitWithin rfl rfl rfl (by decide +kernel) ⟨(by first | (simp only [headSpec]; omega) | omega | (dsimp only; omega)), (by first | (simp only [headSpec]; omega) | omega | (dsimp only; omega))⟩) (th_PV hK hH rfl hc_55) rfl rfl hl.1 rfl (lv_room (Nat.le_of_ble_eq_true rfl)) dX11_emit_166 ⟨(by first | (simp only [headSpec]; omega) | omega | (dsimp only; omega)), (by first | (simp only [headSpec]; omega) | omega | (dsimp only; omega))⟩) hS (fun σ_s_57 H locs hw_56 hH hS => ?_)
            obtain ⟨hO9, hF9, hM9, hw_56⟩ := hw_56
            replace hM := hM.tu hM9 (by decide)
            replace hF := hF.tu hF9 (by decide)
            have e_58 : gI σ_s_57 a 32 = a320 := (hM9.i (by decide)).trans e_35
            have e_59 : aF σ_s_57 (ad E a 1) = f1 := (hM9.a (by decide) (by decide)).trans e_36
            have e_60 : aF σ_s_57 (ad E a 2) = f2 := (hM9.a (by decide) (by decide)).trans e_37
            replace hO := hO9
            generalize ef_62 : aF σ_s_57 (ad E a 3) = g_61 at hw_56
            generalize ef_64 : aF σ_s_57 (ad E a 35) = g_63 at hw_56
            have hw_56 : emf f1 g_61 i (gI σ_s_34 a 5 - 1) (gI σ_s_57 a 5) ∧ same F3q29 g_61 0 (gI σ_s_34 a 5) 0 ∧ ofr f35 g_63 (60 * dp) := hw_56
            refine lv_aload_n hx hb dX11_emit_169 rfl (lv_at hl 0 rfl) ?_
            refine ok.getR hO h_a (by decide) k13_3 (by decide) (fun _ _ he hv kk => th_get (ci := 11) (C := RX11) (T := TX11) (N := 66) hx hb hts inX11 hown hK hH he rfl 3 (by decide) fl3 hv dX11_emit_170 kk) ?_
            refine lv_iload hx hb dX11_emit_173 (lv_at hl 4 rfl) ?_
            refine lv_iconst (v := I 3) hx hb dX11_emit_175 (by decide) ?_
            refine lv_iadd hx hb dX11_emit_176 ?_
            refine nq_top (I_add _ _) ?_
            refine lv_aload_n hx hb dX11_emit_177 rfl (lv_at hl 0 rfl) ?_
            refine ok.getI hO h_a (by decide) k13_5 (fun _ _ he hv kk => th_get (ci := 11) (C := RX11) (T := TX11) (N := 66) hx hb hts inX11 hown hK hH he rfl 5 (by decide) fl1 hv dX11_emit_178 kk) (fun z_65 e_66 rz_65 lz_65 uz_65 => ?_)
            refine lv_iload hx hb dX11_emit_181 (lv_at hl 4 rfl) ?_
            refine lv_iconst (v := I 4) hx hb dX11_emit_183 (by decide) ?_
            refine lv_idiv hx hb dX11_emit_184 (by decide) ?_
            refine th_div (n := 4) ⟨by omega, by omega⟩ (by omega) (by decide) (fun z_67 rz_67 hz_67 => ?_)
            refine lv_isub hx hb dX11_emit_185 ?_
            refine nq_top (I_sub _ _) ?_
            refine m_iast hx hb hK hH hS h00 hO h_a k13_3 isA1 (by decide) ef_62 ⟨by omega, by omega⟩ (by omega) (by omega) ⟨by omega, by omega⟩ el1 dX11_emit_186 (fun σ_s_68 H locs hO hF9 hM9 ha9 hH hS => ?_)
            replace hM := hM.tu hM9 (by decide)
            replace hF := hF.tu hF9 (by decide)
            have e_69 : gI σ_s_68 a 32 = a320 := (hM9.i (by decide)).trans e_58
            have e_70 : aF σ_s_68 (ad E a 1) = f1 := (hM9.a (by decide) (by decide)).trans e_59
            have e_71 : aF σ_s_68 (ad E a 2) = f2 := (hM9.a (by decide) (by decide)).trans e_60
            have e_72 : aF σ_s_68 (ad E a 35) = g_63 := (hM9.a (by decide) (by decide)).trans ef_64
            have e_73 : gI σ_s_68 a 5 = z_65 := (hM9.i (by decide)).trans e_66
            obtain ⟨g_74, dg_74⟩ : ∃ g9, g9 = upd g_61 (4 * a50 + 3).toNat (I (z_65 - z_67)) := ⟨_, rfl⟩
            rw [← dg_74] at ha9
            have ef_75 := ha9
            exact th_vret hx hb hr hlocks hH hS ⟨hO, hF, hM, by have hn8 := (hnd_33.to (by have h9 := hw_56.2.1; rw [show gI σ_s_34 a 5 = a50 + 1 by omega] at h9; exact h9) (by omega)); have hx8 : emf f1 _ i a50 _ := (by have h9 := hw_56.1; rw [show gI σ_s_34 a 5 - 1 = a50 by omega] at h9; exact h9); have h9 := hx8.node hn8.2.1 hn8.2.2 hn8.1 dg_74 (by omega) (by omega) (by first | exact ⟨by omega, by omega⟩) (by omega); rw [show aF σ_s_68 (ad E a 3) = g_74 from ef_75, show aF σ_s_68 (ad E a 35) = g_63 from e_72, show gI σ a 5 = a50 by omega]; exact ⟨by rw [show gI σ_s_68 a 5 = gI σ_s_57 a 5 by omega]; exact h9.1, by omega, hw_56.2.2⟩⟩ dX11_emit_187
        · replace c_41 := mt (I_eq (a := z_1) (b := 0) rz_1 (show rng 0 from ⟨by decide, by decide⟩)).mpr c_41
          refine lv_aload_n hx hb dX11_emit_96 rfl (lv_at hl 0 rfl) ?_
          refine ok.getIc hO h_a (by decide) k13_32 e_35 (fun _ _ he hv kk => th_get (ci := 11) (C := RX11) (T := TX11) (N := 66) hx hb hts inX11 hown hK hH he rfl 32 (by decide) fl4 hv dX11_emit_97 kk) ?_
          refine lv_iconst (v := I 3) hx hb dX11_emit_100 (by decide) ?_
          refine lv_icmp_ne (tgt := 151) hx hb dX11_emit_101 (by decide) (fun c_76 => ?_) (fun c_76 => ?_)
          · replace c_76 := mt (I_eq (a := a320) (b := 3) ra320 (show rng 3 from ⟨by decide, by decide⟩)).mpr c_76
            refine lv_aload_n hx hb dX11_emit_151 rfl (lv_at hl 0 rfl) ?_
            refine ok.getR hO h_a (by decide) k13_1 (by decide) (fun _ _ he hv kk => th_get (ci := 11) (C := RX11) (T := TX11) (N := 66) hx hb hts inX11 hown hK hH he rfl 1 (by decide) fl2 hv dX11_emit_152 kk) ?_
            refine lv_iload_n hx hb dX11_emit_155 rfl (lv_at hl 1 rfl) ?_
            refine th_calli (va_runS (As := [.ref (ad E a 1), .int (I i)]) (rest := []) ⟨hx, hb, hml, hown, hts⟩ (w_holds l G y b0 σ_s_34 E hO (ad E a 1) 240 f1 (hO.roww h_a k13_1 isA1 e_36 rfl) i (show rng i from ri) (by omega) (by omega) (by omega)) (va_cwS 2 hts gX11_emit_X11_holds rfl rfl rfl (by decide +kernel) ⟨(by first | (simp only [headSpec]; omega) | omega | (dsimp only; omega)), (by first | (simp only [headSpec]; omega) | omega | (dsimp only; omega))⟩) (th_PS hK hH) rfl rfl hl.1 rfl (lv_room (Nat.le_of_ble_eq_true rfl)) dX11_emit_156 ⟨(by first | (simp only [headSpec]; omega) | omega | (dsimp only; omega)), (by first | (simp only [headSpec]; omega) | omega | (dsimp only; omega))⟩) hS (fun z_79 σ_s_78 H locs rz_79 hw_77 hH hS => ?_)
            obtain ⟨e9, bhw_77, hw_77⟩ := hw_77
            replace e9 := e9.symm
            subst e9
            have hw_77 : (z_79 = 1 ∧ 2 ≤ mK f1 i) ∨ (z_79 = 0 ∧ ¬ 2 ≤ mK f1 i) := hw_77
            refine lv_if_eq (tgt := 169) hx hb dX11_emit_159 (by decide) (fun c_80 => ?_) (fun c_80 => ?_)
            · replace c_80 := (I_eq (a := z_79) (b := 0) rz_79 (show rng 0 from ⟨by decide, by decide⟩)).mp c_80
              refine lv_aload_n hx hb dX11_emit_169 rfl (lv_at hl 0 rfl) ?_
              refine ok.getR hO h_a (by decide) k13_3 (by decide) (fun _ _ he hv kk => th_get (ci := 11) (C := RX11) (T := TX11) (N := 66) hx hb hts inX11 hown hK hH he rfl 3 (by decide) fl3 hv dX11_emit_170 kk) ?_
              refine lv_iload hx hb dX11_emit_173 (lv_at hl 4 rfl) ?_
              refine lv_iconst (v := I 3) hx hb dX11_emit_175 (by decide) ?_
              refine lv_iadd hx hb dX11_emit_176 ?_
              refine nq_top (I_add _ _) ?_
              refine lv_aload_n hx hb dX11_emit_177 rfl (lv_at hl 0 rfl) ?_
              refine ok.getIc hO h_a (by decide) k13_5 e_40 (fun _ _ he hv kk => th_get (ci := 11) (C := RX11) (T := TX11) (N := 66) hx hb hts inX11 hown hK hH he rfl 5 (by decide) fl1 hv dX11_emit_178 kk) ?_
              refine lv_iload hx hb dX11_emit_181 (lv_at hl 4 rfl) ?_
              refine lv_iconst (v := I 4) hx hb dX11_emit_183 (by decide) ?_
              refine lv_idiv hx hb dX11_emit_184 (by decide) ?_
              refine th_div (n := 4) ⟨by omega, by omega⟩ (by omega) (by decide) (fun z_81 rz_81 hz_81 => ?_)
              refine lv_isub hx hb dX11_emit_185 ?_
              refine nq_top (I_sub _ _) ?_
              refine m_iast hx hb hK hH hS h00 hO h_a k13_3 isA1 (by decide) e_39 ⟨by omega, by omega⟩ (by omega) (by omega) ⟨by omega, by omega⟩ el1 dX11_emit_186 (fun σ_s_82 H locs hO hF9 hM9 ha9 hH hS => ?_)
              replace hM := hM.tu hM9 (by decide)
              replace hF := hF.tu hF9 (by decide)
              have e_83 : gI σ_s_82 a 32 = a320 := (hM9.i (by decide)).trans e_35
              have e_84 : aF σ_s_82 (ad E a 1) = f1 := (hM9.a (by decide) (by decide)).trans e_36
              have e_85 : aF σ_s_82 (ad E a 2) = f2 := (hM9.a (by decide) (by decide)).trans e_37
              have e_86 : aF σ_s_82 (ad E a 35) = f35 := (hM9.a (by decide) (by decide)).trans e_38
              have e_87 : gI σ_s_82 a 5 = a50 + 1 := (hM9.i (by decide)).trans e_40
              obtain ⟨g_88, dg_88⟩ : ∃ g9, g9 = upd F3q29 (4 * a50 + 3).toNat (I (a50 + 1 - z_81)) := ⟨_, rfl⟩
              rw [← dg_88] at ha9
              have ef_89 := ha9
              exact th_vret hx hb hr hlocks hH hS ⟨hO, hF, hM, by have hn8 := hnd_33; have h9 := (emf.leaf (f1 := f1) (g := F3q29) (i := i) (m := a50) (by omega)).node hn8.2.1 hn8.2.2 hn8.1 dg_88 (by omega) (by omega) ⟨by omega, by omega⟩ (by omega); rw [show aF σ_s_82 (ad E a 3) = g_88 from ef_89, show aF σ_s_82 (ad E a 35) = f35 from e_86, show gI σ a 5 = a50 by omega]; exact ⟨by rw [show gI σ_s_82 a 5 = a50 + 1 by omega]; exact h9.1, by omega, ofr.rf⟩⟩ dX11_emit_187
            · replace c_80 := mt (I_eq (a := z_79) (b := 0) rz_79 (show rng 0 from ⟨by decide, by decide⟩)).mpr c_80
              refine lv_aload_n hx hb dX11_emit_162 rfl (lv_at hl 0 rfl) ?_
              refine lv_iload_n hx hb dX11_emit_163 rfl (lv_at hl 1 rfl) ?_
              refine lv_iload_n hx hb dX11_emit_164 rfl (lv_at hl 3 rfl) ?_
              refine lv_iload_n hx hb dX11_emit_165 rfl (lv_at hl 2 rfl) ?_
              obtain ⟨_, hc_90⟩ := hO.cell h_a (by decide) (ci := 11) rfl
              refine th_callv (va_runV (As := [.int (I i), .int (I z_1), .int (I dp)]) (rest := []) ⟨hx, hb, hml, hown, hts⟩ (m_emitWithin n ih l G y b0 σ_s_34 E hO a h_a i (show rng i from ri) (by omega) (by omega) z_1 (show rng z_1 from rz_1) (by omega) (by omega) dp (show rng dp from rdp) (by omega) (by omega) f1 e_36 f2 e_37 F3q29 e_39 f35 e_38 (hy0) (by omega) (hy2) ((by rw [show gI σ_s_34 a 32 = gI σ a 32 by omega]; exact hy3)) (by omega) (hy5) (by omega) (by omega) (by omega)) (cwV 3 hts gX11_emit_X11_emitWithin rfl rfl rfl (by decide +kernel) ⟨(by first | (simp only [headSpec]; omega) | omega | (dsimp only; omega)), (by first | (simp only [headSpec]; omega) | omega | (dsimp only; omega))⟩) (th_PV hK hH rfl hc_90) rfl rfl hl.1 rfl (lv_room (Nat.le_of_ble_eq_true rfl)) dX11_emit_166 ⟨(by first | (simp only [headSpec]; omega) | omega | (dsimp only; omega)), (by first | (simp only [headSpec]; omega) | omega | (dsimp only; omega))⟩) hS (fun σ_s_92 H locs hw_91 hH hS => ?_)
              obtain ⟨hO9, hF9, hM9, hw_91⟩ := hw_91
              replace hM := hM.tu hM9 (by decide)
              replace hF := hF.tu hF9 (by decide)
              have e_93 : gI σ_s_92 a 32 = a320 := (hM9.i (by decide)).trans e_35
              have e_94 : aF σ_s_92 (ad E a 1) = f1 := (hM9.a (by decide) (by decide)).trans e_36
              have e_95 : aF σ_s_92 (ad E a 2) = f2 := (hM9.a (by decide) (by decide)).trans e_37
              replace hO := hO9
              generalize ef_97 : aF σ_s_92 (ad E a 3) = g_96 at hw_91
              generalize ef_99 : aF σ_s_92 (ad E a 35) = g_98 at hw_91
              have hw_91 : emf f1 g_96 i (gI σ_s_34 a 5 - 1) (gI σ_s_92 a 5) ∧ same F3q29 g_96 0 (gI σ_s_34 a 5) 0 ∧ ofr f35 g_98 (60 * dp) := hw_91
              refine lv_aload_n hx hb dX11_emit_169 rfl (lv_at hl 0 rfl) ?_
              refine ok.getR hO h_a (by decide) k13_3 (by decide) (fun _ _ he hv kk => th_get (ci := 11) (C := RX11) (T := TX11) (N := 66) hx hb hts inX11 hown hK hH he rfl 3 (by decide) fl3 hv dX11_emit_170 kk) ?_
              refine lv_iload hx hb dX11_emit_173 (lv_at hl 4 rfl) ?_
              refine lv_iconst (v := I 3) hx hb dX11_emit_175 (by decide) ?_
              refine lv_iadd hx hb dX11_emit_176 ?_
              refine nq_top (I_add _ _) ?_
              refine lv_aload_n hx hb dX11_emit_177 rfl (lv_at hl 0 rfl) ?_
              refine ok.getI hO h_a (by decide) k13_5 (fun _ _ he hv kk => th_get (ci := 11) (C := RX11) (T := TX11) (N := 66) hx hb hts inX11 hown hK hH he rfl 5 (by decide) fl1 hv dX11_emit_178 kk) (fun z_100 e_101 rz_100 lz_100 uz_100 => ?_)
              refine lv_iload hx hb dX11_emit_181 (lv_at hl 4 rfl) ?_
              refine lv_iconst (v := I 4) hx hb dX11_emit_183 (by decide) ?_
              refine lv_idiv hx hb dX11_emit_184 (by decide) ?_
              refine th_div (n := 4) ⟨by omega, by omega⟩ (by omega) (by decide) (fun z_102 rz_102 hz_102 => ?_)
              refine lv_isub hx hb dX11_emit_185 ?_
              refine nq_top (I_sub _ _) ?_
              refine m_iast hx hb hK hH hS h00 hO h_a k13_3 isA1 (by decide) ef_97 ⟨by omega, by omega⟩ (by omega) (by omega) ⟨by omega, by omega⟩ el1 dX11_emit_186 (fun σ_s_103 H locs hO hF9 hM9 ha9 hH hS => ?_)
              replace hM := hM.tu hM9 (by decide)
              replace hF := hF.tu hF9 (by decide)
              have e_104 : gI σ_s_103 a 32 = a320 := (hM9.i (by decide)).trans e_93
              have e_105 : aF σ_s_103 (ad E a 1) = f1 := (hM9.a (by decide) (by decide)).trans e_94
              have e_106 : aF σ_s_103 (ad E a 2) = f2 := (hM9.a (by decide) (by decide)).trans e_95
              have e_107 : aF σ_s_103 (ad E a 35) = g_98 := (hM9.a (by decide) (by decide)).trans ef_99
              have e_108 : gI σ_s_103 a 5 = z_100 := (hM9.i (by decide)).trans e_101
              obtain ⟨g_109, dg_109⟩ : ∃ g9, g9 = upd g_96 (4 * a50 + 3).toNat (I (z_100 - z_102)) := ⟨_, rfl⟩
              rw [← dg_109] at ha9
              have ef_110 := ha9
              exact th_vret hx hb hr hlocks hH hS ⟨hO, hF, hM, by have hn8 := (hnd_33.to (by have h9 := hw_91.2.1; rw [show gI σ_s_34 a 5 = a50 + 1 by omega] at h9; exact h9) (by omega)); have hx8 : emf f1 _ i a50 _ := (by have h9 := hw_91.1; rw [show gI σ_s_34 a 5 - 1 = a50 by omega] at h9; exact h9); have h9 := hx8.node hn8.2.1 hn8.2.2 hn8.1 dg_109 (by omega) (by omega) (by first | exact ⟨by omega, by omega⟩) (by omega); rw [show aF σ_s_103 (ad E a 3) = g_109 from ef_110, show aF σ_s_103 (ad E a 35) = g_98 from e_107, show gI σ a 5 = a50 by omega]; exact ⟨by rw [show gI σ_s_103 a 5 = gI σ_s_92 a 5 by omega]; exact h9.1, by omega, hw_91.2.2⟩⟩ dX11_emit_187
          · replace c_76 := (I_eq (a := a320) (b := 3) ra320 (show rng 3 from ⟨by decide, by decide⟩)).mp c_76
            refine lv_aload_n hx hb dX11_emit_104 rfl (lv_at hl 0 rfl) ?_
            refine ok.getR hO h_a (by decide) k13_1 (by decide) (fun _ _ he hv kk => th_get (ci := 11) (C := RX11) (T := TX11) (N := 66) hx hb hts inX11 hown hK hH he rfl 1 (by decide) fl2 hv dX11_emit_105 kk) ?_
            refine lv_iload_n hx hb dX11_emit_108 rfl (lv_at hl 1 rfl) ?_
            refine th_calli (va_runS (As := [.ref (ad E a 1), .int (I i)]) (rest := []) ⟨hx, hb, hml, hown, hts⟩ (w_kind l G y b0 σ_s_34 E hO (ad E a 1) 240 f1 (hO.roww h_a k13_1 isA1 e_36 rfl) i (show rng i from ri) (by omega) (by omega) (by omega)) (va_cwS 2 hts gX11_emit_X11_kind rfl rfl rfl (by decide +kernel) ⟨(by first | (simp only [headSpec]; omega) | omega | (dsimp only; omega)), (by first | (simp only [headSpec]; omega) | omega | (dsimp only; omega))⟩) (th_PS hK hH) rfl rfl hl.1 rfl (lv_room (Nat.le_of_ble_eq_true rfl)) dX11_emit_109 ⟨(by first | (simp only [headSpec]; omega) | omega | (dsimp only; omega)), (by first | (simp only [headSpec]; omega) | omega | (dsimp only; omega))⟩) hS (fun z_113 σ_s_112 H locs rz_113 hw_111 hH hS => ?_)
            obtain ⟨e9, hw_111⟩ := hw_111
            replace e9 := e9.symm
            subst e9
            have hw_111 : z_113 = mK f1 i := hw_111
            refine lv_if_ne (tgt := 151) hx hb dX11_emit_112 (by decide) (fun c_114 => ?_) (fun c_114 => ?_)
            · replace c_114 := mt (I_eq (a := z_113) (b := 0) rz_113 (show rng 0 from ⟨by decide, by decide⟩)).mpr c_114
              refine lv_aload_n hx hb dX11_emit_151 rfl (lv_at hl 0 rfl) ?_
              refine ok.getR hO h_a (by decide) k13_1 (by decide) (fun _ _ he hv kk => th_get (ci := 11) (C := RX11) (T := TX11) (N := 66) hx hb hts inX11 hown hK hH he rfl 1 (by decide) fl2 hv dX11_emit_152 kk) ?_
              refine lv_iload_n hx hb dX11_emit_155 rfl (lv_at hl 1 rfl) ?_
              refine th_calli (va_runS (As := [.ref (ad E a 1), .int (I i)]) (rest := []) ⟨hx, hb, hml, hown, hts⟩ (w_holds l G y b0 σ_s_34 E hO (ad E a 1) 240 f1 (hO.roww h_a k13_1 isA1 e_36 rfl) i (show rng i from ri) (by omega) (by omega) (by omega)) (va_cwS 2 hts gX11_emit_X11_holds rfl rfl rfl (by decide +kernel) ⟨(by first | (simp only [headSpec]; omega) | omega | (dsimp only; omega)), (by first | (simp only [headSpec]; omega) | omega | (dsimp only; omega))⟩) (th_PS hK hH) rfl rfl hl.1 rfl (lv_room (Nat.le_of_ble_eq_true rfl)) dX11_emit_156 ⟨(by first | (simp only [headSpec]; omega) | omega | (dsimp only; omega)), (by first | (simp only [headSpec]; omega) | omega | (dsimp only; omega))⟩) hS (fun z_117 σ_s_116 H locs rz_117 hw_115 hH hS => ?_)
              obtain ⟨e9, bhw_115, hw_115⟩ := hw_115
              replace e9 := e9.symm
              subst e9
              have hw_115 : (z_117 = 1 ∧ 2 ≤ mK f1 i) ∨ (z_117 = 0 ∧ ¬ 2 ≤ mK f1 i) := hw_115
              refine lv_if_eq (tgt := 169) hx hb dX11_emit_159 (by decide) (fun c_118 => ?_) (fun c_118 => ?_)
              · replace c_118 := (I_eq (a := z_117) (b := 0) rz_117 (show rng 0 from ⟨by decide, by decide⟩)).mp c_118
                refine lv_aload_n hx hb dX11_emit_169 rfl (lv_at hl 0 rfl) ?_
                refine ok.getR hO h_a (by decide) k13_3 (by decide) (fun _ _ he hv kk => th_get (ci := 11) (C := RX11) (T := TX11) (N := 66) hx hb hts inX11 hown hK hH he rfl 3 (by decide) fl3 hv dX11_emit_170 kk) ?_
                refine lv_iload hx hb dX11_emit_173 (lv_at hl 4 rfl) ?_
                refine lv_iconst (v := I 3) hx hb dX11_emit_175 (by decide) ?_
                refine lv_iadd hx hb dX11_emit_176 ?_
                refine nq_top (I_add _ _) ?_
                refine lv_aload_n hx hb dX11_emit_177 rfl (lv_at hl 0 rfl) ?_
                refine ok.getIc hO h_a (by decide) k13_5 e_40 (fun _ _ he hv kk => th_get (ci := 11) (C := RX11) (T := TX11) (N := 66) hx hb hts inX11 hown hK hH he rfl 5 (by decide) fl1 hv dX11_emit_178 kk) ?_
                refine lv_iload hx hb dX11_emit_181 (lv_at hl 4 rfl) ?_
                refine lv_iconst (v := I 4) hx hb dX11_emit_183 (by decide) ?_
                refine lv_idiv hx hb dX11_emit_184 (by decide) ?_
                refine th_div (n := 4) ⟨by omega, by omega⟩ (by omega) (by decide) (fun z_119 rz_119 hz_119 => ?_)
                refine lv_isub hx hb dX11_emit_185 ?_
                refine nq_top (I_sub _ _) ?_
                refine m_iast hx hb hK hH hS h00 hO h_a k13_3 isA1 (by decide) e_39 ⟨by omega, by omega⟩ (by omega) (by omega) ⟨by omega, by omega⟩ el1 dX11_emit_186 (fun σ_s_120 H locs hO hF9 hM9 ha9 hH hS => ?_)
                replace hM := hM.tu hM9 (by decide)
                replace hF := hF.tu hF9 (by decide)
                have e_121 : gI σ_s_120 a 32 = a320 := (hM9.i (by decide)).trans e_35
                have e_122 : aF σ_s_120 (ad E a 1) = f1 := (hM9.a (by decide) (by decide)).trans e_36
                have e_123 : aF σ_s_120 (ad E a 2) = f2 := (hM9.a (by decide) (by decide)).trans e_37
                have e_124 : aF σ_s_120 (ad E a 35) = f35 := (hM9.a (by decide) (by decide)).trans e_38
                have e_125 : gI σ_s_120 a 5 = a50 + 1 := (hM9.i (by decide)).trans e_40
                obtain ⟨g_126, dg_126⟩ : ∃ g9, g9 = upd F3q29 (4 * a50 + 3).toNat (I (a50 + 1 - z_119)) := ⟨_, rfl⟩
                rw [← dg_126] at ha9
                have ef_127 := ha9
                exact th_vret hx hb hr hlocks hH hS ⟨hO, hF, hM, by have hn8 := hnd_33; have h9 := (emf.leaf (f1 := f1) (g := F3q29) (i := i) (m := a50) (by omega)).node hn8.2.1 hn8.2.2 hn8.1 dg_126 (by omega) (by omega) ⟨by omega, by omega⟩ (by omega); rw [show aF σ_s_120 (ad E a 3) = g_126 from ef_127, show aF σ_s_120 (ad E a 35) = f35 from e_124, show gI σ a 5 = a50 by omega]; exact ⟨by rw [show gI σ_s_120 a 5 = a50 + 1 by omega]; exact h9.1, by omega, ofr.rf⟩⟩ dX11_emit_187
              · replace c_118 := mt (I_eq (a := z_117) (b := 0) rz_117 (show rng 0 from ⟨by decide, by decide⟩)).mpr c_118
                refine lv_aload_n hx hb dX11_emit_162 rfl (lv_at hl 0 rfl) ?_
                refine lv_iload_n hx hb dX11_emit_163 rfl (lv_at hl 1 rfl) ?_
                refine lv_iload_n hx hb dX11_emit_164 rfl (lv_at hl 3 rfl) ?_
                refine lv_iload_n hx hb dX11_emit_165 rfl (lv_at hl 2 rfl) ?_
                obtain ⟨_, hc_128⟩ := hO.cell h_a (by decide) (ci := 11) rfl
                refine th_callv (va_runV (As := [.int (I i), .int (I z_1), .int (I dp)]) (rest := []) ⟨hx, hb, hml, hown, hts⟩ (m_emitWithin n ih l G y b0 σ_s_34 E hO a h_a i (show rng i from ri) (by omega) (by omega) z_1 (show rng z_1 from rz_1) (by omega) (by omega) dp (show rng dp from rdp) (by omega) (by omega) f1 e_36 f2 e_37 F3q29 e_39 f35 e_38 (hy0) (by omega) (hy2) ((by rw [show gI σ_s_34 a 32 = gI σ a 32 by omega]; exact hy3)) (by omega) (hy5) (by omega) (by omega) (by omega)) (cwV 3 hts gX11_emit_X11_emitWithin rfl rfl rfl (by decide +kernel) ⟨(by first | (simp only [headSpec]; omega) | omega | (dsimp only; omega)), (by first | (simp only [headSpec]; omega) | omega | (dsimp only; omega))⟩) (th_PV hK hH rfl hc_128) rfl rfl hl.1 rfl (lv_room (Nat.le_of_ble_eq_true rfl)) dX11_emit_166 ⟨(by first | (simp only [headSpec]; omega) | omega | (dsimp only; omega)), (by first | (simp only [headSpec]; omega) | omega | (dsimp only; omega))⟩) hS (fun σ_s_130 H locs hw_129 hH hS => ?_)
                obtain ⟨hO9, hF9, hM9, hw_129⟩ := hw_129
                replace hM := hM.tu hM9 (by decide)
                replace hF := hF.tu hF9 (by decide)
                have e_131 : gI σ_s_130 a 32 = a320 := (hM9.i (by decide)).trans e_35
                have e_132 : aF σ_s_130 (ad E a 1) = f1 := (hM9.a (by decide) (by decide)).trans e_36
                have e_133 : aF σ_s_130 (ad E a 2) = f2 := (hM9.a (by decide) (by decide)).trans e_37
                replace hO := hO9
                generalize ef_135 : aF σ_s_130 (ad E a 3) = g_134 at hw_129
                generalize ef_137 : aF σ_s_130 (ad E a 35) = g_136 at hw_129
                have hw_129 : emf f1 g_134 i (gI σ_s_34 a 5 - 1) (gI σ_s_130 a 5) ∧ same F3q29 g_134 0 (gI σ_s_34 a 5) 0 ∧ ofr f35 g_136 (60 * dp) := hw_129
                refine lv_aload_n hx hb dX11_emit_169 rfl (lv_at hl 0 rfl) ?_
                refine ok.getR hO h_a (by decide) k13_3 (by decide) (fun _ _ he hv kk => th_get (ci := 11) (C := RX11) (T := TX11) (N := 66) hx hb hts inX11 hown hK hH he rfl 3 (by decide) fl3 hv dX11_emit_170 kk) ?_
                refine lv_iload hx hb dX11_emit_173 (lv_at hl 4 rfl) ?_
                refine lv_iconst (v := I 3) hx hb dX11_emit_175 (by decide) ?_
                refine lv_iadd hx hb dX11_emit_176 ?_
                refine nq_top (I_add _ _) ?_
                refine lv_aload_n hx hb dX11_emit_177 rfl (lv_at hl 0 rfl) ?_
                refine ok.getI hO h_a (by decide) k13_5 (fun _ _ he hv kk => th_get (ci := 11) (C := RX11) (T := TX11) (N := 66) hx hb hts inX11 hown hK hH he rfl 5 (by decide) fl1 hv dX11_emit_178 kk) (fun z_138 e_139 rz_138 lz_138 uz_138 => ?_)
                refine lv_iload hx hb dX11_emit_181 (lv_at hl 4 rfl) ?_
                refine lv_iconst (v := I 4) hx hb dX11_emit_183 (by decide) ?_
                refine lv_idiv hx hb dX11_emit_184 (by decide) ?_
                refine th_div (n := 4) ⟨by omega, by omega⟩ (by omega) (by decide) (fun z_140 rz_140 hz_140 => ?_)
                refine lv_isub hx hb dX11_emit_185 ?_
                refine nq_top (I_sub _ _) ?_
                refine m_iast hx hb hK hH hS h00 hO h_a k13_3 isA1 (by decide) ef_135 ⟨by omega, by omega⟩ (by omega) (by omega) ⟨by omega, by omega⟩ el1 dX11_emit_186 (fun σ_s_141 H locs hO hF9 hM9 ha9 hH hS => ?_)
                replace hM := hM.tu hM9 (by decide)
                replace hF := hF.tu hF9 (by decide)
                have e_142 : gI σ_s_141 a 32 = a320 := (hM9.i (by decide)).trans e_131
                have e_143 : aF σ_s_141 (ad E a 1) = f1 := (hM9.a (by decide) (by decide)).trans e_132
                have e_144 : aF σ_s_141 (ad E a 2) = f2 := (hM9.a (by decide) (by decide)).trans e_133
                have e_145 : aF σ_s_141 (ad E a 35) = g_136 := (hM9.a (by decide) (by decide)).trans ef_137
                have e_146 : gI σ_s_141 a 5 = z_138 := (hM9.i (by decide)).trans e_139
                obtain ⟨g_147, dg_147⟩ : ∃ g9, g9 = upd g_134 (4 * a50 + 3).toNat (I (z_138 - z_140)) := ⟨_, rfl⟩
                rw [← dg_147] at ha9
                have ef_148 := ha9
                exact th_vret hx hb hr hlocks hH hS ⟨hO, hF, hM, by have hn8 := (hnd_33.to (by have h9 := hw_129.2.1; rw [show gI σ_s_34 a 5 = a50 + 1 by omega] at h9; exact h9) (by omega)); have hx8 : emf f1 _ i a50 _ := (by have h9 := hw_129.1; rw [show gI σ_s_34 a 5 - 1 = a50 by omega] at h9; exact h9); have h9 := hx8.node hn8.2.1 hn8.2.2 hn8.1 dg_147 (by omega) (by omega) (by first | exact ⟨by omega, by omega⟩) (by omega); rw [show aF σ_s_141 (ad E a 3) = g_147 from ef_148, show aF σ_s_141 (ad E a 35) = g_136 from e_145, show gI σ a 5 = a50 by omega]; exact ⟨by rw [show gI σ_s_141 a 5 = gI σ_s_130 a 5 by omega]; exact h9.1, by omega, hw_129.2.2⟩⟩ dX11_emit_187
            · replace c_114 := (I_eq (a := z_113) (b := 0) rz_113 (show rng 0 from ⟨by decide, by decide⟩)).mp c_114
              refine lv_aload_n hx hb dX11_emit_115 rfl (lv_at hl 0 rfl) ?_
              refine ok.getR hO h_a (by decide) k13_3 (by decide) (fun _ _ he hv kk => th_get (ci := 11) (C := RX11) (T := TX11) (N := 66) hx hb hts inX11 hown hK hH he rfl 3 (by decide) fl3 hv dX11_emit_116 kk) ?_
              refine lv_iload hx hb dX11_emit_119 (lv_at hl 4 rfl) ?_
              refine lv_iconst (v := I 1) hx hb dX11_emit_121 (by decide) ?_
              refine lv_iadd hx hb dX11_emit_122 ?_
              refine nq_top (I_add _ _) ?_
              refine lv_sipush (v := I (-999)) hx hb dX11_emit_123 (by decide) ?_
              refine lv_sipush (v := I 999) hx hb dX11_emit_126 (by decide) ?_
              refine lv_aload_n hx hb dX11_emit_129 rfl (lv_at hl 0 rfl) ?_
              refine ok.getR hO h_a (by decide) k13_1 (by decide) (fun _ _ he hv kk => th_get (ci := 11) (C := RX11) (T := TX11) (N := 66) hx hb hts inX11 hown hK hH he rfl 1 (by decide) fl2 hv dX11_emit_130 kk) ?_
              refine lv_iconst (v := I 4) hx hb dX11_emit_133 (by decide) ?_
              refine lv_iload_n hx hb dX11_emit_134 rfl (lv_at hl 1 rfl) ?_
              refine lv_imul hx hb dX11_emit_135 ?_
              refine nq_top (I_mul _ _) ?_
              refine lv_iconst (v := I 1) hx hb dX11_emit_136 (by decide) ?_
              refine lv_iadd hx hb dX11_emit_137 ?_
              refine nq_top (I_add _ _) ?_
              refine m_iald hx hb hK hH hO h_a k13_1 isA1 e_36 ⟨by omega, by omega⟩ (by omega) (by omega) dX11_emit_138 (fun z_149 ez_149 rz_149 elx9 => ?_)
              refine lv_aload_n hx hb dX11_emit_139 rfl (lv_at hl 0 rfl) ?_
              refine ok.getI hO h_a (by decide) k13_34 (fun _ _ he hv kk => th_get (ci := 11) (C := RX11) (T := TX11) (N := 66) hx hb hts inX11 hown hK hH he rfl 34 (by decide) fl5 hv dX11_emit_140 kk) (fun z_150 e_151 rz_150 lz_150 uz_150 => ?_)
              refine lv_iadd hx hb dX11_emit_143 ?_
              refine th_addo (fun z_152 rz_152 hz_152 => ?_)
              refine va_mmin hx hb (by rw [hml]; exact hl.1.symm) hown fl6 fl7 fl8 fl9 (Nat.le_of_ble_eq_true rfl) (Nat.le_of_ble_eq_true rfl) (Nat.zero_le _) (Nat.zero_le _) dX11_emit_144 ?_
              refine th_mmin (show rng 999 from ⟨by decide, by decide⟩) rz_152 (fun z_153 rz_153 hz_153 => ?_)
              refine va_mmax hx hb (by rw [hml]; exact hl.1.symm) hown fl10 fl11 fl8 fl12 (Nat.le_of_ble_eq_true rfl) (Nat.le_of_ble_eq_true rfl) (Nat.zero_le _) (Nat.zero_le _) dX11_emit_147 ?_
              refine th_mmax (show rng (-999) from ⟨by decide, by decide⟩) rz_153 (fun z_154 rz_154 hz_154 => ?_)
              refine m_iast hx hb hK hH hS h00 hO h_a k13_3 isA1 (by decide) e_39 ⟨by omega, by omega⟩ (by omega) (by omega) rz_154 el1 dX11_emit_150 (fun σ_s_155 H locs hO hF9 hM9 ha9 hH hS => ?_)
              replace hM := hM.tu hM9 (by decide)
              replace hF := hF.tu hF9 (by decide)
              have e_156 : gI σ_s_155 a 32 = a320 := (hM9.i (by decide)).trans e_35
              have e_157 : aF σ_s_155 (ad E a 1) = f1 := (hM9.a (by decide) (by decide)).trans e_36
              have e_158 : aF σ_s_155 (ad E a 2) = f2 := (hM9.a (by decide) (by decide)).trans e_37
              have e_159 : aF σ_s_155 (ad E a 35) = f35 := (hM9.a (by decide) (by decide)).trans e_38
              have e_160 : gI σ_s_155 a 5 = a50 + 1 := (hM9.i (by decide)).trans e_40
              have e_161 : gI σ_s_155 a 34 = z_150 := (hM9.i (by decide)).trans e_151
              obtain ⟨g_162, dg_162⟩ : ∃ g9, g9 = upd F3q29 (4 * a50 + 1).toNat (I z_154) := ⟨_, rfl⟩
              rw [← dg_162] at ha9
              have ef_163 := ha9
              have hnd_164 : nd f3 g_162 f1 a50 i := hnd_33.up dg_162 (by omega) (by omega)
              refine lv_aload_n hx hb dX11_emit_151 rfl (lv_at hl 0 rfl) ?_
              refine ok.getR hO h_a (by decide) k13_1 (by decide) (fun _ _ he hv kk => th_get (ci := 11) (C := RX11) (T := TX11) (N := 66) hx hb hts inX11 hown hK hH he rfl 1 (by decide) fl2 hv dX11_emit_152 kk) ?_
              refine lv_iload_n hx hb dX11_emit_155 rfl (lv_at hl 1 rfl) ?_
              refine th_calli (va_runS (As := [.ref (ad E a 1), .int (I i)]) (rest := []) ⟨hx, hb, hml, hown, hts⟩ (w_holds l G y b0 σ_s_155 E hO (ad E a 1) 240 f1 (hO.roww h_a k13_1 isA1 e_157 rfl) i (show rng i from ri) (by omega) (by omega) (by omega)) (va_cwS 2 hts gX11_emit_X11_holds rfl rfl rfl (by decide +kernel) ⟨(by first | (simp only [headSpec]; omega) | omega | (dsimp only; omega)), (by first | (simp only [headSpec]; omega) | omega | (dsimp only; omega))⟩) (th_PS hK hH) rfl rfl hl.1 rfl (lv_room (Nat.le_of_ble_eq_true rfl)) dX11_emit_156 ⟨(by first | (simp only [headSpec]; omega) | omega | (dsimp only; omega)), (by first | (simp only [headSpec]; omega) | omega | (dsimp only; omega))⟩) hS (fun z_167 σ_s_166 H locs rz_167 hw_165 hH hS => ?_)
              obtain ⟨e9, bhw_165, hw_165⟩ := hw_165
              replace e9 := e9.symm
              subst e9
              have hw_165 : (z_167 = 1 ∧ 2 ≤ mK f1 i) ∨ (z_167 = 0 ∧ ¬ 2 ≤ mK f1 i) := hw_165
              refine lv_if_eq (tgt := 169) hx hb dX11_emit_159 (by decide) (fun c_168 => ?_) (fun c_168 => ?_)
              · replace c_168 := (I_eq (a := z_167) (b := 0) rz_167 (show rng 0 from ⟨by decide, by decide⟩)).mp c_168
                refine lv_aload_n hx hb dX11_emit_169 rfl (lv_at hl 0 rfl) ?_
                refine ok.getR hO h_a (by decide) k13_3 (by decide) (fun _ _ he hv kk => th_get (ci := 11) (C := RX11) (T := TX11) (N := 66) hx hb hts inX11 hown hK hH he rfl 3 (by decide) fl3 hv dX11_emit_170 kk) ?_
                refine lv_iload hx hb dX11_emit_173 (lv_at hl 4 rfl) ?_
                refine lv_iconst (v := I 3) hx hb dX11_emit_175 (by decide) ?_
                refine lv_iadd hx hb dX11_emit_176 ?_
                refine nq_top (I_add _ _) ?_
                refine lv_aload_n hx hb dX11_emit_177 rfl (lv_at hl 0 rfl) ?_
                refine ok.getIc hO h_a (by decide) k13_5 e_160 (fun _ _ he hv kk => th_get (ci := 11) (C := RX11) (T := TX11) (N := 66) hx hb hts inX11 hown hK hH he rfl 5 (by decide) fl1 hv dX11_emit_178 kk) ?_
                refine lv_iload hx hb dX11_emit_181 (lv_at hl 4 rfl) ?_
                refine lv_iconst (v := I 4) hx hb dX11_emit_183 (by decide) ?_
                refine lv_idiv hx hb dX11_emit_184 (by decide) ?_
                refine th_div (n := 4) ⟨by omega, by omega⟩ (by omega) (by decide) (fun z_169 rz_169 hz_169 => ?_)
                refine lv_isub hx hb dX11_emit_185 ?_
                refine nq_top (I_sub _ _) ?_
                refine m_iast hx hb hK hH hS h00 hO h_a k13_3 isA1 (by decide) ef_163 ⟨by omega, by omega⟩ (by omega) (by omega) ⟨by omega, by omega⟩ el1 dX11_emit_186 (fun σ_s_170 H locs hO hF9 hM9 ha9 hH hS => ?_)
                replace hM := hM.tu hM9 (by decide)
                replace hF := hF.tu hF9 (by decide)
                have e_171 : gI σ_s_170 a 32 = a320 := (hM9.i (by decide)).trans e_156
                have e_172 : aF σ_s_170 (ad E a 1) = f1 := (hM9.a (by decide) (by decide)).trans e_157
                have e_173 : aF σ_s_170 (ad E a 2) = f2 := (hM9.a (by decide) (by decide)).trans e_158
                have e_174 : aF σ_s_170 (ad E a 35) = f35 := (hM9.a (by decide) (by decide)).trans e_159
                have e_175 : gI σ_s_170 a 5 = a50 + 1 := (hM9.i (by decide)).trans e_160
                have e_176 : gI σ_s_170 a 34 = z_150 := (hM9.i (by decide)).trans e_161
                obtain ⟨g_177, dg_177⟩ : ∃ g9, g9 = upd g_162 (4 * a50 + 3).toNat (I (a50 + 1 - z_169)) := ⟨_, rfl⟩
                rw [← dg_177] at ha9
                have ef_178 := ha9
                exact th_vret hx hb hr hlocks hH hS ⟨hO, hF, hM, by have hn8 := hnd_164; have h9 := (emf.leaf (f1 := f1) (g := g_162) (i := i) (m := a50) (by omega)).node hn8.2.1 hn8.2.2 hn8.1 dg_177 (by omega) (by omega) ⟨by omega, by omega⟩ (by omega); rw [show aF σ_s_170 (ad E a 3) = g_177 from ef_178, show aF σ_s_170 (ad E a 35) = f35 from e_174, show gI σ a 5 = a50 by omega]; exact ⟨by rw [show gI σ_s_170 a 5 = a50 + 1 by omega]; exact h9.1, by omega, ofr.rf⟩⟩ dX11_emit_187
              · replace c_168 := mt (I_eq (a := z_167) (b := 0) rz_167 (show rng 0 from ⟨by decide, by decide⟩)).mpr c_168
                refine lv_aload_n hx hb dX11_emit_162 rfl (lv_at hl 0 rfl) ?_
                refine lv_iload_n hx hb dX11_emit_163 rfl (lv_at hl 1 rfl) ?_
                refine lv_iload_n hx hb dX11_emit_164 rfl (lv_at hl 3 rfl) ?_
                refine lv_iload_n hx hb dX11_emit_165 rfl (lv_at hl 2 rfl) ?_
                obtain ⟨_, hc_179⟩ := hO.cell h_a (by decide) (ci := 11) rfl
                refine th_callv (va_runV (As := [.int (I i), .int (I z_1), .int (I dp)]) (rest := []) ⟨hx, hb, hml, hown, hts⟩ (m_emitWithin n ih l G y b0 σ_s_155 E hO a h_a i (show rng i from ri) (by omega) (by omega) z_1 (show rng z_1 from rz_1) (by omega) (by omega) dp (show rng dp from rdp) (by omega) (by omega) f1 e_157 f2 e_158 g_162 ef_163 f35 e_159 (hy0) (by omega) (hy2) ((by rw [show gI σ_s_155 a 32 = gI σ a 32 by omega]; exact hy3)) (by omega) (hy5) (by omega) (by omega) (by omega)) (cwV 3 hts gX11_emit_X11_emitWithin rfl rfl rfl (by decide +kernel) ⟨(by first | (simp only [headSpec]; omega) | omega | (dsimp only; omega)), (by first | (simp only [headSpec]; omega) | omega | (dsimp only; omega))⟩) (th_PV hK hH rfl hc_179) rfl rfl hl.1 rfl (lv_room (Nat.le_of_ble_eq_true rfl)) dX11_emit_166 ⟨(by first | (simp only [headSpec]; omega) | omega | (dsimp only; omega)), (by first | (simp only [headSpec]; omega) | omega | (dsimp only; omega))⟩) hS (fun σ_s_181 H locs hw_180 hH hS => ?_)
                obtain ⟨hO9, hF9, hM9, hw_180⟩ := hw_180
                replace hM := hM.tu hM9 (by decide)
                replace hF := hF.tu hF9 (by decide)
                have e_182 : gI σ_s_181 a 32 = a320 := (hM9.i (by decide)).trans e_156
                have e_183 : aF σ_s_181 (ad E a 1) = f1 := (hM9.a (by decide) (by decide)).trans e_157
                have e_184 : aF σ_s_181 (ad E a 2) = f2 := (hM9.a (by decide) (by decide)).trans e_158
                have e_185 : gI σ_s_181 a 34 = z_150 := (hM9.i (by decide)).trans e_161
                replace hO := hO9
                generalize ef_187 : aF σ_s_181 (ad E a 3) = g_186 at hw_180
                generalize ef_189 : aF σ_s_181 (ad E a 35) = g_188 at hw_180
                have hw_180 : emf f1 g_186 i (gI σ_s_155 a 5 - 1) (gI σ_s_181 a 5) ∧ same g_162 g_186 0 (gI σ_s_155 a 5) 0 ∧ ofr f35 g_188 (60 * dp) := hw_180
                refine lv_aload_n hx hb dX11_emit_169 rfl (lv_at hl 0 rfl) ?_
                refine ok.getR hO h_a (by decide) k13_3 (by decide) (fun _ _ he hv kk => th_get (ci := 11) (C := RX11) (T := TX11) (N := 66) hx hb hts inX11 hown hK hH he rfl 3 (by decide) fl3 hv dX11_emit_170 kk) ?_
                refine lv_iload hx hb dX11_emit_173 (lv_at hl 4 rfl) ?_
                refine lv_iconst (v := I 3) hx hb dX11_emit_175 (by decide) ?_
                refine lv_iadd hx hb dX11_emit_176 ?_
                refine nq_top (I_add _ _) ?_
                refine lv_aload_n hx hb dX11_emit_177 rfl (lv_at hl 0 rfl) ?_
                refine ok.getI hO h_a (by decide) k13_5 (fun _ _ he hv kk => th_get (ci := 11) (C := RX11) (T := TX11) (N := 66) hx hb hts inX11 hown hK hH he rfl 5 (by decide) fl1 hv dX11_emit_178 kk) (fun z_190 e_191 rz_190 lz_190 uz_190 => ?_)
                refine lv_iload hx hb dX11_emit_181 (lv_at hl 4 rfl) ?_
                refine lv_iconst (v := I 4) hx hb dX11_emit_183 (by decide) ?_
                refine lv_idiv hx hb dX11_emit_184 (by decide) ?_
                refine th_div (n := 4) ⟨by omega, by omega⟩ (by omega) (by decide) (fun z_192 rz_192 hz_192 => ?_)
                refine lv_isub hx hb dX11_emit_185 ?_
                refine nq_top (I_sub _ _) ?_
                refine m_iast hx hb hK hH hS h00 hO h_a k13_3 isA1 (by decide) ef_187 ⟨by omega, by omega⟩ (by omega) (by omega) ⟨by omega, by omega⟩ el1 dX11_emit_186 (fun σ_s_193 H locs hO hF9 hM9 ha9 hH hS => ?_)
                replace hM := hM.tu hM9 (by decide)
                replace hF := hF.tu hF9 (by decide)
                have e_194 : gI σ_s_193 a 32 = a320 := (hM9.i (by decide)).trans e_182
                have e_195 : aF σ_s_193 (ad E a 1) = f1 := (hM9.a (by decide) (by decide)).trans e_183
                have e_196 : aF σ_s_193 (ad E a 2) = f2 := (hM9.a (by decide) (by decide)).trans e_184
                have e_197 : gI σ_s_193 a 34 = z_150 := (hM9.i (by decide)).trans e_185
                have e_198 : aF σ_s_193 (ad E a 35) = g_188 := (hM9.a (by decide) (by decide)).trans ef_189
                have e_199 : gI σ_s_193 a 5 = z_190 := (hM9.i (by decide)).trans e_191
                obtain ⟨g_200, dg_200⟩ : ∃ g9, g9 = upd g_186 (4 * a50 + 3).toNat (I (z_190 - z_192)) := ⟨_, rfl⟩
                rw [← dg_200] at ha9
                have ef_201 := ha9
                exact th_vret hx hb hr hlocks hH hS ⟨hO, hF, hM, by have hn8 := (hnd_164.to (by have h9 := hw_180.2.1; rw [show gI σ_s_155 a 5 = a50 + 1 by omega] at h9; exact h9) (by omega)); have hx8 : emf f1 _ i a50 _ := (by have h9 := hw_180.1; rw [show gI σ_s_155 a 5 - 1 = a50 by omega] at h9; exact h9); have h9 := hx8.node hn8.2.1 hn8.2.2 hn8.1 dg_200 (by omega) (by omega) (by first | exact ⟨by omega, by omega⟩) (by omega); rw [show aF σ_s_193 (ad E a 3) = g_200 from ef_201, show aF σ_s_193 (ad E a 35) = g_188 from e_198, show gI σ a 5 = a50 by omega]; exact ⟨by rw [show gI σ_s_193 a 5 = gI σ_s_181 a 5 by omega]; exact h9.1, by omega, hw_180.2.2⟩⟩ dX11_emit_187
      · replace c_32 := mt (I_le (a := 4) (b := v5q30) (show rng 4 from ⟨by decide, by decide⟩) rv5q30).mpr c_32
        refine lv_aload_n hx hb dX11_emit_55 rfl (lv_at hl 0 rfl) ?_
        refine ok.getR hO h_a (by decide) k13_3 (by decide) (fun _ _ he hv kk => th_get (ci := 11) (C := RX11) (T := TX11) (N := 66) hx hb hts inX11 hown hK hH he rfl 3 (by decide) fl3 hv dX11_emit_56 kk) ?_
        refine lv_iload hx hb dX11_emit_59 (lv_at hl 4 rfl) ?_
        refine lv_iload hx hb dX11_emit_61 (lv_at hl 5 rfl) ?_
        refine lv_iadd hx hb dX11_emit_63 ?_
        refine nq_top (I_add _ _) ?_
        refine lv_aload_n hx hb dX11_emit_64 rfl (lv_at hl 0 rfl) ?_
        refine ok.getR hO h_a (by decide) k13_1 (by decide) (fun _ _ he hv kk => th_get (ci := 11) (C := RX11) (T := TX11) (N := 66) hx hb hts inX11 hown hK hH he rfl 1 (by decide) fl2 hv dX11_emit_65 kk) ?_
        refine lv_iconst (v := I 4) hx hb dX11_emit_68 (by decide) ?_
        refine lv_iload_n hx hb dX11_emit_69 rfl (lv_at hl 1 rfl) ?_
        refine lv_imul hx hb dX11_emit_70 ?_
        refine nq_top (I_mul _ _) ?_
        refine lv_iload hx hb dX11_emit_71 (lv_at hl 5 rfl) ?_
        refine lv_iadd hx hb dX11_emit_73 ?_
        refine nq_top (I_add _ _) ?_
        refine m_iald hx hb hK hH hO h_a k13_1 isA1 J_31_5 ⟨by omega, by omega⟩ (by omega) (by omega) dX11_emit_74 (fun z_202 ez_202 rz_202 elx9 => ?_)
        refine m_iast hx hb hK hH hS h00 hO h_a k13_3 isA1 (by decide) J_31_8 ⟨by omega, by omega⟩ (by omega) (by omega) rz_202 el1 dX11_emit_75 (fun σ_s_203 H locs hO hF9 hM9 ha9 hH hS => ?_)
        replace hM := hM.tu hM9 (by decide)
        replace hF := hF.tu hF9 (by decide)
        have e_204 : gI σ_s_203 a 5 = a50 := (hM9.i (by decide)).trans J_31_3
        have e_205 : gI σ_s_203 a 32 = a320 := (hM9.i (by decide)).trans J_31_4
        have e_206 : aF σ_s_203 (ad E a 1) = f1 := (hM9.a (by decide) (by decide)).trans J_31_5
        have e_207 : aF σ_s_203 (ad E a 2) = f2 := (hM9.a (by decide) (by decide)).trans J_31_6
        have e_208 : aF σ_s_203 (ad E a 35) = f35 := (hM9.a (by decide) (by decide)).trans J_31_7
        obtain ⟨g_209, dg_209⟩ : ∃ g9, g9 = upd F3q29 (4 * a50 + v5q30).toNat (I z_202) := ⟨_, rfl⟩
        rw [← dg_209] at ha9
        have ef_210 := ha9
        refine lv_iinc (v := I (v5q30 + 1)) (lv' := [(5, .int (I (v5q30 + 1))), (0, .ref a), (1, .int (I i)), (2, .int (I dp)), (3, .int (I z_1)), (4, .int (I (4 * a50)))]) hx hb dX11_emit_76 hl (k := 5) rfl (I_add _ _) (by decide) rfl (fun ls hl => ?_)
        refine lv_goto (tgt := 49) hx hb dX11_emit_79 (by decide) ?_
        exact ihJ_31 (v5q30 + 1, g_209) σ_s_203 _ _ _ (by first | (dsimp only; omega) | omega) ⟨hO, hF, hM, hH, hS, lv_sub hl [1, 2, 3, 4, 5, 0] rfl, ⟨by first | (dsimp only; omega) | omega, by first | (dsimp only; omega) | omega⟩, by first | (dsimp only; omega) | omega, by first | (dsimp only; omega) | omega, (J_31_2.step dg_209 (by first | (dsimp only; omega) | omega) ez_202 (by first | (dsimp only; omega) | omega) (by first | (dsimp only; omega) | omega) (by first | (dsimp only; omega) | omega)), e_204, e_205, e_206, e_207, e_208, ef_210⟩
    · replace c_2 := mt (I_eq (a := z_1) (b := 0) rz_1 (show rng 0 from ⟨by decide, by decide⟩)).mpr c_2
      refine lv_aload_n hx hb dX11_emit_11 rfl (lv_at hl 1 rfl) ?_
      refine ok.getIc hO h_a (by decide) k13_32 ea320 (fun _ _ he hv kk => th_get (ci := 11) (C := RX11) (T := TX11) (N := 66) hx hb hts inX11 hown hK hH he rfl 32 (by decide) fl4 hv dX11_emit_12 kk) ?_
      refine lv_if_ne (tgt := 38) hx hb dX11_emit_15 (by decide) (fun c_211 => ?_) (fun c_211 => ?_)
      · replace c_211 := mt (I_eq (a := a320) (b := 0) ra320 (show rng 0 from ⟨by decide, by decide⟩)).mpr c_211
        refine lv_iconst (v := I 4) hx hb dX11_emit_38 (by decide) ?_
        refine lv_aload_n hx hb dX11_emit_39 rfl (lv_at hl 1 rfl) ?_
        refine ok.getIc hO h_a (by decide) k13_5 ea50 (fun _ _ he hv kk => th_get (ci := 11) (C := RX11) (T := TX11) (N := 66) hx hb hts inX11 hown hK hH he rfl 5 (by decide) fl1 hv dX11_emit_40 kk) ?_
        refine lv_imul hx hb dX11_emit_43 ?_
        refine nq_top (I_mul _ _) ?_
        refine lv_istore (lv' := [(4, .int (I (4 * a50))), (3, .int (I z_1)), (0, .ref a), (1, .int (I i)), (2, .int (I dp))]) hx hb dX11_emit_44 hl (by decide) rfl (fun ls hl => ?_)
        refine lv_iconst (v := I 0) hx hb dX11_emit_46 (by decide) ?_
        refine lv_istore (lv' := [(5, .int (I 0)), (4, .int (I (4 * a50))), (3, .int (I z_1)), (0, .ref a), (1, .int (I i)), (2, .int (I dp))]) hx hb dX11_emit_47 hl (by decide) rfl (fun ls hl => ?_)
        refine th_loop (α := Int × (Nat → Int32)) (pc := 49) (fun x9 => (4 - x9.1).toNat) (fun x9 σ9 H9 l9 ls9 => ok y E σ9 ∧ fr [13] E σ σ9 ∧ fm [3, 5, 35] E σ σ9 a ∧ th_H G b0 σ9 H9 ∧ va_S (th_A b0) s.heap H9 l9 ∧ lv_has ls9 6 [(0, .ref a), (1, .int (I i)), (2, .int (I dp)), (3, .int (I z_1)), (4, .int (I (4 * a50))), (5, .int (I x9.1))] ∧ rng x9.1 ∧ (0 ≤ x9.1) ∧ (x9.1 ≤ 4) ∧ (cpd f3 x9.2 f1 (gI σ a 5) i x9.1) ∧ (gI σ9 a 5 = a50) ∧ (gI σ9 a 32 = a320) ∧ (aF σ9 (ad E a 1) = f1) ∧ (aF σ9 (ad E a 2) = f2) ∧ (aF σ9 (ad E a 35) = f35) ∧ (aF σ9 (ad E a 3) = x9.2)) ?_ (0, f3) σ _ _ _ ⟨hO, hF, hM, hH, hS, lv_sub hl [3, 4, 5, 2, 1, 0] rfl, (show rng 0 from ⟨by decide, by decide⟩), by first | (dsimp only; omega) | omega, by first | (dsimp only; omega) | omega, cpd.zero, ea50, ea320, ef1, ef2, ef35, ef3⟩
        intro x9 σ_J_214 H locs ls hI9 ihJ_214
        obtain ⟨v5q213, F3q212⟩ := x9
        obtain ⟨hO, hF, hM, hH, hS, hl, rv5q213, J_214_0, J_214_1, J_214_2, J_214_3, J_214_4, J_214_5, J_214_6, J_214_7, J_214_8⟩ := hI9
        have hl : lv_has ls 6 [(0, .ref a), (1, .int (I i)), (2, .int (I dp)), (3, .int (I z_1)), (4, .int (I (4 * a50))), (5, .int (I v5q213))] := hl
        have rv5q213 : rng v5q213 := rv5q213
        have J_214_0 : 0 ≤ v5q213 := J_214_0
        have J_214_1 : v5q213 ≤ 4 := J_214_1
        have J_214_2 : cpd f3 F3q212 f1 (gI σ a 5) i v5q213 := J_214_2
        have J_214_3 : gI σ_J_214 a 5 = a50 := J_214_3
        have J_214_4 : gI σ_J_214 a 32 = a320 := J_214_4
        have J_214_5 : aF σ_J_214 (ad E a 1) = f1 := J_214_5
        have J_214_6 : aF σ_J_214 (ad E a 2) = f2 := J_214_6
        have J_214_7 : aF σ_J_214 (ad E a 35) = f35 := J_214_7
        have J_214_8 : aF σ_J_214 (ad E a 3) = F3q212 := J_214_8
        refine lv_iload hx hb dX11_emit_49 (lv_at hl 5 rfl) ?_
        refine lv_iconst (v := I 4) hx hb dX11_emit_51 (by decide) ?_
        refine lv_icmp_ge (tgt := 82) hx hb dX11_emit_52 (by decide) (fun c_215 => ?_) (fun c_215 => ?_)
        · replace c_215 := (I_le (a := 4) (b := v5q213) (show rng 4 from ⟨by decide, by decide⟩) rv5q213).mp c_215
          have hnd_216 : nd f3 F3q212 f1 a50 i := (by have h9 := J_214_2; rw [show gI σ a 5 = a50 by omega] at h9; exact nd.of h9 (by omega) (by omega))
          refine lv_aload_n hx hb dX11_emit_82 rfl (lv_at hl 0 rfl) ?_
          refine lv_dup hx hb dX11_emit_83 rfl ?_
          refine ok.getIc hO h_a (by decide) k13_5 J_214_3 (fun _ _ he hv kk => th_get (ci := 11) (C := RX11) (T := TX11) (N := 66) hx hb hts inX11 hown hK hH he rfl 5 (by decide) fl1 hv dX11_emit_84 kk) ?_
          refine lv_iconst (v := I 1) hx hb dX11_emit_87 (by decide) ?_
          refine lv_iadd hx hb dX11_emit_88 ?_
          refine nq_top (I_add _ _) ?_
          refine ok.putJ hO h_a k13_5 ⟨by omega, by omega⟩ (by omega) (by omega) (fun _ he hl9 kk => th_put (ci := 11) (v := .int (I (a50 + 1))) (ty := .int) (C := RX11) (T := TX11) (N := 66) hx hb hts inX11 tyX11 tyX11_ok nmX11 hown hK hH hS h00 he rfl 5 (by decide) fl1 rfl (by decide +kernel) rfl rfl hl9 dX11_emit_89 kk) (fun σ_s_217 H locs hO hF9 hM9 hg9 ha9 hH hS => ?_)
          replace hM := hM.tu hM9 (by decide)
          replace hF := hF.tu hF9 (by decide)
          have e_218 : gI σ_s_217 a 32 = a320 := (hM9.i (by decide)).trans J_214_4
          have e_219 : aF σ_s_217 (ad E a 1) = f1 := (hM9.a (by decide) (by decide)).trans J_214_5
          have e_220 : aF σ_s_217 (ad E a 2) = f2 := (hM9.a (by decide) (by decide)).trans J_214_6
          have e_221 : aF σ_s_217 (ad E a 35) = f35 := (hM9.a (by decide) (by decide)).trans J_214_7
          have e_222 : aF σ_s_217 (ad E a 3) = F3q212 := (hM9.a (by decide) (by decide)).trans J_214_8
          have e_223 := hg9
          refine lv_iload_n hx hb dX11_emit_92 rfl (lv_at hl 3 rfl) ?_
          refine lv_if_eq (tgt := 151) hx hb dX11_emit_93 (by decide) (fun c_224 => ?_) (fun c_224 => ?_)
          · replace c_224 := (I_eq (a := z_1) (b := 0) rz_1 (show rng 0 from ⟨by decide, by decide⟩)).mp c_224
            refine lv_aload_n hx hb dX11_emit_151 rfl (lv_at hl 0 rfl) ?_
            refine ok.getR hO h_a (by decide) k13_1 (by decide) (fun _ _ he hv kk => th_get (ci := 11) (C := RX11) (T := TX11) (N := 66) hx hb hts inX11 hown hK hH he rfl 1 (by decide) fl2 hv dX11_emit_152 kk) ?_
            refine lv_iload_n hx hb dX11_emit_155 rfl (lv_at hl 1 rfl) ?_
            refine th_calli (va_runS (As := [.ref (ad E a 1), .int (I i)]) (rest := []) ⟨hx, hb, hml, hown, hts⟩ (w_holds l G y b0 σ_s_217 E hO (ad E a 1) 240 f1 (hO.roww h_a k13_1 isA1 e_219 rfl) i (show rng i from ri) (by omega) (by omega) (by omega)) (va_cwS 2 hts gX11_emit_X11_holds rfl rfl rfl (by decide +kernel) ⟨(by first | (simp only [headSpec]; omega) | omega | (dsimp only; omega)), (by first | (simp only [headSpec]; omega) | omega | (dsimp only; omega))⟩) (th_PS hK hH) rfl rfl hl.1 rfl (lv_room (Nat.le_of_ble_eq_true rfl)) dX11_emit_156 ⟨(by first | (simp only [headSpec]; omega) | omega | (dsimp only; omega)), (by first | (simp only [headSpec]; omega) | omega | (dsimp only; omega))⟩) hS (fun z_227 σ_s_226 H locs rz_227 hw_225 hH hS => ?_)
            obtain ⟨e9, bhw_225, hw_225⟩ := hw_225
            replace e9 := e9.symm
            subst e9
            have hw_225 : (z_227 = 1 ∧ 2 ≤ mK f1 i) ∨ (z_227 = 0 ∧ ¬ 2 ≤ mK f1 i) := hw_225
            refine lv_if_eq (tgt := 169) hx hb dX11_emit_159 (by decide) (fun c_228 => ?_) (fun c_228 => ?_)
            · replace c_228 := (I_eq (a := z_227) (b := 0) rz_227 (show rng 0 from ⟨by decide, by decide⟩)).mp c_228
              refine lv_aload_n hx hb dX11_emit_169 rfl (lv_at hl 0 rfl) ?_
              refine ok.getR hO h_a (by decide) k13_3 (by decide) (fun _ _ he hv kk => th_get (ci := 11) (C := RX11) (T := TX11) (N := 66) hx hb hts inX11 hown hK hH he rfl 3 (by decide) fl3 hv dX11_emit_170 kk) ?_
              refine lv_iload hx hb dX11_emit_173 (lv_at hl 4 rfl) ?_
              refine lv_iconst (v := I 3) hx hb dX11_emit_175 (by decide) ?_
              refine lv_iadd hx hb dX11_emit_176 ?_
              refine nq_top (I_add _ _) ?_
              refine lv_aload_n hx hb dX11_emit_177 rfl (lv_at hl 0 rfl) ?_
              refine ok.getIc hO h_a (by decide) k13_5 e_223 (fun _ _ he hv kk => th_get (ci := 11) (C := RX11) (T := TX11) (N := 66) hx hb hts inX11 hown hK hH he rfl 5 (by decide) fl1 hv dX11_emit_178 kk) ?_
              refine lv_iload hx hb dX11_emit_181 (lv_at hl 4 rfl) ?_
              refine lv_iconst (v := I 4) hx hb dX11_emit_183 (by decide) ?_
              refine lv_idiv hx hb dX11_emit_184 (by decide) ?_
              refine th_div (n := 4) ⟨by omega, by omega⟩ (by omega) (by decide) (fun z_229 rz_229 hz_229 => ?_)
              refine lv_isub hx hb dX11_emit_185 ?_
              refine nq_top (I_sub _ _) ?_
              refine m_iast hx hb hK hH hS h00 hO h_a k13_3 isA1 (by decide) e_222 ⟨by omega, by omega⟩ (by omega) (by omega) ⟨by omega, by omega⟩ el1 dX11_emit_186 (fun σ_s_230 H locs hO hF9 hM9 ha9 hH hS => ?_)
              replace hM := hM.tu hM9 (by decide)
              replace hF := hF.tu hF9 (by decide)
              have e_231 : gI σ_s_230 a 32 = a320 := (hM9.i (by decide)).trans e_218
              have e_232 : aF σ_s_230 (ad E a 1) = f1 := (hM9.a (by decide) (by decide)).trans e_219
              have e_233 : aF σ_s_230 (ad E a 2) = f2 := (hM9.a (by decide) (by decide)).trans e_220
              have e_234 : aF σ_s_230 (ad E a 35) = f35 := (hM9.a (by decide) (by decide)).trans e_221
              have e_235 : gI σ_s_230 a 5 = a50 + 1 := (hM9.i (by decide)).trans e_223
              obtain ⟨g_236, dg_236⟩ : ∃ g9, g9 = upd F3q212 (4 * a50 + 3).toNat (I (a50 + 1 - z_229)) := ⟨_, rfl⟩
              rw [← dg_236] at ha9
              have ef_237 := ha9
              exact th_vret hx hb hr hlocks hH hS ⟨hO, hF, hM, by have hn8 := hnd_216; have h9 := (emf.leaf (f1 := f1) (g := F3q212) (i := i) (m := a50) (by omega)).node hn8.2.1 hn8.2.2 hn8.1 dg_236 (by omega) (by omega) ⟨by omega, by omega⟩ (by omega); rw [show aF σ_s_230 (ad E a 3) = g_236 from ef_237, show aF σ_s_230 (ad E a 35) = f35 from e_234, show gI σ a 5 = a50 by omega]; exact ⟨by rw [show gI σ_s_230 a 5 = a50 + 1 by omega]; exact h9.1, by omega, ofr.rf⟩⟩ dX11_emit_187
            · replace c_228 := mt (I_eq (a := z_227) (b := 0) rz_227 (show rng 0 from ⟨by decide, by decide⟩)).mpr c_228
              refine lv_aload_n hx hb dX11_emit_162 rfl (lv_at hl 0 rfl) ?_
              refine lv_iload_n hx hb dX11_emit_163 rfl (lv_at hl 1 rfl) ?_
              refine lv_iload_n hx hb dX11_emit_164 rfl (lv_at hl 3 rfl) ?_
              refine lv_iload_n hx hb dX11_emit_165 rfl (lv_at hl 2 rfl) ?_
              obtain ⟨_, hc_238⟩ := hO.cell h_a (by decide) (ci := 11) rfl
              refine th_callv (va_runV (As := [.int (I i), .int (I z_1), .int (I dp)]) (rest := []) ⟨hx, hb, hml, hown, hts⟩ (m_emitWithin n ih l G y b0 σ_s_217 E hO a h_a i (show rng i from ri) (by omega) (by omega) z_1 (show rng z_1 from rz_1) (by omega) (by omega) dp (show rng dp from rdp) (by omega) (by omega) f1 e_219 f2 e_220 F3q212 e_222 f35 e_221 (hy0) (by omega) (hy2) ((by rw [show gI σ_s_217 a 32 = gI σ a 32 by omega]; exact hy3)) (by omega) (hy5) (by omega) (by omega) (by omega)) (cwV 3 hts gX11_emit_X11_emitWithin rfl rfl rfl (by decide +kernel) ⟨(by first | (simp only [headSpec]; omega) | omega | (dsimp only; omega)), (by first | (simp only [headSpec]; omega) | omega | (dsimp only; omega))⟩) (th_PV hK hH rfl hc_238) rfl rfl hl.1 rfl (lv_room (Nat.le_of_ble_eq_true rfl)) dX11_emit_166 ⟨(by first | (simp only [headSpec]; omega) | omega | (dsimp only; omega)), (by first | (simp only [headSpec]; omega) | omega | (dsimp only; omega))⟩) hS (fun σ_s_240 H locs hw_239 hH hS => ?_)
              obtain ⟨hO9, hF9, hM9, hw_239⟩ := hw_239
              replace hM := hM.tu hM9 (by decide)
              replace hF := hF.tu hF9 (by decide)
              have e_241 : gI σ_s_240 a 32 = a320 := (hM9.i (by decide)).trans e_218
              have e_242 : aF σ_s_240 (ad E a 1) = f1 := (hM9.a (by decide) (by decide)).trans e_219
              have e_243 : aF σ_s_240 (ad E a 2) = f2 := (hM9.a (by decide) (by decide)).trans e_220
              replace hO := hO9
              generalize ef_245 : aF σ_s_240 (ad E a 3) = g_244 at hw_239
              generalize ef_247 : aF σ_s_240 (ad E a 35) = g_246 at hw_239
              have hw_239 : emf f1 g_244 i (gI σ_s_217 a 5 - 1) (gI σ_s_240 a 5) ∧ same F3q212 g_244 0 (gI σ_s_217 a 5) 0 ∧ ofr f35 g_246 (60 * dp) := hw_239
              refine lv_aload_n hx hb dX11_emit_169 rfl (lv_at hl 0 rfl) ?_
              refine ok.getR hO h_a (by decide) k13_3 (by decide) (fun _ _ he hv kk => th_get (ci := 11) (C := RX11) (T := TX11) (N := 66) hx hb hts inX11 hown hK hH he rfl 3 (by decide) fl3 hv dX11_emit_170 kk) ?_
              refine lv_iload hx hb dX11_emit_173 (lv_at hl 4 rfl) ?_
              refine lv_iconst (v := I 3) hx hb dX11_emit_175 (by decide) ?_
              refine lv_iadd hx hb dX11_emit_176 ?_
              refine nq_top (I_add _ _) ?_
              refine lv_aload_n hx hb dX11_emit_177 rfl (lv_at hl 0 rfl) ?_
              refine ok.getI hO h_a (by decide) k13_5 (fun _ _ he hv kk => th_get (ci := 11) (C := RX11) (T := TX11) (N := 66) hx hb hts inX11 hown hK hH he rfl 5 (by decide) fl1 hv dX11_emit_178 kk) (fun z_248 e_249 rz_248 lz_248 uz_248 => ?_)
              refine lv_iload hx hb dX11_emit_181 (lv_at hl 4 rfl) ?_
              refine lv_iconst (v := I 4) hx hb dX11_emit_183 (by decide) ?_
              refine lv_idiv hx hb dX11_emit_184 (by decide) ?_
              refine th_div (n := 4) ⟨by omega, by omega⟩ (by omega) (by decide) (fun z_250 rz_250 hz_250 => ?_)
              refine lv_isub hx hb dX11_emit_185 ?_
              refine nq_top (I_sub _ _) ?_
              refine m_iast hx hb hK hH hS h00 hO h_a k13_3 isA1 (by decide) ef_245 ⟨by omega, by omega⟩ (by omega) (by omega) ⟨by omega, by omega⟩ el1 dX11_emit_186 (fun σ_s_251 H locs hO hF9 hM9 ha9 hH hS => ?_)
              replace hM := hM.tu hM9 (by decide)
              replace hF := hF.tu hF9 (by decide)
              have e_252 : gI σ_s_251 a 32 = a320 := (hM9.i (by decide)).trans e_241
              have e_253 : aF σ_s_251 (ad E a 1) = f1 := (hM9.a (by decide) (by decide)).trans e_242
              have e_254 : aF σ_s_251 (ad E a 2) = f2 := (hM9.a (by decide) (by decide)).trans e_243
              have e_255 : aF σ_s_251 (ad E a 35) = g_246 := (hM9.a (by decide) (by decide)).trans ef_247
              have e_256 : gI σ_s_251 a 5 = z_248 := (hM9.i (by decide)).trans e_249
              obtain ⟨g_257, dg_257⟩ : ∃ g9, g9 = upd g_244 (4 * a50 + 3).toNat (I (z_248 - z_250)) := ⟨_, rfl⟩
              rw [← dg_257] at ha9
              have ef_258 := ha9
              exact th_vret hx hb hr hlocks hH hS ⟨hO, hF, hM, by have hn8 := (hnd_216.to (by have h9 := hw_239.2.1; rw [show gI σ_s_217 a 5 = a50 + 1 by omega] at h9; exact h9) (by omega)); have hx8 : emf f1 _ i a50 _ := (by have h9 := hw_239.1; rw [show gI σ_s_217 a 5 - 1 = a50 by omega] at h9; exact h9); have h9 := hx8.node hn8.2.1 hn8.2.2 hn8.1 dg_257 (by omega) (by omega) (by first | exact ⟨by omega, by omega⟩) (by omega); rw [show aF σ_s_251 (ad E a 3) = g_257 from ef_258, show aF σ_s_251 (ad E a 35) = g_246 from e_255, show gI σ a 5 = a50 by omega]; exact ⟨by rw [show gI σ_s_251 a 5 = gI σ_s_240 a 5 by omega]; exact h9.1, by omega, hw_239.2.2⟩⟩ dX11_emit_187
          · replace c_224 := mt (I_eq (a := z_1) (b := 0) rz_1 (show rng 0 from ⟨by decide, by decide⟩)).mpr c_224
            refine lv_aload_n hx hb dX11_emit_96 rfl (lv_at hl 0 rfl) ?_
            refine ok.getIc hO h_a (by decide) k13_32 e_218 (fun _ _ he hv kk => th_get (ci := 11) (C := RX11) (T := TX11) (N := 66) hx hb hts inX11 hown hK hH he rfl 32 (by decide) fl4 hv dX11_emit_97 kk) ?_
            refine lv_iconst (v := I 3) hx hb dX11_emit_100 (by decide) ?_
            refine lv_icmp_ne (tgt := 151) hx hb dX11_emit_101 (by decide) (fun c_259 => ?_) (fun c_259 => ?_)
            · replace c_259 := mt (I_eq (a := a320) (b := 3) ra320 (show rng 3 from ⟨by decide, by decide⟩)).mpr c_259
              refine lv_aload_n hx hb dX11_emit_151 rfl (lv_at hl 0 rfl) ?_
              refine ok.getR hO h_a (by decide) k13_1 (by decide) (fun _ _ he hv kk => th_get (ci := 11) (C := RX11) (T := TX11) (N := 66) hx hb hts inX11 hown hK hH he rfl 1 (by decide) fl2 hv dX11_emit_152 kk) ?_
              refine lv_iload_n hx hb dX11_emit_155 rfl (lv_at hl 1 rfl) ?_
              refine th_calli (va_runS (As := [.ref (ad E a 1), .int (I i)]) (rest := []) ⟨hx, hb, hml, hown, hts⟩ (w_holds l G y b0 σ_s_217 E hO (ad E a 1) 240 f1 (hO.roww h_a k13_1 isA1 e_219 rfl) i (show rng i from ri) (by omega) (by omega) (by omega)) (va_cwS 2 hts gX11_emit_X11_holds rfl rfl rfl (by decide +kernel) ⟨(by first | (simp only [headSpec]; omega) | omega | (dsimp only; omega)), (by first | (simp only [headSpec]; omega) | omega | (dsimp only; omega))⟩) (th_PS hK hH) rfl rfl hl.1 rfl (lv_room (Nat.le_of_ble_eq_true rfl)) dX11_emit_156 ⟨(by first | (simp only [headSpec]; omega) | omega | (dsimp only; omega)), (by first | (simp only [headSpec]; omega) | omega | (dsimp only; omega))⟩) hS (fun z_262 σ_s_261 H locs rz_262 hw_260 hH hS => ?_)
              obtain ⟨e9, bhw_260, hw_260⟩ := hw_260
              replace e9 := e9.symm
              subst e9
              have hw_260 : (z_262 = 1 ∧ 2 ≤ mK f1 i) ∨ (z_262 = 0 ∧ ¬ 2 ≤ mK f1 i) := hw_260
              refine lv_if_eq (tgt := 169) hx hb dX11_emit_159 (by decide) (fun c_263 => ?_) (fun c_263 => ?_)
              · replace c_263 := (I_eq (a := z_262) (b := 0) rz_262 (show rng 0 from ⟨by decide, by decide⟩)).mp c_263
                refine lv_aload_n hx hb dX11_emit_169 rfl (lv_at hl 0 rfl) ?_
                refine ok.getR hO h_a (by decide) k13_3 (by decide) (fun _ _ he hv kk => th_get (ci := 11) (C := RX11) (T := TX11) (N := 66) hx hb hts inX11 hown hK hH he rfl 3 (by decide) fl3 hv dX11_emit_170 kk) ?_
                refine lv_iload hx hb dX11_emit_173 (lv_at hl 4 rfl) ?_
                refine lv_iconst (v := I 3) hx hb dX11_emit_175 (by decide) ?_
                refine lv_iadd hx hb dX11_emit_176 ?_
                refine nq_top (I_add _ _) ?_
                refine lv_aload_n hx hb dX11_emit_177 rfl (lv_at hl 0 rfl) ?_
                refine ok.getIc hO h_a (by decide) k13_5 e_223 (fun _ _ he hv kk => th_get (ci := 11) (C := RX11) (T := TX11) (N := 66) hx hb hts inX11 hown hK hH he rfl 5 (by decide) fl1 hv dX11_emit_178 kk) ?_
                refine lv_iload hx hb dX11_emit_181 (lv_at hl 4 rfl) ?_
                refine lv_iconst (v := I 4) hx hb dX11_emit_183 (by decide) ?_
                refine lv_idiv hx hb dX11_emit_184 (by decide) ?_
                refine th_div (n := 4) ⟨by omega, by omega⟩ (by omega) (by decide) (fun z_264 rz_264 hz_264 => ?_)
                refine lv_isub hx hb dX11_emit_185 ?_
                refine nq_top (I_sub _ _) ?_
                refine m_iast hx hb hK hH hS h00 hO h_a k13_3 isA1 (by decide) e_222 ⟨by omega, by omega⟩ (by omega) (by omega) ⟨by omega, by omega⟩ el1 dX11_emit_186 (fun σ_s_265 H locs hO hF9 hM9 ha9 hH hS => ?_)
                replace hM := hM.tu hM9 (by decide)
                replace hF := hF.tu hF9 (by decide)
                have e_266 : gI σ_s_265 a 32 = a320 := (hM9.i (by decide)).trans e_218
                have e_267 : aF σ_s_265 (ad E a 1) = f1 := (hM9.a (by decide) (by decide)).trans e_219
                have e_268 : aF σ_s_265 (ad E a 2) = f2 := (hM9.a (by decide) (by decide)).trans e_220
                have e_269 : aF σ_s_265 (ad E a 35) = f35 := (hM9.a (by decide) (by decide)).trans e_221
                have e_270 : gI σ_s_265 a 5 = a50 + 1 := (hM9.i (by decide)).trans e_223
                obtain ⟨g_271, dg_271⟩ : ∃ g9, g9 = upd F3q212 (4 * a50 + 3).toNat (I (a50 + 1 - z_264)) := ⟨_, rfl⟩
                rw [← dg_271] at ha9
                have ef_272 := ha9
                exact th_vret hx hb hr hlocks hH hS ⟨hO, hF, hM, by have hn8 := hnd_216; have h9 := (emf.leaf (f1 := f1) (g := F3q212) (i := i) (m := a50) (by omega)).node hn8.2.1 hn8.2.2 hn8.1 dg_271 (by omega) (by omega) ⟨by omega, by omega⟩ (by omega); rw [show aF σ_s_265 (ad E a 3) = g_271 from ef_272, show aF σ_s_265 (ad E a 35) = f35 from e_269, show gI σ a 5 = a50 by omega]; exact ⟨by rw [show gI σ_s_265 a 5 = a50 + 1 by omega]; exact h9.1, by omega, ofr.rf⟩⟩ dX11_emit_187
              · replace c_263 := mt (I_eq (a := z_262) (b := 0) rz_262 (show rng 0 from ⟨by decide, by decide⟩)).mpr c_263
                refine lv_aload_n hx hb dX11_emit_162 rfl (lv_at hl 0 rfl) ?_
                refine lv_iload_n hx hb dX11_emit_163 rfl (lv_at hl 1 rfl) ?_
                refine lv_iload_n hx hb dX11_emit_164 rfl (lv_at hl 3 rfl) ?_
                refine lv_iload_n hx hb dX11_emit_165 rfl (lv_at hl 2 rfl) ?_
                obtain ⟨_, hc_273⟩ := hO.cell h_a (by decide) (ci := 11) rfl
                refine th_callv (va_runV (As := [.int (I i), .int (I z_1), .int (I dp)]) (rest := []) ⟨hx, hb, hml, hown, hts⟩ (m_emitWithin n ih l G y b0 σ_s_217 E hO a h_a i (show rng i from ri) (by omega) (by omega) z_1 (show rng z_1 from rz_1) (by omega) (by omega) dp (show rng dp from rdp) (by omega) (by omega) f1 e_219 f2 e_220 F3q212 e_222 f35 e_221 (hy0) (by omega) (hy2) ((by rw [show gI σ_s_217 a 32 = gI σ a 32 by omega]; exact hy3)) (by omega) (hy5) (by omega) (by omega) (by omega)) (cwV 3 hts gX11_emit_X11_emitWithin rfl rfl rfl (by decide +kernel) ⟨(by first | (simp only [headSpec]; omega) | omega | (dsimp only; omega)), (by first | (simp only [headSpec]; omega) | omega | (dsimp only; omega))⟩) (th_PV hK hH rfl hc_273) rfl rfl hl.1 rfl (lv_room (Nat.le_of_ble_eq_true rfl)) dX11_emit_166 ⟨(by first | (simp only [headSpec]; omega) | omega | (dsimp only; omega)), (by first | (simp only [headSpec]; omega) | omega | (dsimp only; omega))⟩) hS (fun σ_s_275 H locs hw_274 hH hS => ?_)
                obtain ⟨hO9, hF9, hM9, hw_274⟩ := hw_274
                replace hM := hM.tu hM9 (by decide)
                replace hF := hF.tu hF9 (by decide)
                have e_276 : gI σ_s_275 a 32 = a320 := (hM9.i (by decide)).trans e_218
                have e_277 : aF σ_s_275 (ad E a 1) = f1 := (hM9.a (by decide) (by decide)).trans e_219
                have e_278 : aF σ_s_275 (ad E a 2) = f2 := (hM9.a (by decide) (by decide)).trans e_220
                replace hO := hO9
                generalize ef_280 : aF σ_s_275 (ad E a 3) = g_279 at hw_274
                generalize ef_282 : aF σ_s_275 (ad E a 35) = g_281 at hw_274
                have hw_274 : emf f1 g_279 i (gI σ_s_217 a 5 - 1) (gI σ_s_275 a 5) ∧ same F3q212 g_279 0 (gI σ_s_217 a 5) 0 ∧ ofr f35 g_281 (60 * dp) := hw_274
                refine lv_aload_n hx hb dX11_emit_169 rfl (lv_at hl 0 rfl) ?_
                refine ok.getR hO h_a (by decide) k13_3 (by decide) (fun _ _ he hv kk => th_get (ci := 11) (C := RX11) (T := TX11) (N := 66) hx hb hts inX11 hown hK hH he rfl 3 (by decide) fl3 hv dX11_emit_170 kk) ?_
                refine lv_iload hx hb dX11_emit_173 (lv_at hl 4 rfl) ?_
                refine lv_iconst (v := I 3) hx hb dX11_emit_175 (by decide) ?_
                refine lv_iadd hx hb dX11_emit_176 ?_
                refine nq_top (I_add _ _) ?_
                refine lv_aload_n hx hb dX11_emit_177 rfl (lv_at hl 0 rfl) ?_
                refine ok.getI hO h_a (by decide) k13_5 (fun _ _ he hv kk => th_get (ci := 11) (C := RX11) (T := TX11) (N := 66) hx hb hts inX11 hown hK hH he rfl 5 (by decide) fl1 hv dX11_emit_178 kk) (fun z_283 e_284 rz_283 lz_283 uz_283 => ?_)
                refine lv_iload hx hb dX11_emit_181 (lv_at hl 4 rfl) ?_
                refine lv_iconst (v := I 4) hx hb dX11_emit_183 (by decide) ?_
                refine lv_idiv hx hb dX11_emit_184 (by decide) ?_
                refine th_div (n := 4) ⟨by omega, by omega⟩ (by omega) (by decide) (fun z_285 rz_285 hz_285 => ?_)
                refine lv_isub hx hb dX11_emit_185 ?_
                refine nq_top (I_sub _ _) ?_
                refine m_iast hx hb hK hH hS h00 hO h_a k13_3 isA1 (by decide) ef_280 ⟨by omega, by omega⟩ (by omega) (by omega) ⟨by omega, by omega⟩ el1 dX11_emit_186 (fun σ_s_286 H locs hO hF9 hM9 ha9 hH hS => ?_)
                replace hM := hM.tu hM9 (by decide)
                replace hF := hF.tu hF9 (by decide)
                have e_287 : gI σ_s_286 a 32 = a320 := (hM9.i (by decide)).trans e_276
                have e_288 : aF σ_s_286 (ad E a 1) = f1 := (hM9.a (by decide) (by decide)).trans e_277
                have e_289 : aF σ_s_286 (ad E a 2) = f2 := (hM9.a (by decide) (by decide)).trans e_278
                have e_290 : aF σ_s_286 (ad E a 35) = g_281 := (hM9.a (by decide) (by decide)).trans ef_282
                have e_291 : gI σ_s_286 a 5 = z_283 := (hM9.i (by decide)).trans e_284
                obtain ⟨g_292, dg_292⟩ : ∃ g9, g9 = upd g_279 (4 * a50 + 3).toNat (I (z_283 - z_285)) := ⟨_, rfl⟩
                rw [← dg_292] at ha9
                have ef_293 := ha9
                exact th_vret hx hb hr hlocks hH hS ⟨hO, hF, hM, by have hn8 := (hnd_216.to (by have h9 := hw_274.2.1; rw [show gI σ_s_217 a 5 = a50 + 1 by omega] at h9; exact h9) (by omega)); have hx8 : emf f1 _ i a50 _ := (by have h9 := hw_274.1; rw [show gI σ_s_217 a 5 - 1 = a50 by omega] at h9; exact h9); have h9 := hx8.node hn8.2.1 hn8.2.2 hn8.1 dg_292 (by omega) (by omega) (by first | exact ⟨by omega, by omega⟩) (by omega); rw [show aF σ_s_286 (ad E a 3) = g_292 from ef_293, show aF σ_s_286 (ad E a 35) = g_281 from e_290, show gI σ a 5 = a50 by omega]; exact ⟨by rw [show gI σ_s_286 a 5 = gI σ_s_275 a 5 by omega]; exact h9.1, by omega, hw_274.2.2⟩⟩ dX11_emit_187
            · replace c_259 := (I_eq (a := a320) (b := 3) ra320 (show rng 3 from ⟨by decide, by decide⟩)).mp c_259
              refine lv_aload_n hx hb dX11_emit_104 rfl (lv_at hl 0 rfl) ?_
              refine ok.getR hO h_a (by decide) k13_1 (by decide) (fun _ _ he hv kk => th_get (ci := 11) (C := RX11) (T := TX11) (N := 66) hx hb hts inX11 hown hK hH he rfl 1 (by decide) fl2 hv dX11_emit_105 kk) ?_
              refine lv_iload_n hx hb dX11_emit_108 rfl (lv_at hl 1 rfl) ?_
              refine th_calli (va_runS (As := [.ref (ad E a 1), .int (I i)]) (rest := []) ⟨hx, hb, hml, hown, hts⟩ (w_kind l G y b0 σ_s_217 E hO (ad E a 1) 240 f1 (hO.roww h_a k13_1 isA1 e_219 rfl) i (show rng i from ri) (by omega) (by omega) (by omega)) (va_cwS 2 hts gX11_emit_X11_kind rfl rfl rfl (by decide +kernel) ⟨(by first | (simp only [headSpec]; omega) | omega | (dsimp only; omega)), (by first | (simp only [headSpec]; omega) | omega | (dsimp only; omega))⟩) (th_PS hK hH) rfl rfl hl.1 rfl (lv_room (Nat.le_of_ble_eq_true rfl)) dX11_emit_109 ⟨(by first | (simp only [headSpec]; omega) | omega | (dsimp only; omega)), (by first | (simp only [headSpec]; omega) | omega | (dsimp only; omega))⟩) hS (fun z_296 σ_s_295 H locs rz_296 hw_294 hH hS => ?_)
              obtain ⟨e9, hw_294⟩ := hw_294
              replace e9 := e9.symm
              subst e9
              have hw_294 : z_296 = mK f1 i := hw_294
              refine lv_if_ne (tgt := 151) hx hb dX11_emit_112 (by decide) (fun c_297 => ?_) (fun c_297 => ?_)
              · replace c_297 := mt (I_eq (a := z_296) (b := 0) rz_296 (show rng 0 from ⟨by decide, by decide⟩)).mpr c_297
                refine lv_aload_n hx hb dX11_emit_151 rfl (lv_at hl 0 rfl) ?_
                refine ok.getR hO h_a (by decide) k13_1 (by decide) (fun _ _ he hv kk => th_get (ci := 11) (C := RX11) (T := TX11) (N := 66) hx hb hts inX11 hown hK hH he rfl 1 (by decide) fl2 hv dX11_emit_152 kk) ?_
                refine lv_iload_n hx hb dX11_emit_155 rfl (lv_at hl 1 rfl) ?_
                refine th_calli (va_runS (As := [.ref (ad E a 1), .int (I i)]) (rest := []) ⟨hx, hb, hml, hown, hts⟩ (w_holds l G y b0 σ_s_217 E hO (ad E a 1) 240 f1 (hO.roww h_a k13_1 isA1 e_219 rfl) i (show rng i from ri) (by omega) (by omega) (by omega)) (va_cwS 2 hts gX11_emit_X11_holds rfl rfl rfl (by decide +kernel) ⟨(by first | (simp only [headSpec]; omega) | omega | (dsimp only; omega)), (by first | (simp only [headSpec]; omega) | omega | (dsimp only; omega))⟩) (th_PS hK hH) rfl rfl hl.1 rfl (lv_room (Nat.le_of_ble_eq_true rfl)) dX11_emit_156 ⟨(by first | (simp only [headSpec]; omega) | omega | (dsimp only; omega)), (by first | (simp only [headSpec]; omega) | omega | (dsimp only; omega))⟩) hS (fun z_300 σ_s_299 H locs rz_300 hw_298 hH hS => ?_)
                obtain ⟨e9, bhw_298, hw_298⟩ := hw_298
                replace e9 := e9.symm
                subst e9
                have hw_298 : (z_300 = 1 ∧ 2 ≤ mK f1 i) ∨ (z_300 = 0 ∧ ¬ 2 ≤ mK f1 i) := hw_298
                refine lv_if_eq (tgt := 169) hx hb dX11_emit_159 (by decide) (fun c_301 => ?_) (fun c_301 => ?_)
                · replace c_301 := (I_eq (a := z_300) (b := 0) rz_300 (show rng 0 from ⟨by decide, by decide⟩)).mp c_301
                  refine lv_aload_n hx hb dX11_emit_169 rfl (lv_at hl 0 rfl) ?_
                  refine ok.getR hO h_a (by decide) k13_3 (by decide) (fun _ _ he hv kk => th_get (ci := 11) (C := RX11) (T := TX11) (N := 66) hx hb hts inX11 hown hK hH he rfl 3 (by decide) fl3 hv dX11_emit_170 kk) ?_
                  refine lv_iload hx hb dX11_emit_173 (lv_at hl 4 rfl) ?_
                  refine lv_iconst (v := I 3) hx hb dX11_emit_175 (by decide) ?_
                  refine lv_iadd hx hb dX11_emit_176 ?_
                  refine nq_top (I_add _ _) ?_
                  refine lv_aload_n hx hb dX11_emit_177 rfl (lv_at hl 0 rfl) ?_
                  refine ok.getIc hO h_a (by decide) k13_5 e_223 (fun _ _ he hv kk => th_get (ci := 11) (C := RX11) (T := TX11) (N := 66) hx hb hts inX11 hown hK hH he rfl 5 (by decide) fl1 hv dX11_emit_178 kk) ?_
                  refine lv_iload hx hb dX11_emit_181 (lv_at hl 4 rfl) ?_
                  refine lv_iconst (v := I 4) hx hb dX11_emit_183 (by decide) ?_
                  refine lv_idiv hx hb dX11_emit_184 (by decide) ?_
                  refine th_div (n := 4) ⟨by omega, by omega⟩ (by omega) (by decide) (fun z_302 rz_302 hz_302 => ?_)
                  refine lv_isub hx hb dX11_emit_185 ?_
                  refine nq_top (I_sub _ _) ?_
                  refine m_iast hx hb hK hH hS h00 hO h_a k13_3 isA1 (by decide) e_222 ⟨by omega, by omega⟩ (by omega) (by omega) ⟨by omega, by omega⟩ el1 dX11_emit_186 (fun σ_s_303 H locs hO hF9 hM9 ha9 hH hS => ?_)
                  replace hM := hM.tu hM9 (by decide)
                  replace hF := hF.tu hF9 (by decide)
                  have e_304 : gI σ_s_303 a 32 = a320 := (hM9.i (by decide)).trans e_218
                  have e_305 : aF σ_s_303 (ad E a 1) = f1 := (hM9.a (by decide) (by decide)).trans e_219
                  have e_306 : aF σ_s_303 (ad E a 2) = f2 := (hM9.a (by decide) (by decide)).trans e_220
                  have e_307 : aF σ_s_303 (ad E a 35) = f35 := (hM9.a (by decide) (by decide)).trans e_221
                  have e_308 : gI σ_s_303 a 5 = a50 + 1 := (hM9.i (by decide)).trans e_223
                  obtain ⟨g_309, dg_309⟩ : ∃ g9, g9 = upd F3q212 (4 * a50 + 3).toNat (I (a50 + 1 - z_302)) := ⟨_, rfl⟩
                  rw [← dg_309] at ha9
                  have ef_310 := ha9
                  exact th_vret hx hb hr hlocks hH hS ⟨hO, hF, hM, by have hn8 := hnd_216; have h9 := (emf.leaf (f1 := f1) (g := F3q212) (i := i) (m := a50) (by omega)).node hn8.2.1 hn8.2.2 hn8.1 dg_309 (by omega) (by omega) ⟨by omega, by omega⟩ (by omega); rw [show aF σ_s_303 (ad E a 3) = g_309 from ef_310, show aF σ_s_303 (ad E a 35) = f35 from e_307, show gI σ a 5 = a50 by omega]; exact ⟨by rw [show gI σ_s_303 a 5 = a50 + 1 by omega]; exact h9.1, by omega, ofr.rf⟩⟩ dX11_emit_187
                · replace c_301 := mt (I_eq (a := z_300) (b := 0) rz_300 (show rng 0 from ⟨by decide, by decide⟩)).mpr c_301
                  refine lv_aload_n hx hb dX11_emit_162 rfl (lv_at hl 0 rfl) ?_
                  refine lv_iload_n hx hb dX11_emit_163 rfl (lv_at hl 1 rfl) ?_
                  refine lv_iload_n hx hb dX11_emit_164 rfl (lv_at hl 3 rfl) ?_
                  refine lv_iload_n hx hb dX11_emit_165 rfl (lv_at hl 2 rfl) ?_
                  obtain ⟨_, hc_311⟩ := hO.cell h_a (by decide) (ci := 11) rfl
                  refine th_callv (va_runV (As := [.int (I i), .int (I z_1), .int (I dp)]) (rest := []) ⟨hx, hb, hml, hown, hts⟩ (m_emitWithin n ih l G y b0 σ_s_217 E hO a h_a i (show rng i from ri) (by omega) (by omega) z_1 (show rng z_1 from rz_1) (by omega) (by omega) dp (show rng dp from rdp) (by omega) (by omega) f1 e_219 f2 e_220 F3q212 e_222 f35 e_221 (hy0) (by omega) (hy2) ((by rw [show gI σ_s_217 a 32 = gI σ a 32 by omega]; exact hy3)) (by omega) (hy5) (by omega) (by omega) (by omega)) (cwV 3 hts gX11_emit_X11_emitWithin rfl rfl rfl (by decide +kernel) ⟨(by first | (simp only [headSpec]; omega) | omega | (dsimp only; omega)), (by first | (simp only [headSpec]; omega) | omega | (dsimp only; omega))⟩) (th_PV hK hH rfl hc_311) rfl rfl hl.1 rfl (lv_room (Nat.le_of_ble_eq_true rfl)) dX11_emit_166 ⟨(by first | (simp only [headSpec]; omega) | omega | (dsimp only; omega)), (by first | (simp only [headSpec]; omega) | omega | (dsimp only; omega))⟩) hS (fun σ_s_313 H locs hw_312 hH hS => ?_)
                  obtain ⟨hO9, hF9, hM9, hw_312⟩ := hw_312
                  replace hM := hM.tu hM9 (by decide)
                  replace hF := hF.tu hF9 (by decide)
                  have e_314 : gI σ_s_313 a 32 = a320 := (hM9.i (by decide)).trans e_218
                  have e_315 : aF σ_s_313 (ad E a 1) = f1 := (hM9.a (by decide) (by decide)).trans e_219
                  have e_316 : aF σ_s_313 (ad E a 2) = f2 := (hM9.a (by decide) (by decide)).trans e_220
                  replace hO := hO9
                  generalize ef_318 : aF σ_s_313 (ad E a 3) = g_317 at hw_312
                  generalize ef_320 : aF σ_s_313 (ad E a 35) = g_319 at hw_312
                  have hw_312 : emf f1 g_317 i (gI σ_s_217 a 5 - 1) (gI σ_s_313 a 5) ∧ same F3q212 g_317 0 (gI σ_s_217 a 5) 0 ∧ ofr f35 g_319 (60 * dp) := hw_312
                  refine lv_aload_n hx hb dX11_emit_169 rfl (lv_at hl 0 rfl) ?_
                  refine ok.getR hO h_a (by decide) k13_3 (by decide) (fun _ _ he hv kk => th_get (ci := 11) (C := RX11) (T := TX11) (N := 66) hx hb hts inX11 hown hK hH he rfl 3 (by decide) fl3 hv dX11_emit_170 kk) ?_
                  refine lv_iload hx hb dX11_emit_173 (lv_at hl 4 rfl) ?_
                  refine lv_iconst (v := I 3) hx hb dX11_emit_175 (by decide) ?_
                  refine lv_iadd hx hb dX11_emit_176 ?_
                  refine nq_top (I_add _ _) ?_
                  refine lv_aload_n hx hb dX11_emit_177 rfl (lv_at hl 0 rfl) ?_
                  refine ok.getI hO h_a (by decide) k13_5 (fun _ _ he hv kk => th_get (ci := 11) (C := RX11) (T := TX11) (N := 66) hx hb hts inX11 hown hK hH he rfl 5 (by decide) fl1 hv dX11_emit_178 kk) (fun z_321 e_322 rz_321 lz_321 uz_321 => ?_)
                  refine lv_iload hx hb dX11_emit_181 (lv_at hl 4 rfl) ?_
                  refine lv_iconst (v := I 4) hx hb dX11_emit_183 (by decide) ?_
                  refine lv_idiv hx hb dX11_emit_184 (by decide) ?_
                  refine th_div (n := 4) ⟨by omega, by omega⟩ (by omega) (by decide) (fun z_323 rz_323 hz_323 => ?_)
                  refine lv_isub hx hb dX11_emit_185 ?_
                  refine nq_top (I_sub _ _) ?_
                  refine m_iast hx hb hK hH hS h00 hO h_a k13_3 isA1 (by decide) ef_318 ⟨by omega, by omega⟩ (by omega) (by omega) ⟨by omega, by omega⟩ el1 dX11_emit_186 (fun σ_s_324 H locs hO hF9 hM9 ha9 hH hS => ?_)
                  replace hM := hM.tu hM9 (by decide)
                  replace hF := hF.tu hF9 (by decide)
                  have e_325 : gI σ_s_324 a 32 = a320 := (hM9.i (by decide)).trans e_314
                  have e_326 : aF σ_s_324 (ad E a 1) = f1 := (hM9.a (by decide) (by decide)).trans e_315
                  have e_327 : aF σ_s_324 (ad E a 2) = f2 := (hM9.a (by decide) (by decide)).trans e_316
                  have e_328 : aF σ_s_324 (ad E a 35) = g_319 := (hM9.a (by decide) (by decide)).trans ef_320
                  have e_329 : gI σ_s_324 a 5 = z_321 := (hM9.i (by decide)).trans e_322
                  obtain ⟨g_330, dg_330⟩ : ∃ g9, g9 = upd g_317 (4 * a50 + 3).toNat (I (z_321 - z_323)) := ⟨_, rfl⟩
                  rw [← dg_330] at ha9
                  have ef_331 := ha9
                  exact th_vret hx hb hr hlocks hH hS ⟨hO, hF, hM, by have hn8 := (hnd_216.to (by have h9 := hw_312.2.1; rw [show gI σ_s_217 a 5 = a50 + 1 by omega] at h9; exact h9) (by omega)); have hx8 : emf f1 _ i a50 _ := (by have h9 := hw_312.1; rw [show gI σ_s_217 a 5 - 1 = a50 by omega] at h9; exact h9); have h9 := hx8.node hn8.2.1 hn8.2.2 hn8.1 dg_330 (by omega) (by omega) (by first | exact ⟨by omega, by omega⟩) (by omega); rw [show aF σ_s_324 (ad E a 3) = g_330 from ef_331, show aF σ_s_324 (ad E a 35) = g_319 from e_328, show gI σ a 5 = a50 by omega]; exact ⟨by rw [show gI σ_s_324 a 5 = gI σ_s_313 a 5 by omega]; exact h9.1, by omega, hw_312.2.2⟩⟩ dX11_emit_187
              · replace c_297 := (I_eq (a := z_296) (b := 0) rz_296 (show rng 0 from ⟨by decide, by decide⟩)).mp c_297
                refine lv_aload_n hx hb dX11_emit_115 rfl (lv_at hl 0 rfl) ?_
                refine ok.getR hO h_a (by decide) k13_3 (by decide) (fun _ _ he hv kk => th_get (ci := 11) (C := RX11) (T := TX11) (N := 66) hx hb hts inX11 hown hK hH he rfl 3 (by decide) fl3 hv dX11_emit_116 kk) ?_
                refine lv_iload hx hb dX11_emit_119 (lv_at hl 4 rfl) ?_
                refine lv_iconst (v := I 1) hx hb dX11_emit_121 (by decide) ?_
                refine lv_iadd hx hb dX11_emit_122 ?_
                refine nq_top (I_add _ _) ?_
                refine lv_sipush (v := I (-999)) hx hb dX11_emit_123 (by decide) ?_
                refine lv_sipush (v := I 999) hx hb dX11_emit_126 (by decide) ?_
                refine lv_aload_n hx hb dX11_emit_129 rfl (lv_at hl 0 rfl) ?_
                refine ok.getR hO h_a (by decide) k13_1 (by decide) (fun _ _ he hv kk => th_get (ci := 11) (C := RX11) (T := TX11) (N := 66) hx hb hts inX11 hown hK hH he rfl 1 (by decide) fl2 hv dX11_emit_130 kk) ?_
                refine lv_iconst (v := I 4) hx hb dX11_emit_133 (by decide) ?_
                refine lv_iload_n hx hb dX11_emit_134 rfl (lv_at hl 1 rfl) ?_
                refine lv_imul hx hb dX11_emit_135 ?_
                refine nq_top (I_mul _ _) ?_
                refine lv_iconst (v := I 1) hx hb dX11_emit_136 (by decide) ?_
                refine lv_iadd hx hb dX11_emit_137 ?_
                refine nq_top (I_add _ _) ?_
                refine m_iald hx hb hK hH hO h_a k13_1 isA1 e_219 ⟨by omega, by omega⟩ (by omega) (by omega) dX11_emit_138 (fun z_332 ez_332 rz_332 elx9 => ?_)
                refine lv_aload_n hx hb dX11_emit_139 rfl (lv_at hl 0 rfl) ?_
                refine ok.getI hO h_a (by decide) k13_34 (fun _ _ he hv kk => th_get (ci := 11) (C := RX11) (T := TX11) (N := 66) hx hb hts inX11 hown hK hH he rfl 34 (by decide) fl5 hv dX11_emit_140 kk) (fun z_333 e_334 rz_333 lz_333 uz_333 => ?_)
                refine lv_iadd hx hb dX11_emit_143 ?_
                refine th_addo (fun z_335 rz_335 hz_335 => ?_)
                refine va_mmin hx hb (by rw [hml]; exact hl.1.symm) hown fl6 fl7 fl8 fl9 (Nat.le_of_ble_eq_true rfl) (Nat.le_of_ble_eq_true rfl) (Nat.zero_le _) (Nat.zero_le _) dX11_emit_144 ?_
                refine th_mmin (show rng 999 from ⟨by decide, by decide⟩) rz_335 (fun z_336 rz_336 hz_336 => ?_)
                refine va_mmax hx hb (by rw [hml]; exact hl.1.symm) hown fl10 fl11 fl8 fl12 (Nat.le_of_ble_eq_true rfl) (Nat.le_of_ble_eq_true rfl) (Nat.zero_le _) (Nat.zero_le _) dX11_emit_147 ?_
                refine th_mmax (show rng (-999) from ⟨by decide, by decide⟩) rz_336 (fun z_337 rz_337 hz_337 => ?_)
                refine m_iast hx hb hK hH hS h00 hO h_a k13_3 isA1 (by decide) e_222 ⟨by omega, by omega⟩ (by omega) (by omega) rz_337 el1 dX11_emit_150 (fun σ_s_338 H locs hO hF9 hM9 ha9 hH hS => ?_)
                replace hM := hM.tu hM9 (by decide)
                replace hF := hF.tu hF9 (by decide)
                have e_339 : gI σ_s_338 a 32 = a320 := (hM9.i (by decide)).trans e_218
                have e_340 : aF σ_s_338 (ad E a 1) = f1 := (hM9.a (by decide) (by decide)).trans e_219
                have e_341 : aF σ_s_338 (ad E a 2) = f2 := (hM9.a (by decide) (by decide)).trans e_220
                have e_342 : aF σ_s_338 (ad E a 35) = f35 := (hM9.a (by decide) (by decide)).trans e_221
                have e_343 : gI σ_s_338 a 5 = a50 + 1 := (hM9.i (by decide)).trans e_223
                have e_344 : gI σ_s_338 a 34 = z_333 := (hM9.i (by decide)).trans e_334
                obtain ⟨g_345, dg_345⟩ : ∃ g9, g9 = upd F3q212 (4 * a50 + 1).toNat (I z_337) := ⟨_, rfl⟩
                rw [← dg_345] at ha9
                have ef_346 := ha9
                have hnd_347 : nd f3 g_345 f1 a50 i := hnd_216.up dg_345 (by omega) (by omega)
                refine lv_aload_n hx hb dX11_emit_151 rfl (lv_at hl 0 rfl) ?_
                refine ok.getR hO h_a (by decide) k13_1 (by decide) (fun _ _ he hv kk => th_get (ci := 11) (C := RX11) (T := TX11) (N := 66) hx hb hts inX11 hown hK hH he rfl 1 (by decide) fl2 hv dX11_emit_152 kk) ?_
                refine lv_iload_n hx hb dX11_emit_155 rfl (lv_at hl 1 rfl) ?_
                refine th_calli (va_runS (As := [.ref (ad E a 1), .int (I i)]) (rest := []) ⟨hx, hb, hml, hown, hts⟩ (w_holds l G y b0 σ_s_338 E hO (ad E a 1) 240 f1 (hO.roww h_a k13_1 isA1 e_340 rfl) i (show rng i from ri) (by omega) (by omega) (by omega)) (va_cwS 2 hts gX11_emit_X11_holds rfl rfl rfl (by decide +kernel) ⟨(by first | (simp only [headSpec]; omega) | omega | (dsimp only; omega)), (by first | (simp only [headSpec]; omega) | omega | (dsimp only; omega))⟩) (th_PS hK hH) rfl rfl hl.1 rfl (lv_room (Nat.le_of_ble_eq_true rfl)) dX11_emit_156 ⟨(by first | (simp only [headSpec]; omega) | omega | (dsimp only; omega)), (by first | (simp only [headSpec]; omega) | omega | (dsimp only; omega))⟩) hS (fun z_350 σ_s_349 H locs rz_350 hw_348 hH hS => ?_)
                obtain ⟨e9, bhw_348, hw_348⟩ := hw_348
                replace e9 := e9.symm
                subst e9
                have hw_348 : (z_350 = 1 ∧ 2 ≤ mK f1 i) ∨ (z_350 = 0 ∧ ¬ 2 ≤ mK f1 i) := hw_348
                refine lv_if_eq (tgt := 169) hx hb dX11_emit_159 (by decide) (fun c_351 => ?_) (fun c_351 => ?_)
                · replace c_351 := (I_eq (a := z_350) (b := 0) rz_350 (show rng 0 from ⟨by decide, by decide⟩)).mp c_351
                  refine lv_aload_n hx hb dX11_emit_169 rfl (lv_at hl 0 rfl) ?_
                  refine ok.getR hO h_a (by decide) k13_3 (by decide) (fun _ _ he hv kk => th_get (ci := 11) (C := RX11) (T := TX11) (N := 66) hx hb hts inX11 hown hK hH he rfl 3 (by decide) fl3 hv dX11_emit_170 kk) ?_
                  refine lv_iload hx hb dX11_emit_173 (lv_at hl 4 rfl) ?_
                  refine lv_iconst (v := I 3) hx hb dX11_emit_175 (by decide) ?_
                  refine lv_iadd hx hb dX11_emit_176 ?_
                  refine nq_top (I_add _ _) ?_
                  refine lv_aload_n hx hb dX11_emit_177 rfl (lv_at hl 0 rfl) ?_
                  refine ok.getIc hO h_a (by decide) k13_5 e_343 (fun _ _ he hv kk => th_get (ci := 11) (C := RX11) (T := TX11) (N := 66) hx hb hts inX11 hown hK hH he rfl 5 (by decide) fl1 hv dX11_emit_178 kk) ?_
                  refine lv_iload hx hb dX11_emit_181 (lv_at hl 4 rfl) ?_
                  refine lv_iconst (v := I 4) hx hb dX11_emit_183 (by decide) ?_
                  refine lv_idiv hx hb dX11_emit_184 (by decide) ?_
                  refine th_div (n := 4) ⟨by omega, by omega⟩ (by omega) (by decide) (fun z_352 rz_352 hz_352 => ?_)
                  refine lv_isub hx hb dX11_emit_185 ?_
                  refine nq_top (I_sub _ _) ?_
                  refine m_iast hx hb hK hH hS h00 hO h_a k13_3 isA1 (by decide) ef_346 ⟨by omega, by omega⟩ (by omega) (by omega) ⟨by omega, by omega⟩ el1 dX11_emit_186 (fun σ_s_353 H locs hO hF9 hM9 ha9 hH hS => ?_)
                  replace hM := hM.tu hM9 (by decide)
                  replace hF := hF.tu hF9 (by decide)
                  have e_354 : gI σ_s_353 a 32 = a320 := (hM9.i (by decide)).trans e_339
                  have e_355 : aF σ_s_353 (ad E a 1) = f1 := (hM9.a (by decide) (by decide)).trans e_340
                  have e_356 : aF σ_s_353 (ad E a 2) = f2 := (hM9.a (by decide) (by decide)).trans e_341
                  have e_357 : aF σ_s_353 (ad E a 35) = f35 := (hM9.a (by decide) (by decide)).trans e_342
                  have e_358 : gI σ_s_353 a 5 = a50 + 1 := (hM9.i (by decide)).trans e_343
                  have e_359 : gI σ_s_353 a 34 = z_333 := (hM9.i (by decide)).trans e_344
                  obtain ⟨g_360, dg_360⟩ : ∃ g9, g9 = upd g_345 (4 * a50 + 3).toNat (I (a50 + 1 - z_352)) := ⟨_, rfl⟩
                  rw [← dg_360] at ha9
                  have ef_361 := ha9
                  exact th_vret hx hb hr hlocks hH hS ⟨hO, hF, hM, by have hn8 := hnd_347; have h9 := (emf.leaf (f1 := f1) (g := g_345) (i := i) (m := a50) (by omega)).node hn8.2.1 hn8.2.2 hn8.1 dg_360 (by omega) (by omega) ⟨by omega, by omega⟩ (by omega); rw [show aF σ_s_353 (ad E a 3) = g_360 from ef_361, show aF σ_s_353 (ad E a 35) = f35 from e_357, show gI σ a 5 = a50 by omega]; exact ⟨by rw [show gI σ_s_353 a 5 = a50 + 1 by omega]; exact h9.1, by omega, ofr.rf⟩⟩ dX11_emit_187
                · replace c_351 := mt (I_eq (a := z_350) (b := 0) rz_350 (show rng 0 from ⟨by decide, by decide⟩)).mpr c_351
                  refine lv_aload_n hx hb dX11_emit_162 rfl (lv_at hl 0 rfl) ?_
                  refine lv_iload_n hx hb dX11_emit_163 rfl (lv_at hl 1 rfl) ?_
                  refine lv_iload_n hx hb dX11_emit_164 rfl (lv_at hl 3 rfl) ?_
                  refine lv_iload_n hx hb dX11_emit_165 rfl (lv_at hl 2 rfl) ?_
                  obtain ⟨_, hc_362⟩ := hO.cell h_a (by decide) (ci := 11) rfl
                  refine th_callv (va_runV (As := [.int (I i), .int (I z_1), .int (I dp)]) (rest := []) ⟨hx, hb, hml, hown, hts⟩ (m_emitWithin n ih l G y b0 σ_s_338 E hO a h_a i (show rng i from ri) (by omega) (by omega) z_1 (show rng z_1 from rz_1) (by omega) (by omega) dp (show rng dp from rdp) (by omega) (by omega) f1 e_340 f2 e_341 g_345 ef_346 f35 e_342 (hy0) (by omega) (hy2) ((by rw [show gI σ_s_338 a 32 = gI σ a 32 by omega]; exact hy3)) (by omega) (hy5) (by omega) (by omega) (by omega)) (cwV 3 hts gX11_emit_X11_emitWithin rfl rfl rfl (by decide +kernel) ⟨(by first | (simp only [headSpec]; omega) | omega | (dsimp only; omega)), (by first | (simp only [headSpec]; omega) | omega | (dsimp only; omega))⟩) (th_PV hK hH rfl hc_362) rfl rfl hl.1 rfl (lv_room (Nat.le_of_ble_eq_true rfl)) dX11_emit_166 ⟨(by first | (simp only [headSpec]; omega) | omega | (dsimp only; omega)), (by first | (simp only [headSpec]; omega) | omega | (dsimp only; omega))⟩) hS (fun σ_s_364 H locs hw_363 hH hS => ?_)
                  obtain ⟨hO9, hF9, hM9, hw_363⟩ := hw_363
                  replace hM := hM.tu hM9 (by decide)
                  replace hF := hF.tu hF9 (by decide)
                  have e_365 : gI σ_s_364 a 32 = a320 := (hM9.i (by decide)).trans e_339
                  have e_366 : aF σ_s_364 (ad E a 1) = f1 := (hM9.a (by decide) (by decide)).trans e_340
                  have e_367 : aF σ_s_364 (ad E a 2) = f2 := (hM9.a (by decide) (by decide)).trans e_341
                  have e_368 : gI σ_s_364 a 34 = z_333 := (hM9.i (by decide)).trans e_344
                  replace hO := hO9
                  generalize ef_370 : aF σ_s_364 (ad E a 3) = g_369 at hw_363
                  generalize ef_372 : aF σ_s_364 (ad E a 35) = g_371 at hw_363
                  have hw_363 : emf f1 g_369 i (gI σ_s_338 a 5 - 1) (gI σ_s_364 a 5) ∧ same g_345 g_369 0 (gI σ_s_338 a 5) 0 ∧ ofr f35 g_371 (60 * dp) := hw_363
                  refine lv_aload_n hx hb dX11_emit_169 rfl (lv_at hl 0 rfl) ?_
                  refine ok.getR hO h_a (by decide) k13_3 (by decide) (fun _ _ he hv kk => th_get (ci := 11) (C := RX11) (T := TX11) (N := 66) hx hb hts inX11 hown hK hH he rfl 3 (by decide) fl3 hv dX11_emit_170 kk) ?_
                  refine lv_iload hx hb dX11_emit_173 (lv_at hl 4 rfl) ?_
                  refine lv_iconst (v := I 3) hx hb dX11_emit_175 (by decide) ?_
                  refine lv_iadd hx hb dX11_emit_176 ?_
                  refine nq_top (I_add _ _) ?_
                  refine lv_aload_n hx hb dX11_emit_177 rfl (lv_at hl 0 rfl) ?_
                  refine ok.getI hO h_a (by decide) k13_5 (fun _ _ he hv kk => th_get (ci := 11) (C := RX11) (T := TX11) (N := 66) hx hb hts inX11 hown hK hH he rfl 5 (by decide) fl1 hv dX11_emit_178 kk) (fun z_373 e_374 rz_373 lz_373 uz_373 => ?_)
                  refine lv_iload hx hb dX11_emit_181 (lv_at hl 4 rfl) ?_
                  refine lv_iconst (v := I 4) hx hb dX11_emit_183 (by decide) ?_
                  refine lv_idiv hx hb dX11_emit_184 (by decide) ?_
                  refine th_div (n := 4) ⟨by omega, by omega⟩ (by omega) (by decide) (fun z_375 rz_375 hz_375 => ?_)
                  refine lv_isub hx hb dX11_emit_185 ?_
                  refine nq_top (I_sub _ _) ?_
                  refine m_iast hx hb hK hH hS h00 hO h_a k13_3 isA1 (by decide) ef_370 ⟨by omega, by omega⟩ (by omega) (by omega) ⟨by omega, by omega⟩ el1 dX11_emit_186 (fun σ_s_376 H locs hO hF9 hM9 ha9 hH hS => ?_)
                  replace hM := hM.tu hM9 (by decide)
                  replace hF := hF.tu hF9 (by decide)
                  have e_377 : gI σ_s_376 a 32 = a320 := (hM9.i (by decide)).trans e_365
                  have e_378 : aF σ_s_376 (ad E a 1) = f1 := (hM9.a (by decide) (by decide)).trans e_366
                  have e_379 : aF σ_s_376 (ad E a 2) = f2 := (hM9.a (by decide) (by decide)).trans e_367
                  have e_380 : gI σ_s_376 a 34 = z_333 := (hM9.i (by decide)).trans e_368
                  have e_381 : aF σ_s_376 (ad E a 35) = g_371 := (hM9.a (by decide) (by decide)).trans ef_372
                  have e_382 : gI σ_s_376 a 5 = z_373 := (hM9.i (by decide)).trans e_374
                  obtain ⟨g_383, dg_383⟩ : ∃ g9, g9 = upd g_369 (4 * a50 + 3).toNat (I (z_373 - z_375)) := ⟨_, rfl⟩
                  rw [← dg_383] at ha9
                  have ef_384 := ha9
                  exact th_vret hx hb hr hlocks hH hS ⟨hO, hF, hM, by have hn8 := (hnd_347.to (by have h9 := hw_363.2.1; rw [show gI σ_s_338 a 5 = a50 + 1 by omega] at h9; exact h9) (by omega)); have hx8 : emf f1 _ i a50 _ := (by have h9 := hw_363.1; rw [show gI σ_s_338 a 5 - 1 = a50 by omega] at h9; exact h9); have h9 := hx8.node hn8.2.1 hn8.2.2 hn8.1 dg_383 (by omega) (by omega) (by first | exact ⟨by omega, by omega⟩) (by omega); rw [show aF σ_s_376 (ad E a 3) = g_383 from ef_384, show aF σ_s_376 (ad E a 35) = g_371 from e_381, show gI σ a 5 = a50 by omega]; exact ⟨by rw [show gI σ_s_376 a 5 = gI σ_s_364 a 5 by omega]; exact h9.1, by omega, hw_363.2.2⟩⟩ dX11_emit_187
        · replace c_215 := mt (I_le (a := 4) (b := v5q213) (show rng 4 from ⟨by decide, by decide⟩) rv5q213).mpr c_215
          refine lv_aload_n hx hb dX11_emit_55 rfl (lv_at hl 0 rfl) ?_
          refine ok.getR hO h_a (by decide) k13_3 (by decide) (fun _ _ he hv kk => th_get (ci := 11) (C := RX11) (T := TX11) (N := 66) hx hb hts inX11 hown hK hH he rfl 3 (by decide) fl3 hv dX11_emit_56 kk) ?_
          refine lv_iload hx hb dX11_emit_59 (lv_at hl 4 rfl) ?_
          refine lv_iload hx hb dX11_emit_61 (lv_at hl 5 rfl) ?_
          refine lv_iadd hx hb dX11_emit_63 ?_
          refine nq_top (I_add _ _) ?_
          refine lv_aload_n hx hb dX11_emit_64 rfl (lv_at hl 0 rfl) ?_
          refine ok.getR hO h_a (by decide) k13_1 (by decide) (fun _ _ he hv kk => th_get (ci := 11) (C := RX11) (T := TX11) (N := 66) hx hb hts inX11 hown hK hH he rfl 1 (by decide) fl2 hv dX11_emit_65 kk) ?_
          refine lv_iconst (v := I 4) hx hb dX11_emit_68 (by decide) ?_
          refine lv_iload_n hx hb dX11_emit_69 rfl (lv_at hl 1 rfl) ?_
          refine lv_imul hx hb dX11_emit_70 ?_
          refine nq_top (I_mul _ _) ?_
          refine lv_iload hx hb dX11_emit_71 (lv_at hl 5 rfl) ?_
          refine lv_iadd hx hb dX11_emit_73 ?_
          refine nq_top (I_add _ _) ?_
          refine m_iald hx hb hK hH hO h_a k13_1 isA1 J_214_5 ⟨by omega, by omega⟩ (by omega) (by omega) dX11_emit_74 (fun z_385 ez_385 rz_385 elx9 => ?_)
          refine m_iast hx hb hK hH hS h00 hO h_a k13_3 isA1 (by decide) J_214_8 ⟨by omega, by omega⟩ (by omega) (by omega) rz_385 el1 dX11_emit_75 (fun σ_s_386 H locs hO hF9 hM9 ha9 hH hS => ?_)
          replace hM := hM.tu hM9 (by decide)
          replace hF := hF.tu hF9 (by decide)
          have e_387 : gI σ_s_386 a 5 = a50 := (hM9.i (by decide)).trans J_214_3
          have e_388 : gI σ_s_386 a 32 = a320 := (hM9.i (by decide)).trans J_214_4
          have e_389 : aF σ_s_386 (ad E a 1) = f1 := (hM9.a (by decide) (by decide)).trans J_214_5
          have e_390 : aF σ_s_386 (ad E a 2) = f2 := (hM9.a (by decide) (by decide)).trans J_214_6
          have e_391 : aF σ_s_386 (ad E a 35) = f35 := (hM9.a (by decide) (by decide)).trans J_214_7
          obtain ⟨g_392, dg_392⟩ : ∃ g9, g9 = upd F3q212 (4 * a50 + v5q213).toNat (I z_385) := ⟨_, rfl⟩
          rw [← dg_392] at ha9
          have ef_393 := ha9
          refine lv_iinc (v := I (v5q213 + 1)) (lv' := [(5, .int (I (v5q213 + 1))), (0, .ref a), (1, .int (I i)), (2, .int (I dp)), (3, .int (I z_1)), (4, .int (I (4 * a50)))]) hx hb dX11_emit_76 hl (k := 5) rfl (I_add _ _) (by decide) rfl (fun ls hl => ?_)
          refine lv_goto (tgt := 49) hx hb dX11_emit_79 (by decide) ?_
          exact ihJ_214 (v5q213 + 1, g_392) σ_s_386 _ _ _ (by first | (dsimp only; omega) | omega) ⟨hO, hF, hM, hH, hS, lv_sub hl [1, 2, 3, 4, 5, 0] rfl, ⟨by first | (dsimp only; omega) | omega, by first | (dsimp only; omega) | omega⟩, by first | (dsimp only; omega) | omega, by first | (dsimp only; omega) | omega, (J_214_2.step dg_392 (by first | (dsimp only; omega) | omega) ez_385 (by first | (dsimp only; omega) | omega) (by first | (dsimp only; omega) | omega) (by first | (dsimp only; omega) | omega)), e_387, e_388, e_389, e_390, e_391, ef_393⟩
      · replace c_211 := (I_eq (a := a320) (b := 0) ra320 (show rng 0 from ⟨by decide, by decide⟩)).mp c_211
        have ht9 := (hy3 (by omega)).2
        refine lv_aload_n hx hb dX11_emit_18 rfl (lv_at hl 1 rfl) ?_
        refine lv_aload_n hx hb dX11_emit_19 rfl (lv_at hl 1 rfl) ?_
        refine ok.getR hO h_a (by decide) k13_2 (by decide) (fun _ _ he hv kk => th_get (ci := 11) (C := RX11) (T := TX11) (N := 66) hx hb hts inX11 hown hK hH he rfl 2 (by decide) fl13 hv dX11_emit_20 kk) ?_
        refine lv_iconst (v := I 0) hx hb dX11_emit_23 (by decide) ?_
        refine lv_aload_n hx hb dX11_emit_24 rfl (lv_at hl 1 rfl) ?_
        refine ok.getR hO h_a (by decide) k13_1 (by decide) (fun _ _ he hv kk => th_get (ci := 11) (C := RX11) (T := TX11) (N := 66) hx hb hts inX11 hown hK hH he rfl 1 (by decide) fl2 hv dX11_emit_25 kk) ?_
        refine lv_iconst (v := I 4) hx hb dX11_emit_28 (by decide) ?_
        refine lv_iload_n hx hb dX11_emit_29 rfl (lv_at hl 2 rfl) ?_
        refine lv_imul hx hb dX11_emit_30 ?_
        refine nq_top (I_mul _ _) ?_
        refine lv_iconst (v := I 2) hx hb dX11_emit_31 (by decide) ?_
        refine lv_iadd hx hb dX11_emit_32 ?_
        refine nq_top (I_add _ _) ?_
        refine m_iald hx hb hK hH hO h_a k13_1 isA1 ef1 ⟨by omega, by omega⟩ (by omega) (by omega) dX11_emit_33 (fun z_394 ez_394 rz_394 elx9 => ?_)
        obtain ⟨_, hc_395⟩ := hO.cell h_a (by decide) (ci := 11) rfl
        refine th_callv (va_runV (As := [.ref (ad E a 2), .int (I 0), .int (I z_394)]) (rest := []) ⟨hx, hb, hml, hown, hts⟩ (m_copyWith2 l G y b0 σ E hO a h_a 0 (show rng 0 from (show rng 0 from ⟨by decide, by decide⟩)) (by omega) (by omega) z_394 (show rng z_394 from rz_394) f2 ef2 f3 ef3 ((hy3 (by omega))) (by omega) (by omega)) (cwV 3 hts gX11_emit_X11_copyWith rfl rfl rfl (by decide +kernel) ⟨(by first | (simp only [headSpec]; omega) | omega | (dsimp only; omega)), (by first | (simp only [headSpec]; omega) | omega | (dsimp only; omega))⟩) (th_PV hK hH rfl hc_395) rfl rfl hl.1 rfl (lv_room (Nat.le_of_ble_eq_true rfl)) dX11_emit_34 ⟨(by first | (simp only [headSpec]; omega) | omega | (dsimp only; omega)), (by first | (simp only [headSpec]; omega) | omega | (dsimp only; omega))⟩) hS (fun σ_s_397 H locs hw_396 hH hS => ?_)
        obtain ⟨hO9, hF9, hM9, hw_396⟩ := hw_396
        replace hM := hM.tu hM9 (by decide)
        replace hF := hF.tu hF9 (by decide)
        have e_398 : aF σ_s_397 (ad E a 1) = f1 := (hM9.a (by decide) (by decide)).trans ef1
        have e_399 : aF σ_s_397 (ad E a 2) = f2 := (hM9.a (by decide) (by decide)).trans ef2
        have e_400 : aF σ_s_397 (ad E a 35) = f35 := (hM9.a (by decide) (by decide)).trans ef35
        have e_401 : gI σ_s_397 a 32 = a320 := (hM9.i (by decide)).trans ea320
        replace hO := hO9
        generalize ef_403 : aF σ_s_397 (ad E a 3) = g_402 at hw_396
        have hw_396 : blk f3 g_402 (gI σ a 5) (gI σ a 5 + mS f2 0) z_394 ∧ mS g_402 (gI σ a 5) = mS f2 0 ∧ gI σ_s_397 a 5 = gI σ a 5 + mS f2 0 := hw_396
        exact th_vret hx hb hr hlocks hH hS ⟨hO, hF, hM, by rw [show aF σ_s_397 (ad E a 3) = g_402 from ef_403, show aF σ_s_397 (ad E a 35) = f35 from e_400, show mY f1 i = z_394 from ez_394, show gI σ_s_397 a 5 = gI σ a 5 + mS f2 0 by omega]; exact ⟨hw_396.1, by omega, ofr.rf⟩⟩ dX11_emit_37
