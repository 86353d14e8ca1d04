set_option maxHeartbeats 4000000 in
set_option maxRecDepth 100000 in
theorem j_feed (l : Launch) (G : va_G) (y : Nat → ClassId) (b0 : Nat) (σ : th_M) (E : th_E) (hO : ok y E σ) (a : Nat) (h_a : kd E a = 13) (w1 : Int) (rw1 : rng w1) (w2 : Int) (rw2 : rng w2) (w3 : Int) (rw3 : rng w3) (w4 : Int) (rw4 : rng w4) (w5 : Int) (rw5 : rng w5) (f1 : Nat → Int32) (ef1 : aF σ (ad E a 1) = f1) (f37 : Nat → Int32) (ef37 : aF σ (ad E a 37) = f37) (f61 : Nat → Int32) (ef61 : aF σ (ad E a 61) = f61) (f62 : Nat → Int32) (ef62 : aF σ (ad E a 62) = f62) (f39 : Nat → Int32) (ef39 : aF σ (ad E a 39) = f39) (f40 : Nat → Int32) (ef40 : aF σ (ad E a 40) = f40) (f42 : Nat → Int32) (ef42 : aF σ (ad E a 42) = f42) (f43 : Nat → Int32) (ef43 : aF σ (ad E a 43) = f43) (f44 : Nat → Int32) (ef44 : aF σ (ad E a 44) = f44) (f45 : Nat → Int32) (ef45 : aF σ (ad E a 45) = f45) (f46 : Nat → Int32) (ef46 : aF σ (ad E a 46) = f46) (hy0 : jw f1 f37 f61 f62 f39 f40 f42 f43 f44 f45 f46 (gI σ a 36) (gI σ a 58) (gI σ a 59)) : Met l yX11_feed wsX11_feed ({ frames := 0, cells := 0, slots := 0, locals := 0 }) (th_P G y b0 σ [.ref a, .int (I w1), .int (I w2), .int (I w3), .int (I w4), .int (I w5)]) (th_Qi G b0 (fun r σ1 => ok y E σ1 ∧ fr [13] E σ σ1 ∧ fm [0, 6, 12] E σ σ1 a ∧ (jw (aF σ1 (ad E a 1)) (aF σ1 (ad E a 37)) (aF σ1 (ad E a 61)) (aF σ1 (ad E a 62)) (aF σ1 (ad E a 39)) (aF σ1 (ad E a 40)) (aF σ1 (ad E a 42)) (aF σ1 (ad E a 43)) (aF σ1 (ad E a 44)) (aF σ1 (ad E a 45)) (aF σ1 (ad E a 46)) (gI σ1 a 36) (gI σ1 a 58) (gI σ1 a 59) ∧ ((gI σ a 12 + 20 ≤ 400 ∧ gI σ1 a 12 = gI σ a 12 + 20 ∧ r = gI σ a 12 + 20) ∨ (¬ gI σ a 12 + 20 ≤ 400 ∧ gI σ1 a 12 = gI σ a 12 ∧ r = -1))))) 0 0 (th_A b0) := by
  refine Met.ofW (cc := cX11_feed) (maxL := 8) (ret := (some .int)) (by decide) rfl ?_
  intro p e s m args below meth c s₁ B hml hv
  obtain ⟨rfl, hH, hK⟩ := hv
  have hx := B.exec
  have hb := B.bytes
  have hr := B.returns
  have hts := atoms_spec (ws := wsX11_feed) B.pre
  have hown : s.vm.findClass RX11 = some m.cls := findClass_of_methodNamed B.named
  have hlocks := B.notSynchronized
  have h00 : b0 ≤ s.heap.size := hH.1
  have hS : va_S (th_A b0) s.heap s.heap [] := va_S.rf
  have hF : fr [13] E σ σ := fr.rf
  have hM : fm [0, 6, 12] E σ σ a := fm.rf
  have hj := hy0
  have hw1 := hj.1.1.1
  have hm1 := hj.1.2.1
  have hm2 := hj.1.2.2.1
  have hm3 := hj.2.2.2.2.1
  have hm4 := hj.2.2.2.2.2.1
  have inX11 : ∀ w ∈ wsX110, w ∈ wsX11_feed := by decide +kernel
  have fl0 := hts (.fieldLink RX11 111 "NestQueryModel" "code" "I") (by decide +kernel)
  have fl1 := hts (.fieldLink RX11 114 "NestQueryModel" "taped" "I") (by decide +kernel)
  have fl2 := hts (.fieldLink RX11 22 "NestQueryModel" "tape" "[I") (by decide +kernel)
  have hl := lv_entry ([.ref a, .int (I w1), .int (I w2), .int (I w3), .int (I w4), .int (I w5)]) (n := 8) (Nat.le_of_ble_eq_true rfl)
  rw [lg_entry_eq]
  generalize (lg_sl ([.ref a, .int (I w1), .int (I w2), .int (I w3), .int (I w4), .int (I w5)]) ++ List.replicate (8 - (lg_sl ([.ref a, .int (I w1), .int (I w2), .int (I w3), .int (I w4), .int (I w5)])).length) Slot.unset).toArray = ls at hl ⊢
  have hl : lv_has ls 8 [(0, .ref a), (1, .int (I w1)), (2, .int (I w2)), (3, .int (I w3)), (4, .int (I w4)), (5, .int (I w5))] := hl
  obtain ⟨a360, ea360, ra360, la360, ua360⟩ := hO.gi h_a (by decide) k13_36
  obtain ⟨a580, ea580, ra580, la580, ua580⟩ := hO.gi h_a (by decide) k13_58
  obtain ⟨a590, ea590, ra590, la590, ua590⟩ := hO.gi h_a (by decide) k13_59
  obtain ⟨a120, ea120, ra120, la120, ua120⟩ := hO.gi h_a (by decide) k13_12
  refine lv_aload_n hx hb dX11_feed_0 rfl (lv_at hl 0 rfl) ?_
  refine lv_iconst (v := I 0) hx hb dX11_feed_1 (by decide) ?_
  refine ok.putJ hO h_a k13_0 (show rng 0 from ⟨by decide, by decide⟩) (by omega) (by omega) (fun _ he hl9 kk => th_put (ci := 11) (v := .int (I 0)) (ty := .int) (C := RX11) (T := TX11) (N := 66) hx hb hts inX11 tyX11 tyX11_ok nmX11 hown hK hH hS h00 he rfl 0 (by decide) fl0 rfl (by decide +kernel) rfl rfl hl9 dX11_feed_2 kk) (fun σ_s_1 H locs hO hF9 hM9 hg9 ha9 hH hS => ?_)
  replace hM := hM.tu hM9 (by decide)
  replace hF := hF.tu hF9 (by decide)
  have e_2 : aF σ_s_1 (ad E a 1) = f1 := (hM9.a (by decide) (by decide)).trans ef1
  have e_3 : aF σ_s_1 (ad E a 37) = f37 := (hM9.a (by decide) (by decide)).trans ef37
  have e_4 : aF σ_s_1 (ad E a 61) = f61 := (hM9.a (by decide) (by decide)).trans ef61
  have e_5 : aF σ_s_1 (ad E a 62) = f62 := (hM9.a (by decide) (by decide)).trans ef62
  have e_6 : aF σ_s_1 (ad E a 39) = f39 := (hM9.a (by decide) (by decide)).trans ef39
  have e_7 : aF σ_s_1 (ad E a 40) = f40 := (hM9.a (by decide) (by decide)).trans ef40
  have e_8 : aF σ_s_1 (ad E a 42) = f42 := (hM9.a (by decide) (by decide)).trans ef42
  have e_9 : aF σ_s_1 (ad E a 43) = f43 := (hM9.a (by decide) (by decide)).trans ef43
  have e_10 : aF σ_s_1 (ad E a 44) = f44 := (hM9.a (by decide) (by decide)).trans ef44
  have e_11 : aF σ_s_1 (ad E a 45) = f45 := (hM9.a (by decide) (by decide)).trans ef45
  have e_12 : aF σ_s_1 (ad E a 46) = f46 := (hM9.a (by decide) (by decide)).trans ef46
  have e_13 : gI σ_s_1 a 36 = a360 := (hM9.i (by decide)).trans ea360
  have e_14 : gI σ_s_1 a 58 = a580 := (hM9.i (by decide)).trans ea580
  have e_15 : gI σ_s_1 a 59 = a590 := (hM9.i (by decide)).trans ea590
  have e_16 : gI σ_s_1 a 12 = a120 := (hM9.i (by decide)).trans ea120
  have e_17 := hg9
  refine lv_aload_n hx hb dX11_feed_5 rfl (lv_at hl 0 rfl) ?_
  refine ok.getIc hO h_a (by decide) k13_12 e_16 (fun _ _ he hv kk => th_get (ci := 11) (C := RX11) (T := TX11) (N := 66) hx hb hts inX11 hown hK hH he rfl 12 (by decide) fl1 hv dX11_feed_6 kk) ?_
  refine lv_bipush (v := I 20) hx hb dX11_feed_9 (by decide) ?_
  refine lv_iadd hx hb dX11_feed_11 ?_
  refine nq_top (I_add _ _) ?_
  refine lv_sipush (v := I 400) hx hb dX11_feed_12 (by decide) ?_
  refine lv_icmp_le (tgt := 20) hx hb dX11_feed_15 (by decide) (fun c_18 => ?_) (fun c_18 => ?_)
  · replace c_18 := (I_le (a := a120 + 20) (b := 400) ⟨by omega, by omega⟩ (show rng 400 from ⟨by decide, by decide⟩)).mp c_18
    refine lv_iconst (v := I 0) hx hb dX11_feed_20 (by decide) ?_
    refine lv_istore (lv' := [(6, .int (I 0)), (0, .ref a), (1, .int (I w1)), (2, .int (I w2)), (3, .int (I w3)), (4, .int (I w4)), (5, .int (I w5))]) hx hb dX11_feed_21 hl (by decide) rfl (fun ls hl => ?_)
    refine th_loop (α := Int × Int) (pc := 23) (fun x9 => (20 - x9.1).toNat) (fun x9 σ9 H9 l9 ls9 => ok y E σ9 ∧ fr [13] E σ σ9 ∧ fm [0, 6, 12] E σ σ9 a ∧ th_H G b0 σ9 H9 ∧ va_S (th_A b0) s.heap H9 l9 ∧ lv_has ls9 8 [(0, .ref a), (1, .int (I w1)), (2, .int (I w2)), (3, .int (I w3)), (4, .int (I w4)), (5, .int (I w5)), (6, .int (I x9.1))] ∧ rng x9.1 ∧ rng x9.2 ∧ (0 ≤ x9.1) ∧ (x9.1 ≤ 20) ∧ (x9.2 = gI σ a 12 + x9.1) ∧ (0 ≤ x9.2) ∧ (x9.2 ≤ 400) ∧ (gI σ9 a 36 = a360) ∧ (gI σ9 a 58 = a580) ∧ (gI σ9 a 59 = a590) ∧ (gI σ9 a 0 = 0) ∧ (aF σ9 (ad E a 1) = f1) ∧ (aF σ9 (ad E a 37) = f37) ∧ (aF σ9 (ad E a 61) = f61) ∧ (aF σ9 (ad E a 62) = f62) ∧ (aF σ9 (ad E a 39) = f39) ∧ (aF σ9 (ad E a 40) = f40) ∧ (aF σ9 (ad E a 42) = f42) ∧ (aF σ9 (ad E a 43) = f43) ∧ (aF σ9 (ad E a 44) = f44) ∧ (aF σ9 (ad E a 45) = f45) ∧ (aF σ9 (ad E a 46) = f46) ∧ (gI σ9 a 12 = x9.2)) ?_ (0, a120) σ_s_1 _ _ _ ⟨hO, hF, hM, hH, hS, lv_sub hl [1, 2, 3, 4, 5, 6, 0] rfl, (show rng 0 from ⟨by decide, by decide⟩), ra120, by first | (dsimp only; omega) | omega, by first | (dsimp only; omega) | omega, by first | (dsimp only; omega) | omega, by first | (dsimp only; omega) | omega, by first | (dsimp only; omega) | omega, e_13, e_14, e_15, e_17, e_2, e_3, e_4, e_5, e_6, e_7, e_8, e_9, e_10, e_11, e_12, e_16⟩
    intro x9 σ_J_135 H locs ls hI9 ihJ_135
    obtain ⟨v6q134, G12q133⟩ := x9
    obtain ⟨hO, hF, hM, hH, hS, hl, rv6q134, rG12q133, J_135_0, J_135_1, J_135_2, J_135_3, J_135_4, J_135_5, J_135_6, J_135_7, J_135_8, J_135_9, J_135_10, J_135_11, J_135_12, J_135_13, J_135_14, J_135_15, J_135_16, J_135_17, J_135_18, J_135_19, J_135_20⟩ := hI9
    have hl : lv_has ls 8 [(0, .ref a), (1, .int (I w1)), (2, .int (I w2)), (3, .int (I w3)), (4, .int (I w4)), (5, .int (I w5)), (6, .int (I v6q134))] := hl
    have rv6q134 : rng v6q134 := rv6q134
    have rG12q133 : rng G12q133 := rG12q133
    have J_135_0 : 0 ≤ v6q134 := J_135_0
    have J_135_1 : v6q134 ≤ 20 := J_135_1
    have J_135_2 : G12q133 = gI σ a 12 + v6q134 := J_135_2
    have J_135_3 : 0 ≤ G12q133 := J_135_3
    have J_135_4 : G12q133 ≤ 400 := J_135_4
    have J_135_5 : gI σ_J_135 a 36 = a360 := J_135_5
    have J_135_6 : gI σ_J_135 a 58 = a580 := J_135_6
    have J_135_7 : gI σ_J_135 a 59 = a590 := J_135_7
    have J_135_8 : gI σ_J_135 a 0 = 0 := J_135_8
    have J_135_9 : aF σ_J_135 (ad E a 1) = f1 := J_135_9
    have J_135_10 : aF σ_J_135 (ad E a 37) = f37 := J_135_10
    have J_135_11 : aF σ_J_135 (ad E a 61) = f61 := J_135_11
    have J_135_12 : aF σ_J_135 (ad E a 62) = f62 := J_135_12
    have J_135_13 : aF σ_J_135 (ad E a 39) = f39 := J_135_13
    have J_135_14 : aF σ_J_135 (ad E a 40) = f40 := J_135_14
    have J_135_15 : aF σ_J_135 (ad E a 42) = f42 := J_135_15
    have J_135_16 : aF σ_J_135 (ad E a 43) = f43 := J_135_16
    have J_135_17 : aF σ_J_135 (ad E a 44) = f44 := J_135_17
    have J_135_18 : aF σ_J_135 (ad E a 45) = f45 := J_135_18
    have J_135_19 : aF σ_J_135 (ad E a 46) = f46 := J_135_19
    have J_135_20 : gI σ_J_135 a 12 = G12q133 := J_135_20
    refine lv_iload hx hb dX11_feed_23 (lv_at hl 6 rfl) ?_
    refine lv_bipush (v := I 20) hx hb dX11_feed_25 (by decide) ?_
    refine lv_icmp_ge (tgt := 120) hx hb dX11_feed_27 (by decide) (fun c_136 => ?_) (fun c_136 => ?_)
    · replace c_136 := (I_le (a := 20) (b := v6q134) (show rng 20 from ⟨by decide, by decide⟩) rv6q134).mp c_136
      refine lv_aload_n hx hb dX11_feed_120 rfl (lv_at hl 0 rfl) ?_
      refine ok.getIc hO h_a (by decide) k13_12 J_135_20 (fun _ _ he hv kk => th_get (ci := 11) (C := RX11) (T := TX11) (N := 66) hx hb hts inX11 hown hK hH he rfl 12 (by decide) fl1 hv dX11_feed_121 kk) ?_
      exact th_iret hx hb hr hlocks hH hS (z := G12q133) rG12q133 ⟨hO, hF, hM, by rw [show aF σ_J_135 (ad E a 1) = f1 from J_135_9, show aF σ_J_135 (ad E a 37) = f37 from J_135_10, show aF σ_J_135 (ad E a 61) = f61 from J_135_11, show aF σ_J_135 (ad E a 62) = f62 from J_135_12, show aF σ_J_135 (ad E a 39) = f39 from J_135_13, show aF σ_J_135 (ad E a 40) = f40 from J_135_14, show aF σ_J_135 (ad E a 42) = f42 from J_135_15, show aF σ_J_135 (ad E a 43) = f43 from J_135_16, show aF σ_J_135 (ad E a 44) = f44 from J_135_17, show aF σ_J_135 (ad E a 45) = f45 from J_135_18, show aF σ_J_135 (ad E a 46) = f46 from J_135_19]; exact ⟨hj.n (by omega) (by omega) (by omega), by omega⟩⟩ dX11_feed_124
    · replace c_136 := mt (I_le (a := 20) (b := v6q134) (show rng 20 from ⟨by decide, by decide⟩) rv6q134).mpr c_136
      refine lv_iload hx hb dX11_feed_30 (lv_at hl 6 rfl) ?_
      refine lv_iconst (v := I 4) hx hb dX11_feed_32 (by decide) ?_
      refine th_join (α := Int) (J := 76) (stk := fun x9 => [.int (I x9)]) (fun x9 σ9 H9 l9 ls9 => σ9 = σ_J_135 ∧ th_H G b0 σ9 H9 ∧ va_S (th_A b0) s.heap H9 l9 ∧ lv_has ls9 8 [(0, .ref a), (1, .int (I w1)), (2, .int (I w2)), (3, .int (I w3)), (4, .int (I w4)), (5, .int (I w5)), (6, .int (I v6q134))] ∧ rng x9) ?_ (fun jK_142 => ?_)
      · intro x9 σ_K_142 H locs ls hI9
        obtain ⟨w0q141, ex9⟩ : ∃ z, z = x9 := ⟨_, rfl⟩
        subst ex9
        obtain ⟨eK_142, hH, hS, hl, rw0q141⟩ := hI9
        replace eK_142 := eK_142.symm
        subst eK_142
        have hl : lv_has ls 8 [(0, .ref a), (1, .int (I w1)), (2, .int (I w2)), (3, .int (I w3)), (4, .int (I w4)), (5, .int (I w5)), (6, .int (I v6q134))] := hl
        have rw0q141 : rng w0q141 := rw0q141
        refine lv_istore (lv' := [(7, .int (I w0q141)), (0, .ref a), (1, .int (I w1)), (2, .int (I w2)), (3, .int (I w3)), (4, .int (I w4)), (5, .int (I w5)), (6, .int (I v6q134))]) hx hb dX11_feed_76 hl (by decide) rfl (fun ls hl => ?_)
        refine lv_aload_n hx hb dX11_feed_78 rfl (lv_at hl 1 rfl) ?_
        refine ok.getR hO h_a (by decide) k13_6 (by decide) (fun _ _ he hv kk => th_get (ci := 11) (C := RX11) (T := TX11) (N := 66) hx hb hts inX11 hown hK hH he rfl 6 (by decide) fl2 hv dX11_feed_79 kk) ?_
        refine lv_aload_n hx hb dX11_feed_82 rfl (lv_at hl 1 rfl) ?_
        refine ok.getIc hO h_a (by decide) k13_12 J_135_20 (fun _ _ he hv kk => th_get (ci := 11) (C := RX11) (T := TX11) (N := 66) hx hb hts inX11 hown hK hH he rfl 12 (by decide) fl1 hv dX11_feed_83 kk) ?_
        refine lv_iload hx hb dX11_feed_86 (lv_at hl 0 rfl) ?_
        refine lv_bipush (v := I 24) hx hb dX11_feed_88 (by decide) ?_
        refine lv_bipush (v := I 8) hx hb dX11_feed_90 (by decide) ?_
        refine lv_iload hx hb dX11_feed_92 (lv_at hl 7 rfl) ?_
        refine lv_iconst (v := I 4) hx hb dX11_feed_94 (by decide) ?_
        refine lv_irem hx hb dX11_feed_95 (by decide) ?_
        refine th_topi (fun z_143 rz_143 => ?_)
        refine lv_imul hx hb dX11_feed_96 ?_
        refine nq_top (I_mul _ _) ?_
        refine lv_isub hx hb dX11_feed_97 ?_
        refine th_subo (fun z_144 rz_144 hz_144 => ?_)
        refine lv_ishr hx hb dX11_feed_98 ?_
        refine th_topi (fun z_145 rz_145 => ?_)
        refine lv_sipush (v := I 255) hx hb dX11_feed_99 (by decide) ?_
        refine lv_iand hx hb dX11_feed_102 ?_
        refine th_and255 (fun z_146 rz_146 hz_146 => ?_)
        obtain ⟨f_148, ef_149⟩ : ∃ f9, aF σ_J_135 (ad E a 6) = f9 := ⟨_, rfl⟩
        refine m_iast hx hb hK hH hS h00 hO h_a k13_6 isA1 (by decide) ef_149 rG12q133 (by omega) (by omega) rz_146 el1 dX11_feed_103 (fun σ_s_147 H locs hO hF9 hM9 ha9 hH hS => ?_)
        replace hM := hM.tu hM9 (by decide)
        replace hF := hF.tu hF9 (by decide)
        have e_150 : gI σ_s_147 a 36 = a360 := (hM9.i (by decide)).trans J_135_5
        have e_151 : gI σ_s_147 a 58 = a580 := (hM9.i (by decide)).trans J_135_6
        have e_152 : gI σ_s_147 a 59 = a590 := (hM9.i (by decide)).trans J_135_7
        have e_153 : gI σ_s_147 a 0 = 0 := (hM9.i (by decide)).trans J_135_8
        have e_154 : aF σ_s_147 (ad E a 1) = f1 := (hM9.a (by decide) (by decide)).trans J_135_9
        have e_155 : aF σ_s_147 (ad E a 37) = f37 := (hM9.a (by decide) (by decide)).trans J_135_10
        have e_156 : aF σ_s_147 (ad E a 61) = f61 := (hM9.a (by decide) (by decide)).trans J_135_11
        have e_157 : aF σ_s_147 (ad E a 62) = f62 := (hM9.a (by decide) (by decide)).trans J_135_12
        have e_158 : aF σ_s_147 (ad E a 39) = f39 := (hM9.a (by decide) (by decide)).trans J_135_13
        have e_159 : aF σ_s_147 (ad E a 40) = f40 := (hM9.a (by decide) (by decide)).trans J_135_14
        have e_160 : aF σ_s_147 (ad E a 42) = f42 := (hM9.a (by decide) (by decide)).trans J_135_15
        have e_161 : aF σ_s_147 (ad E a 43) = f43 := (hM9.a (by decide) (by decide)).trans J_135_16
        have e_162 : aF σ_s_147 (ad E a 44) = f44 := (hM9.a (by decide) (by decide)).trans J_135_17
        have e_163 : aF σ_s_147 (ad E a 45) = f45 := (hM9.a (by decide) (by decide)).trans J_135_18
        have e_164 : aF σ_s_147 (ad E a 46) = f46 := (hM9.a (by decide) (by decide)).trans J_135_19
        have e_165 : gI σ_s_147 a 12 = G12q133 := (hM9.i (by decide)).trans J_135_20
        obtain ⟨g_166, dg_166⟩ : ∃ g9, g9 = upd f_148 (G12q133).toNat (I z_146) := ⟨_, rfl⟩
        rw [← dg_166] at ha9
        have ef_167 := ha9
        refine lv_aload_n hx hb dX11_feed_104 rfl (lv_at hl 1 rfl) ?_
        refine lv_dup hx hb dX11_feed_105 rfl ?_
        refine ok.getIc hO h_a (by decide) k13_12 e_165 (fun _ _ he hv kk => th_get (ci := 11) (C := RX11) (T := TX11) (N := 66) hx hb hts inX11 hown hK hH he rfl 12 (by decide) fl1 hv dX11_feed_106 kk) ?_
        refine lv_iconst (v := I 1) hx hb dX11_feed_109 (by decide) ?_
        refine lv_iadd hx hb dX11_feed_110 ?_
        refine nq_top (I_add _ _) ?_
        refine ok.putJ hO h_a k13_12 ⟨by omega, by omega⟩ (by omega) (by omega) (fun _ he hl9 kk => th_put (ci := 11) (v := .int (I (G12q133 + 1))) (ty := .int) (C := RX11) (T := TX11) (N := 66) hx hb hts inX11 tyX11 tyX11_ok nmX11 hown hK hH hS h00 he rfl 12 (by decide) fl1 rfl (by decide +kernel) rfl rfl hl9 dX11_feed_111 kk) (fun σ_s_168 H locs hO hF9 hM9 hg9 ha9 hH hS => ?_)
        replace hM := hM.tu hM9 (by decide)
        replace hF := hF.tu hF9 (by decide)
        have e_169 : gI σ_s_168 a 36 = a360 := (hM9.i (by decide)).trans e_150
        have e_170 : gI σ_s_168 a 58 = a580 := (hM9.i (by decide)).trans e_151
        have e_171 : gI σ_s_168 a 59 = a590 := (hM9.i (by decide)).trans e_152
        have e_172 : gI σ_s_168 a 0 = 0 := (hM9.i (by decide)).trans e_153
        have e_173 : aF σ_s_168 (ad E a 1) = f1 := (hM9.a (by decide) (by decide)).trans e_154
        have e_174 : aF σ_s_168 (ad E a 37) = f37 := (hM9.a (by decide) (by decide)).trans e_155
        have e_175 : aF σ_s_168 (ad E a 61) = f61 := (hM9.a (by decide) (by decide)).trans e_156
        have e_176 : aF σ_s_168 (ad E a 62) = f62 := (hM9.a (by decide) (by decide)).trans e_157
        have e_177 : aF σ_s_168 (ad E a 39) = f39 := (hM9.a (by decide) (by decide)).trans e_158
        have e_178 : aF σ_s_168 (ad E a 40) = f40 := (hM9.a (by decide) (by decide)).trans e_159
        have e_179 : aF σ_s_168 (ad E a 42) = f42 := (hM9.a (by decide) (by decide)).trans e_160
        have e_180 : aF σ_s_168 (ad E a 43) = f43 := (hM9.a (by decide) (by decide)).trans e_161
        have e_181 : aF σ_s_168 (ad E a 44) = f44 := (hM9.a (by decide) (by decide)).trans e_162
        have e_182 : aF σ_s_168 (ad E a 45) = f45 := (hM9.a (by decide) (by decide)).trans e_163
        have e_183 : aF σ_s_168 (ad E a 46) = f46 := (hM9.a (by decide) (by decide)).trans e_164
        have e_184 : aF σ_s_168 (ad E a 6) = g_166 := (hM9.a (by decide) (by decide)).trans ef_167
        have e_185 := hg9
        refine lv_iinc (v := I (v6q134 + 1)) (lv' := [(6, .int (I (v6q134 + 1))), (7, .int (I w0q141)), (0, .ref a), (1, .int (I w1)), (2, .int (I w2)), (3, .int (I w3)), (4, .int (I w4)), (5, .int (I w5))]) hx hb dX11_feed_114 hl (k := 7) rfl (I_add _ _) (by decide) rfl (fun ls hl => ?_)
        refine lv_goto (tgt := 23) hx hb dX11_feed_117 (by decide) ?_
        replace hl : lv_has ls 8 [(6, .int (I (v6q134 + 1))), (0, .ref a), (1, .int (I w1)), (2, .int (I w2)), (3, .int (I w3)), (4, .int (I w4)), (5, .int (I w5))] := lv_sub hl [0, 2, 3, 4, 5, 6, 7] rfl
        exact ihJ_135 (v6q134 + 1, G12q133 + 1) σ_s_168 _ _ _ (by first | (dsimp only; omega) | omega) ⟨hO, hF, hM, hH, hS, lv_sub hl [1, 2, 3, 4, 5, 6, 0] rfl, ⟨by first | (dsimp only; omega) | omega, by first | (dsimp only; omega) | omega⟩, ⟨by first | (dsimp only; omega) | omega, by first | (dsimp only; omega) | omega⟩, by first | (dsimp only; omega) | omega, by first | (dsimp only; omega) | omega, by first | (dsimp only; omega) | omega, by first | (dsimp only; omega) | omega, by first | (dsimp only; omega) | omega, e_169, e_170, e_171, e_172, e_173, e_174, e_175, e_176, e_177, e_178, e_179, e_180, e_181, e_182, e_183, e_185⟩
      · refine lv_icmp_ge (tgt := 40) hx hb dX11_feed_33 (by decide) (fun c_186 => ?_) (fun c_186 => ?_)
        · replace c_186 := (I_le (a := 4) (b := v6q134) (show rng 4 from ⟨by decide, by decide⟩) rv6q134).mp c_186
          refine lv_iload hx hb dX11_feed_40 (lv_at hl 6 rfl) ?_
          refine lv_bipush (v := I 8) hx hb dX11_feed_42 (by decide) ?_
          refine lv_icmp_ge (tgt := 51) hx hb dX11_feed_44 (by decide) (fun c_187 => ?_) (fun c_187 => ?_)
          · replace c_187 := (I_le (a := 8) (b := v6q134) (show rng 8 from ⟨by decide, by decide⟩) rv6q134).mp c_187
            refine lv_iload hx hb dX11_feed_51 (lv_at hl 6 rfl) ?_
            refine lv_bipush (v := I 12) hx hb dX11_feed_53 (by decide) ?_
            refine lv_icmp_ge (tgt := 62) hx hb dX11_feed_55 (by decide) (fun c_188 => ?_) (fun c_188 => ?_)
            · replace c_188 := (I_le (a := 12) (b := v6q134) (show rng 12 from ⟨by decide, by decide⟩) rv6q134).mp c_188
              refine lv_iload hx hb dX11_feed_62 (lv_at hl 6 rfl) ?_
              refine lv_bipush (v := I 16) hx hb dX11_feed_64 (by decide) ?_
              refine lv_icmp_ge (tgt := 74) hx hb dX11_feed_66 (by decide) (fun c_189 => ?_) (fun c_189 => ?_)
              · replace c_189 := (I_le (a := 16) (b := v6q134) (show rng 16 from ⟨by decide, by decide⟩) rv6q134).mp c_189
                refine lv_iload hx hb dX11_feed_74 (lv_at hl 5 rfl) ?_
                exact jK_142 (w5) σ_J_135 _ _ _ ⟨rfl, hH, hS, lv_sub hl [0, 1, 2, 3, 4, 5, 6] rfl, rw5⟩
              · replace c_189 := mt (I_le (a := 16) (b := v6q134) (show rng 16 from ⟨by decide, by decide⟩) rv6q134).mpr c_189
                refine lv_iload hx hb dX11_feed_69 (lv_at hl 4 rfl) ?_
                refine lv_goto (tgt := 76) hx hb dX11_feed_71 (by decide) ?_
                exact jK_142 (w4) σ_J_135 _ _ _ ⟨rfl, hH, hS, lv_sub hl [0, 1, 2, 3, 4, 5, 6] rfl, rw4⟩
            · replace c_188 := mt (I_le (a := 12) (b := v6q134) (show rng 12 from ⟨by decide, by decide⟩) rv6q134).mpr c_188
              refine lv_iload_n hx hb dX11_feed_58 rfl (lv_at hl 3 rfl) ?_
              refine lv_goto (tgt := 76) hx hb dX11_feed_59 (by decide) ?_
              exact jK_142 (w3) σ_J_135 _ _ _ ⟨rfl, hH, hS, lv_sub hl [0, 1, 2, 3, 4, 5, 6] rfl, rw3⟩
          · replace c_187 := mt (I_le (a := 8) (b := v6q134) (show rng 8 from ⟨by decide, by decide⟩) rv6q134).mpr c_187
            refine lv_iload_n hx hb dX11_feed_47 rfl (lv_at hl 2 rfl) ?_
            refine lv_goto (tgt := 76) hx hb dX11_feed_48 (by decide) ?_
            exact jK_142 (w2) σ_J_135 _ _ _ ⟨rfl, hH, hS, lv_sub hl [0, 1, 2, 3, 4, 5, 6] rfl, rw2⟩
        · replace c_186 := mt (I_le (a := 4) (b := v6q134) (show rng 4 from ⟨by decide, by decide⟩) rv6q134).mpr c_186
          refine lv_iload_n hx hb dX11_feed_36 rfl (lv_at hl 1 rfl) ?_
          refine lv_goto (tgt := 76) hx hb dX11_feed_37 (by decide) ?_
          exact jK_142 (w1) σ_J_135 _ _ _ ⟨rfl, hH, hS, lv_sub hl [0, 1, 2, 3, 4, 5, 6] rfl, rw1⟩
  · replace c_18 := mt (I_le (a := a120 + 20) (b := 400) ⟨by omega, by omega⟩ (show rng 400 from ⟨by decide, by decide⟩)).mpr c_18
    refine lv_iconst (v := I (-1)) hx hb dX11_feed_18 (by decide) ?_
    exact th_iret hx hb hr hlocks hH hS (z := (-1)) (show rng (-1) from ⟨by decide, by decide⟩) ⟨hO, hF, hM, by rw [show aF σ_s_1 (ad E a 1) = f1 from e_2, show aF σ_s_1 (ad E a 37) = f37 from e_3, show aF σ_s_1 (ad E a 61) = f61 from e_4, show aF σ_s_1 (ad E a 62) = f62 from e_5, show aF σ_s_1 (ad E a 39) = f39 from e_6, show aF σ_s_1 (ad E a 40) = f40 from e_7, show aF σ_s_1 (ad E a 42) = f42 from e_8, show aF σ_s_1 (ad E a 43) = f43 from e_9, show aF σ_s_1 (ad E a 44) = f44 from e_10, show aF σ_s_1 (ad E a 45) = f45 from e_11, show aF σ_s_1 (ad E a 46) = f46 from e_12]; exact ⟨hj.n (by omega) (by omega) (by omega), by omega⟩⟩ dX11_feed_19

set_option maxHeartbeats 4000000 in
set_option maxRecDepth 100000 in
theorem j_tree (l : Launch) (G : va_G) (y : Nat → ClassId) (b0 : Nat) (σ : th_M) (E : th_E) (hO : ok y E σ) (a : Nat) (h_a : kd E a = 13) (nn : Int) (rnn : rng nn) (f1 : Nat → Int32) (ef1 : aF σ (ad E a 1) = f1) (f37 : Nat → Int32) (ef37 : aF σ (ad E a 37) = f37) (f61 : Nat → Int32) (ef61 : aF σ (ad E a 61) = f61) (f62 : Nat → Int32) (ef62 : aF σ (ad E a 62) = f62) (f39 : Nat → Int32) (ef39 : aF σ (ad E a 39) = f39) (f40 : Nat → Int32) (ef40 : aF σ (ad E a 40) = f40) (f42 : Nat → Int32) (ef42 : aF σ (ad E a 42) = f42) (f43 : Nat → Int32) (ef43 : aF σ (ad E a 43) = f43) (f44 : Nat → Int32) (ef44 : aF σ (ad E a 44) = f44) (f45 : Nat → Int32) (ef45 : aF σ (ad E a 45) = f45) (f46 : Nat → Int32) (ef46 : aF σ (ad E a 46) = f46) (f2 : Nat → Int32) (ef2 : aF σ (ad E a 2) = f2) (hy0 : jw f1 f37 f61 f62 f39 f40 f42 f43 f44 f45 f46 (gI σ a 36) (gI σ a 58) (gI σ a 59)) : Met l yX11_tree wsX11_tree ({ frames := 50, cells := 0, slots := 0, locals := 2033 }) (th_P G y b0 σ [.ref a, .int (I nn)]) (th_Qi G b0 (fun r σ1 => ok y E σ1 ∧ fr [13] E σ σ1 ∧ fm [0, 1, 2, 4, 9, 10, 11, 12, 13, 14, 15, 16, 17, 18, 19, 20, 21, 22, 36, 51, 58] E σ σ1 a ∧ (jw (aF σ1 (ad E a 1)) (aF σ1 (ad E a 37)) (aF σ1 (ad E a 61)) (aF σ1 (ad E a 62)) (aF σ1 (ad E a 39)) (aF σ1 (ad E a 40)) (aF σ1 (ad E a 42)) (aF σ1 (ad E a 43)) (aF σ1 (ad E a 44)) (aF σ1 (ad E a 45)) (aF σ1 (ad E a 46)) (gI σ1 a 36) (gI σ1 a 58) (gI σ1 a 59) ∧ (((0 ≤ nn ∧ nn ≤ gI σ a 12) ∧ gI σ1 a 12 = 0) ∨ (¬ (0 ≤ nn ∧ nn ≤ gI σ a 12) ∧ gI σ1 a 12 = gI σ a 12))))) 0 0 (th_A b0) := by
  refine Met.ofW (cc := cX11_tree) (maxL := 3) (ret := (some .int)) (by decide) rfl ?_
  intro p e s m args below meth c s₁ B hml hv
  obtain ⟨rfl, hH, hK⟩ := hv
  have hx := B.exec
  have hb := B.bytes
  have hr := B.returns
  have hts := atoms_spec (ws := wsX11_tree) B.pre
  have hown : s.vm.findClass RX11 = some m.cls := findClass_of_methodNamed B.named
  have hlocks := B.notSynchronized
  have h00 : b0 ≤ s.heap.size := hH.1
  have hS : va_S (th_A b0) s.heap s.heap [] := va_S.rf
  have hF : fr [13] E σ σ := fr.rf
  have hM : fm [0, 1, 2, 4, 9, 10, 11, 12, 13, 14, 15, 16, 17, 18, 19, 20, 21, 22, 36, 51, 58] E σ σ a := fm.rf
  have hj := hy0
  have hw1 := hj.1.1.1
  have hm1 := hj.1.2.1
  have hm2 := hj.1.2.2.1
  have hm3 := hj.2.2.2.2.1
  have hm4 := hj.2.2.2.2.2.1
  have inX11 : ∀ w ∈ wsX110, w ∈ wsX11_tree := by decide +kernel
  have fl0 := hts (.fieldLink RX11 111 "NestQueryModel" "code" "I") (by decide +kernel)
  have fl1 := hts (.fieldLink RX11 114 "NestQueryModel" "taped" "I") (by decide +kernel)
  have fl2 := hts (.fieldLink RX11 188 "NestQueryModel" "dataMany" "I") (by decide +kernel)
  have fl3 := hts (.fieldLink RX11 232 "NestQueryModel" "acts" "I") (by decide +kernel)
  have fl4 := hts (.fieldLink RX11 235 "NestQueryModel" "noted" "I") (by decide +kernel)
  have fl5 := hts (.fieldLink RX11 238 "NestQueryModel" "hasImage" "Z") (by decide +kernel)
  have fl6 := hts (.fieldLink RX11 9 "NestQueryModel" "tree" "[I") (by decide +kernel)
  have fl7 := hts (.fieldLink RX11 13 "NestQueryModel" "data" "[I") (by decide +kernel)
  have fl8 := hts (.fieldLink RX11 162 "NestQueryModel" "bad" "I") (by decide +kernel)
  have hl := lv_entry ([.ref a, .int (I nn)]) (n := 3) (Nat.le_of_ble_eq_true rfl)
  rw [lg_entry_eq]
  generalize (lg_sl ([.ref a, .int (I nn)]) ++ List.replicate (3 - (lg_sl ([.ref a, .int (I nn)])).length) Slot.unset).toArray = ls at hl ⊢
  have hl : lv_has ls 3 [(0, .ref a), (1, .int (I nn))] := hl
  obtain ⟨a360, ea360, ra360, la360, ua360⟩ := hO.gi h_a (by decide) k13_36
  obtain ⟨a580, ea580, ra580, la580, ua580⟩ := hO.gi h_a (by decide) k13_58
  obtain ⟨a590, ea590, ra590, la590, ua590⟩ := hO.gi h_a (by decide) k13_59
  obtain ⟨a120, ea120, ra120, la120, ua120⟩ := hO.gi h_a (by decide) k13_12
  refine lv_aload_n hx hb dX11_tree_0 rfl (lv_at hl 0 rfl) ?_
  refine lv_iconst (v := I 0) hx hb dX11_tree_1 (by decide) ?_
  refine ok.putJ hO h_a k13_0 (show rng 0 from ⟨by decide, by decide⟩) (by omega) (by omega) (fun _ he hl9 kk => th_put (ci := 11) (v := .int (I 0)) (ty := .int) (C := RX11) (T := TX11) (N := 66) hx hb hts inX11 tyX11 tyX11_ok nmX11 hown hK hH hS h00 he rfl 0 (by decide) fl0 rfl (by decide +kernel) rfl rfl hl9 dX11_tree_2 kk) (fun σ_s_1 H locs hO hF9 hM9 hg9 ha9 hH hS => ?_)
  replace hM := hM.tu hM9 (by decide)
  replace hF := hF.tu hF9 (by decide)
  have e_2 : aF σ_s_1 (ad E a 1) = f1 := (hM9.a (by decide) (by decide)).trans ef1
  have e_3 : aF σ_s_1 (ad E a 37) = f37 := (hM9.a (by decide) (by decide)).trans ef37
  have e_4 : aF σ_s_1 (ad E a 61) = f61 := (hM9.a (by decide) (by decide)).trans ef61
  have e_5 : aF σ_s_1 (ad E a 62) = f62 := (hM9.a (by decide) (by decide)).trans ef62
  have e_6 : aF σ_s_1 (ad E a 39) = f39 := (hM9.a (by decide) (by decide)).trans ef39
  have e_7 : aF σ_s_1 (ad E a 40) = f40 := (hM9.a (by decide) (by decide)).trans ef40
  have e_8 : aF σ_s_1 (ad E a 42) = f42 := (hM9.a (by decide) (by decide)).trans ef42
  have e_9 : aF σ_s_1 (ad E a 43) = f43 := (hM9.a (by decide) (by decide)).trans ef43
  have e_10 : aF σ_s_1 (ad E a 44) = f44 := (hM9.a (by decide) (by decide)).trans ef44
  have e_11 : aF σ_s_1 (ad E a 45) = f45 := (hM9.a (by decide) (by decide)).trans ef45
  have e_12 : aF σ_s_1 (ad E a 46) = f46 := (hM9.a (by decide) (by decide)).trans ef46
  have e_13 : aF σ_s_1 (ad E a 2) = f2 := (hM9.a (by decide) (by decide)).trans ef2
  have e_14 : gI σ_s_1 a 36 = a360 := (hM9.i (by decide)).trans ea360
  have e_15 : gI σ_s_1 a 58 = a580 := (hM9.i (by decide)).trans ea580
  have e_16 : gI σ_s_1 a 59 = a590 := (hM9.i (by decide)).trans ea590
  have e_17 : gI σ_s_1 a 12 = a120 := (hM9.i (by decide)).trans ea120
  have e_18 := hg9
  refine lv_aload_n hx hb dX11_tree_5 rfl (lv_at hl 0 rfl) ?_
  refine lv_iload_n hx hb dX11_tree_6 rfl (lv_at hl 1 rfl) ?_
  obtain ⟨_, hc_19⟩ := hO.cell h_a (by decide) (ci := 11) rfl
  refine th_calli (va_runV (As := [.int (I nn)]) (rest := []) ⟨hx, hb, hml, hown, hts⟩ (m_isTape l G y b0 σ_s_1 E hO a h_a nn (show rng nn from rnn)) (cwV 1 hts gX11_tree_X11_isTape rfl rfl rfl (by decide +kernel) ⟨Nat.le_of_ble_eq_true rfl, Nat.le_of_ble_eq_true rfl⟩) (th_PV hK hH rfl hc_19) rfl rfl hl.1 rfl (lv_room (Nat.le_of_ble_eq_true rfl)) dX11_tree_7 ⟨Nat.le_of_ble_eq_true rfl, Nat.le_of_ble_eq_true rfl⟩) hS (fun z_22 σ_s_21 H locs rz_22 hw_20 hH hS => ?_)
  obtain ⟨e9, bhw_20, hw_20⟩ := hw_20
  replace e9 := e9.symm
  subst e9
  have hw_20 : (z_22 = 1 ∧ 0 ≤ nn ∧ nn ≤ gI σ_s_1 a 12) ∨ (z_22 = 0 ∧ ¬ (0 ≤ nn ∧ nn ≤ gI σ_s_1 a 12)) := hw_20
  refine lv_if_ne (tgt := 19) hx hb dX11_tree_10 (by decide) (fun c_23 => ?_) (fun c_23 => ?_)
  · replace c_23 := mt (I_eq (a := z_22) (b := 0) rz_22 (show rng 0 from ⟨by decide, by decide⟩)).mpr c_23
    refine lv_aload_n hx hb dX11_tree_19 rfl (lv_at hl 0 rfl) ?_
    refine lv_iconst (v := I 0) hx hb dX11_tree_20 (by decide) ?_
    refine ok.putJ hO h_a k13_12 (show rng 0 from ⟨by decide, by decide⟩) (by omega) (by omega) (fun _ he hl9 kk => th_put (ci := 11) (v := .int (I 0)) (ty := .int) (C := RX11) (T := TX11) (N := 66) hx hb hts inX11 tyX11 tyX11_ok nmX11 hown hK hH hS h00 he rfl 12 (by decide) fl1 rfl (by decide +kernel) rfl rfl hl9 dX11_tree_21 kk) (fun σ_s_24 H locs hO hF9 hM9 hg9 ha9 hH hS => ?_)
    replace hM := hM.tu hM9 (by decide)
    replace hF := hF.tu hF9 (by decide)
    have e_25 : aF σ_s_24 (ad E a 1) = f1 := (hM9.a (by decide) (by decide)).trans e_2
    have e_26 : aF σ_s_24 (ad E a 37) = f37 := (hM9.a (by decide) (by decide)).trans e_3
    have e_27 : aF σ_s_24 (ad E a 61) = f61 := (hM9.a (by decide) (by decide)).trans e_4
    have e_28 : aF σ_s_24 (ad E a 62) = f62 := (hM9.a (by decide) (by decide)).trans e_5
    have e_29 : aF σ_s_24 (ad E a 39) = f39 := (hM9.a (by decide) (by decide)).trans e_6
    have e_30 : aF σ_s_24 (ad E a 40) = f40 := (hM9.a (by decide) (by decide)).trans e_7
    have e_31 : aF σ_s_24 (ad E a 42) = f42 := (hM9.a (by decide) (by decide)).trans e_8
    have e_32 : aF σ_s_24 (ad E a 43) = f43 := (hM9.a (by decide) (by decide)).trans e_9
    have e_33 : aF σ_s_24 (ad E a 44) = f44 := (hM9.a (by decide) (by decide)).trans e_10
    have e_34 : aF σ_s_24 (ad E a 45) = f45 := (hM9.a (by decide) (by decide)).trans e_11
    have e_35 : aF σ_s_24 (ad E a 46) = f46 := (hM9.a (by decide) (by decide)).trans e_12
    have e_36 : aF σ_s_24 (ad E a 2) = f2 := (hM9.a (by decide) (by decide)).trans e_13
    have e_37 : gI σ_s_24 a 36 = a360 := (hM9.i (by decide)).trans e_14
    have e_38 : gI σ_s_24 a 58 = a580 := (hM9.i (by decide)).trans e_15
    have e_39 : gI σ_s_24 a 59 = a590 := (hM9.i (by decide)).trans e_16
    have e_40 : gI σ_s_24 a 0 = 0 := (hM9.i (by decide)).trans e_18
    have e_41 := hg9
    refine lv_aload_n hx hb dX11_tree_24 rfl (lv_at hl 0 rfl) ?_
    refine lv_iload_n hx hb dX11_tree_25 rfl (lv_at hl 1 rfl) ?_
    obtain ⟨_, hc_42⟩ := hO.cell h_a (by decide) (ci := 11) rfl
    refine th_calli (va_runV (As := [.int (I nn)]) (rest := []) ⟨hx, hb, hml, hown, hts⟩ (m_readsData l G y b0 σ_s_24 E hO a h_a nn (show rng nn from rnn) (by omega) (by omega) f2 e_36) (cwV 1 hts gX11_tree_X11_readsData rfl rfl rfl (by decide +kernel) ⟨Nat.le_of_ble_eq_true rfl, Nat.le_of_ble_eq_true rfl⟩) (th_PV hK hH rfl hc_42) rfl rfl hl.1 rfl (lv_room (Nat.le_of_ble_eq_true rfl)) dX11_tree_26 ⟨Nat.le_of_ble_eq_true rfl, Nat.le_of_ble_eq_true rfl⟩) hS (fun z_45 σ_s_44 H locs rz_45 hw_43 hH hS => ?_)
    obtain ⟨hO9, hF9, hM9, bhw_43, hw_43⟩ := hw_43
    replace hM := hM.tu hM9 (by decide)
    replace hF := hF.tu hF9 (by decide)
    have e_46 : aF σ_s_44 (ad E a 1) = f1 := (hM9.a (by decide) (by decide)).trans e_25
    have e_47 : aF σ_s_44 (ad E a 37) = f37 := (hM9.a (by decide) (by decide)).trans e_26
    have e_48 : aF σ_s_44 (ad E a 61) = f61 := (hM9.a (by decide) (by decide)).trans e_27
    have e_49 : aF σ_s_44 (ad E a 62) = f62 := (hM9.a (by decide) (by decide)).trans e_28
    have e_50 : aF σ_s_44 (ad E a 39) = f39 := (hM9.a (by decide) (by decide)).trans e_29
    have e_51 : aF σ_s_44 (ad E a 40) = f40 := (hM9.a (by decide) (by decide)).trans e_30
    have e_52 : aF σ_s_44 (ad E a 42) = f42 := (hM9.a (by decide) (by decide)).trans e_31
    have e_53 : aF σ_s_44 (ad E a 43) = f43 := (hM9.a (by decide) (by decide)).trans e_32
    have e_54 : aF σ_s_44 (ad E a 44) = f44 := (hM9.a (by decide) (by decide)).trans e_33
    have e_55 : aF σ_s_44 (ad E a 45) = f45 := (hM9.a (by decide) (by decide)).trans e_34
    have e_56 : aF σ_s_44 (ad E a 46) = f46 := (hM9.a (by decide) (by decide)).trans e_35
    have e_57 : gI σ_s_44 a 36 = a360 := (hM9.i (by decide)).trans e_37
    have e_58 : gI σ_s_44 a 58 = a580 := (hM9.i (by decide)).trans e_38
    have e_59 : gI σ_s_44 a 59 = a590 := (hM9.i (by decide)).trans e_39
    have e_60 : gI σ_s_44 a 0 = 0 := (hM9.i (by decide)).trans e_40
    have e_61 : gI σ_s_44 a 12 = 0 := (hM9.i (by decide)).trans e_41
    replace hO := hO9
    generalize ef_63 : aF σ_s_44 (ad E a 2) = g_62 at hw_43
    have hw_43 : (z_45 = 1 ∧ tr g_62 ∧ mS g_62 0 = gI σ_s_44 a 22) ∨ z_45 = 0 := hw_43
    refine lv_if_ne (tgt := 37) hx hb dX11_tree_29 (by decide) (fun c_64 => ?_) (fun c_64 => ?_)
    · replace c_64 := mt (I_eq (a := z_45) (b := 0) rz_45 (show rng 0 from ⟨by decide, by decide⟩)).mpr c_64
      obtain ⟨z_65, e_66, rz_65, lz_65, uz_65⟩ := hO.gi h_a (by decide) k13_22
      have hq6 := (hw_43.resolve_right (by omega)).2.1.2.1
      have hq9 := (hw_43.resolve_right (by omega)).2.2
      have hq7 := (hw_43.resolve_right (by omega)).2.1.2.2.1
      refine lv_iconst (v := I 0) hx hb dX11_tree_37 (by decide) ?_
      refine lv_istore_n (lv' := [(2, .int (I 0)), (0, .ref a), (1, .int (I nn))]) hx hb dX11_tree_38 rfl hl (by decide) rfl (fun ls hl => ?_)
      replace hl : lv_has ls 3 [(2, .int (I 0)), (0, .ref a)] := lv_sub hl [0, 1] rfl
      refine th_loop (α := Int × (Nat → Int32)) (pc := 39) (fun x9 => (240 - x9.1).toNat) (fun x9 σ9 H9 l9 ls9 => ok y E σ9 ∧ fr [13] E σ σ9 ∧ fm [0, 1, 2, 4, 9, 10, 11, 12, 13, 14, 15, 16, 17, 18, 19, 20, 21, 22, 36, 51, 58] E σ σ9 a ∧ th_H G b0 σ9 H9 ∧ va_S (th_A b0) s.heap H9 l9 ∧ lv_has ls9 3 [(0, .ref a), (2, .int (I x9.1))] ∧ rng x9.1 ∧ (0 ≤ x9.1) ∧ (x9.1 ≤ 4 * mS g_62 0) ∧ (x9.1 ≤ 240) ∧ (cpd f1 x9.2 g_62 0 0 x9.1) ∧ (gI σ9 a 36 = a360) ∧ (gI σ9 a 58 = a580) ∧ (gI σ9 a 59 = a590) ∧ (gI σ9 a 0 = 0) ∧ (gI σ9 a 12 = 0) ∧ (gI σ9 a 22 = z_65) ∧ (aF σ9 (ad E a 37) = f37) ∧ (aF σ9 (ad E a 61) = f61) ∧ (aF σ9 (ad E a 62) = f62) ∧ (aF σ9 (ad E a 39) = f39) ∧ (aF σ9 (ad E a 40) = f40) ∧ (aF σ9 (ad E a 42) = f42) ∧ (aF σ9 (ad E a 43) = f43) ∧ (aF σ9 (ad E a 44) = f44) ∧ (aF σ9 (ad E a 45) = f45) ∧ (aF σ9 (ad E a 46) = f46) ∧ (aF σ9 (ad E a 2) = g_62) ∧ (aF σ9 (ad E a 1) = x9.2)) ?_ (0, f1) σ_s_44 _ _ _ ⟨hO, hF, hM, hH, hS, lv_sub hl [1, 0] rfl, (show rng 0 from ⟨by decide, by decide⟩), by first | (dsimp only; omega) | omega, by first | (dsimp only; omega) | omega, by first | (dsimp only; omega) | omega, cpd.zero, e_57, e_58, e_59, e_60, e_61, e_66, e_47, e_48, e_49, e_50, e_51, e_52, e_53, e_54, e_55, e_56, ef_63, e_46⟩
      intro x9 σ_J_119 H locs ls hI9 ihJ_119
      obtain ⟨v2q118, F1q117⟩ := x9
      obtain ⟨hO, hF, hM, hH, hS, hl, rv2q118, J_119_0, J_119_1, J_119_2, J_119_3, J_119_4, J_119_5, J_119_6, J_119_7, J_119_8, J_119_9, J_119_10, J_119_11, J_119_12, J_119_13, J_119_14, J_119_15, J_119_16, J_119_17, J_119_18, J_119_19, J_119_20, J_119_21⟩ := hI9
      have hl : lv_has ls 3 [(0, .ref a), (2, .int (I v2q118))] := hl
      have rv2q118 : rng v2q118 := rv2q118
      have J_119_0 : 0 ≤ v2q118 := J_119_0
      have J_119_1 : v2q118 ≤ 4 * mS g_62 0 := J_119_1
      have J_119_2 : v2q118 ≤ 240 := J_119_2
      have J_119_3 : cpd f1 F1q117 g_62 0 0 v2q118 := J_119_3
      have J_119_4 : gI σ_J_119 a 36 = a360 := J_119_4
      have J_119_5 : gI σ_J_119 a 58 = a580 := J_119_5
      have J_119_6 : gI σ_J_119 a 59 = a590 := J_119_6
      have J_119_7 : gI σ_J_119 a 0 = 0 := J_119_7
      have J_119_8 : gI σ_J_119 a 12 = 0 := J_119_8
      have J_119_9 : gI σ_J_119 a 22 = z_65 := J_119_9
      have J_119_10 : aF σ_J_119 (ad E a 37) = f37 := J_119_10
      have J_119_11 : aF σ_J_119 (ad E a 61) = f61 := J_119_11
      have J_119_12 : aF σ_J_119 (ad E a 62) = f62 := J_119_12
      have J_119_13 : aF σ_J_119 (ad E a 39) = f39 := J_119_13
      have J_119_14 : aF σ_J_119 (ad E a 40) = f40 := J_119_14
      have J_119_15 : aF σ_J_119 (ad E a 42) = f42 := J_119_15
      have J_119_16 : aF σ_J_119 (ad E a 43) = f43 := J_119_16
      have J_119_17 : aF σ_J_119 (ad E a 44) = f44 := J_119_17
      have J_119_18 : aF σ_J_119 (ad E a 45) = f45 := J_119_18
      have J_119_19 : aF σ_J_119 (ad E a 46) = f46 := J_119_19
      have J_119_20 : aF σ_J_119 (ad E a 2) = g_62 := J_119_20
      have J_119_21 : aF σ_J_119 (ad E a 1) = F1q117 := J_119_21
      refine lv_iload_n hx hb dX11_tree_39 rfl (lv_at hl 1 rfl) ?_
      refine lv_iconst (v := I 4) hx hb dX11_tree_40 (by decide) ?_
      refine lv_aload_n hx hb dX11_tree_41 rfl (lv_at hl 0 rfl) ?_
      refine ok.getIc hO h_a (by decide) k13_22 J_119_9 (fun _ _ he hv kk => th_get (ci := 11) (C := RX11) (T := TX11) (N := 66) hx hb hts inX11 hown hK hH he rfl 22 (by decide) fl2 hv dX11_tree_42 kk) ?_
      refine lv_imul hx hb dX11_tree_45 ?_
      refine nq_top (I_mul _ _) ?_
      refine lv_icmp_ge (tgt := 67) hx hb dX11_tree_46 (by decide) (fun c_120 => ?_) (fun c_120 => ?_)
      · replace c_120 := (I_le (a := 4 * z_65) (b := v2q118) ⟨by omega, by omega⟩ rv2q118).mp c_120
        refine lv_aload_n hx hb dX11_tree_67 rfl (lv_at hl 0 rfl) ?_
        refine lv_iconst (v := I 0) hx hb dX11_tree_68 (by decide) ?_
        refine ok.putJ hO h_a k13_36 (show rng 0 from ⟨by decide, by decide⟩) (by omega) (by omega) (fun _ he hl9 kk => th_put (ci := 11) (v := .int (I 0)) (ty := .int) (C := RX11) (T := TX11) (N := 66) hx hb hts inX11 tyX11 tyX11_ok nmX11 hown hK hH hS h00 he rfl 36 (by decide) fl3 rfl (by decide +kernel) rfl rfl hl9 dX11_tree_69 kk) (fun σ_s_121 H locs hO hF9 hM9 hg9 ha9 hH hS => ?_)
        replace hM := hM.tu hM9 (by decide)
        replace hF := hF.tu hF9 (by decide)
        have e_122 : gI σ_s_121 a 58 = a580 := (hM9.i (by decide)).trans J_119_5
        have e_123 : gI σ_s_121 a 59 = a590 := (hM9.i (by decide)).trans J_119_6
        have e_124 : gI σ_s_121 a 0 = 0 := (hM9.i (by decide)).trans J_119_7
        have e_125 : gI σ_s_121 a 12 = 0 := (hM9.i (by decide)).trans J_119_8
        have e_126 : gI σ_s_121 a 22 = z_65 := (hM9.i (by decide)).trans J_119_9
        have e_127 : aF σ_s_121 (ad E a 37) = f37 := (hM9.a (by decide) (by decide)).trans J_119_10
        have e_128 : aF σ_s_121 (ad E a 61) = f61 := (hM9.a (by decide) (by decide)).trans J_119_11
        have e_129 : aF σ_s_121 (ad E a 62) = f62 := (hM9.a (by decide) (by decide)).trans J_119_12
        have e_130 : aF σ_s_121 (ad E a 39) = f39 := (hM9.a (by decide) (by decide)).trans J_119_13
        have e_131 : aF σ_s_121 (ad E a 40) = f40 := (hM9.a (by decide) (by decide)).trans J_119_14
        have e_132 : aF σ_s_121 (ad E a 42) = f42 := (hM9.a (by decide) (by decide)).trans J_119_15
        have e_133 : aF σ_s_121 (ad E a 43) = f43 := (hM9.a (by decide) (by decide)).trans J_119_16
        have e_134 : aF σ_s_121 (ad E a 44) = f44 := (hM9.a (by decide) (by decide)).trans J_119_17
        have e_135 : aF σ_s_121 (ad E a 45) = f45 := (hM9.a (by decide) (by decide)).trans J_119_18
        have e_136 : aF σ_s_121 (ad E a 46) = f46 := (hM9.a (by decide) (by decide)).trans J_119_19
        have e_137 : aF σ_s_121 (ad E a 2) = g_62 := (hM9.a (by decide) (by decide)).trans J_119_20
        have e_138 : aF σ_s_121 (ad E a 1) = F1q117 := (hM9.a (by decide) (by decide)).trans J_119_21
        have e_139 := hg9
        refine lv_aload_n hx hb dX11_tree_72 rfl (lv_at hl 0 rfl) ?_
        refine lv_iconst (v := I 0) hx hb dX11_tree_73 (by decide) ?_
        refine ok.putJ hO h_a k13_51 (show rng 0 from ⟨by decide, by decide⟩) (by omega) (by omega) (fun _ he hl9 kk => th_put (ci := 11) (v := .int (I 0)) (ty := .int) (C := RX11) (T := TX11) (N := 66) hx hb hts inX11 tyX11 tyX11_ok nmX11 hown hK hH hS h00 he rfl 51 (by decide) fl4 rfl (by decide +kernel) rfl rfl hl9 dX11_tree_74 kk) (fun σ_s_140 H locs hO hF9 hM9 hg9 ha9 hH hS => ?_)
        replace hM := hM.tu hM9 (by decide)
        replace hF := hF.tu hF9 (by decide)
        have e_141 : gI σ_s_140 a 58 = a580 := (hM9.i (by decide)).trans e_122
        have e_142 : gI σ_s_140 a 59 = a590 := (hM9.i (by decide)).trans e_123
        have e_143 : gI σ_s_140 a 0 = 0 := (hM9.i (by decide)).trans e_124
        have e_144 : gI σ_s_140 a 12 = 0 := (hM9.i (by decide)).trans e_125
        have e_145 : gI σ_s_140 a 22 = z_65 := (hM9.i (by decide)).trans e_126
        have e_146 : aF σ_s_140 (ad E a 37) = f37 := (hM9.a (by decide) (by decide)).trans e_127
        have e_147 : aF σ_s_140 (ad E a 61) = f61 := (hM9.a (by decide) (by decide)).trans e_128
        have e_148 : aF σ_s_140 (ad E a 62) = f62 := (hM9.a (by decide) (by decide)).trans e_129
        have e_149 : aF σ_s_140 (ad E a 39) = f39 := (hM9.a (by decide) (by decide)).trans e_130
        have e_150 : aF σ_s_140 (ad E a 40) = f40 := (hM9.a (by decide) (by decide)).trans e_131
        have e_151 : aF σ_s_140 (ad E a 42) = f42 := (hM9.a (by decide) (by decide)).trans e_132
        have e_152 : aF σ_s_140 (ad E a 43) = f43 := (hM9.a (by decide) (by decide)).trans e_133
        have e_153 : aF σ_s_140 (ad E a 44) = f44 := (hM9.a (by decide) (by decide)).trans e_134
        have e_154 : aF σ_s_140 (ad E a 45) = f45 := (hM9.a (by decide) (by decide)).trans e_135
        have e_155 : aF σ_s_140 (ad E a 46) = f46 := (hM9.a (by decide) (by decide)).trans e_136
        have e_156 : aF σ_s_140 (ad E a 2) = g_62 := (hM9.a (by decide) (by decide)).trans e_137
        have e_157 : aF σ_s_140 (ad E a 1) = F1q117 := (hM9.a (by decide) (by decide)).trans e_138
        have e_158 : gI σ_s_140 a 36 = 0 := (hM9.i (by decide)).trans e_139
        have e_159 := hg9
        refine lv_aload_n hx hb dX11_tree_77 rfl (lv_at hl 0 rfl) ?_
        refine lv_iconst (v := I 0) hx hb dX11_tree_78 (by decide) ?_
        refine ok.putJ hO h_a k13_58 (show rng 0 from ⟨by decide, by decide⟩) (by omega) (by omega) (fun _ he hl9 kk => th_put (ci := 11) (v := .int (I 0)) (ty := .boolean) (C := RX11) (T := TX11) (N := 66) hx hb hts inX11 tyX11 tyX11_ok nmX11 hown hK hH hS h00 he rfl 58 (by decide) fl5 rfl (by decide +kernel) (nar_z (by omega)) rfl hl9 dX11_tree_79 kk) (fun σ_s_160 H locs hO hF9 hM9 hg9 ha9 hH hS => ?_)
        replace hM := hM.tu hM9 (by decide)
        replace hF := hF.tu hF9 (by decide)
        have e_161 : gI σ_s_160 a 59 = a590 := (hM9.i (by decide)).trans e_142
        have e_162 : gI σ_s_160 a 0 = 0 := (hM9.i (by decide)).trans e_143
        have e_163 : gI σ_s_160 a 12 = 0 := (hM9.i (by decide)).trans e_144
        have e_164 : gI σ_s_160 a 22 = z_65 := (hM9.i (by decide)).trans e_145
        have e_165 : aF σ_s_160 (ad E a 37) = f37 := (hM9.a (by decide) (by decide)).trans e_146
        have e_166 : aF σ_s_160 (ad E a 61) = f61 := (hM9.a (by decide) (by decide)).trans e_147
        have e_167 : aF σ_s_160 (ad E a 62) = f62 := (hM9.a (by decide) (by decide)).trans e_148
        have e_168 : aF σ_s_160 (ad E a 39) = f39 := (hM9.a (by decide) (by decide)).trans e_149
        have e_169 : aF σ_s_160 (ad E a 40) = f40 := (hM9.a (by decide) (by decide)).trans e_150
        have e_170 : aF σ_s_160 (ad E a 42) = f42 := (hM9.a (by decide) (by decide)).trans e_151
        have e_171 : aF σ_s_160 (ad E a 43) = f43 := (hM9.a (by decide) (by decide)).trans e_152
        have e_172 : aF σ_s_160 (ad E a 44) = f44 := (hM9.a (by decide) (by decide)).trans e_153
        have e_173 : aF σ_s_160 (ad E a 45) = f45 := (hM9.a (by decide) (by decide)).trans e_154
        have e_174 : aF σ_s_160 (ad E a 46) = f46 := (hM9.a (by decide) (by decide)).trans e_155
        have e_175 : aF σ_s_160 (ad E a 2) = g_62 := (hM9.a (by decide) (by decide)).trans e_156
        have e_176 : aF σ_s_160 (ad E a 1) = F1q117 := (hM9.a (by decide) (by decide)).trans e_157
        have e_177 : gI σ_s_160 a 36 = 0 := (hM9.i (by decide)).trans e_158
        have e_178 : gI σ_s_160 a 51 = 0 := (hM9.i (by decide)).trans e_159
        have e_179 := hg9
        refine lv_iconst (v := I 0) hx hb dX11_tree_82 (by decide) ?_
        exact th_iret hx hb hr hlocks hH hS (z := 0) (show rng 0 from ⟨by decide, by decide⟩) ⟨hO, hF, hM, by rw [show aF σ_s_160 (ad E a 1) = F1q117 from e_176, show aF σ_s_160 (ad E a 37) = f37 from e_165, show aF σ_s_160 (ad E a 61) = f61 from e_166, show aF σ_s_160 (ad E a 62) = f62 from e_167, show aF σ_s_160 (ad E a 39) = f39 from e_168, show aF σ_s_160 (ad E a 40) = f40 from e_169, show aF σ_s_160 (ad E a 42) = f42 from e_170, show aF σ_s_160 (ad E a 43) = f43 from e_171, show aF σ_s_160 (ad E a 44) = f44 from e_172, show aF σ_s_160 (ad E a 45) = f45 from e_173, show aF σ_s_160 (ad E a 46) = f46 from e_174]; have hq9 := (hw_43.resolve_right (by omega)).2; have h9 := (J_119_3.fin (n := mS g_62 0) (by omega) (by omega)).2; rw [Int.zero_add, Int.sub_zero] at h9; exact ⟨(hj.tree (hq9.1.cp h9) (show trs f37 0 from fun j h7 h8 => absurd h7 (by omega)) rfl rfl).gone (by omega) (by omega) (by omega), by omega⟩⟩ dX11_tree_83
      · replace c_120 := mt (I_le (a := 4 * z_65) (b := v2q118) ⟨by omega, by omega⟩ rv2q118).mpr c_120
        refine lv_aload_n hx hb dX11_tree_49 rfl (lv_at hl 0 rfl) ?_
        refine ok.getR hO h_a (by decide) k13_1 (by decide) (fun _ _ he hv kk => th_get (ci := 11) (C := RX11) (T := TX11) (N := 66) hx hb hts inX11 hown hK hH he rfl 1 (by decide) fl6 hv dX11_tree_50 kk) ?_
        refine lv_iload_n hx hb dX11_tree_53 rfl (lv_at hl 1 rfl) ?_
        refine lv_aload_n hx hb dX11_tree_54 rfl (lv_at hl 0 rfl) ?_
        refine ok.getR hO h_a (by decide) k13_2 (by decide) (fun _ _ he hv kk => th_get (ci := 11) (C := RX11) (T := TX11) (N := 66) hx hb hts inX11 hown hK hH he rfl 2 (by decide) fl7 hv dX11_tree_55 kk) ?_
        refine lv_iload_n hx hb dX11_tree_58 rfl (lv_at hl 1 rfl) ?_
        refine m_iald hx hb hK hH hO h_a k13_2 isA1 J_119_20 rv2q118 (by omega) (by omega) dX11_tree_59 (fun z_180 ez_180 rz_180 elx9 => ?_)
        refine m_iast hx hb hK hH hS h00 hO h_a k13_1 isA1 (by decide) J_119_21 rv2q118 (by omega) (by omega) rz_180 el1 dX11_tree_60 (fun σ_s_181 H locs hO hF9 hM9 ha9 hH hS => ?_)
        replace hM := hM.tu hM9 (by decide)
        replace hF := hF.tu hF9 (by decide)
        have e_182 : gI σ_s_181 a 36 = a360 := (hM9.i (by decide)).trans J_119_4
        have e_183 : gI σ_s_181 a 58 = a580 := (hM9.i (by decide)).trans J_119_5
        have e_184 : gI σ_s_181 a 59 = a590 := (hM9.i (by decide)).trans J_119_6
        have e_185 : gI σ_s_181 a 0 = 0 := (hM9.i (by decide)).trans J_119_7
        have e_186 : gI σ_s_181 a 12 = 0 := (hM9.i (by decide)).trans J_119_8
        have e_187 : gI σ_s_181 a 22 = z_65 := (hM9.i (by decide)).trans J_119_9
        have e_188 : aF σ_s_181 (ad E a 37) = f37 := (hM9.a (by decide) (by decide)).trans J_119_10
        have e_189 : aF σ_s_181 (ad E a 61) = f61 := (hM9.a (by decide) (by decide)).trans J_119_11
        have e_190 : aF σ_s_181 (ad E a 62) = f62 := (hM9.a (by decide) (by decide)).trans J_119_12
        have e_191 : aF σ_s_181 (ad E a 39) = f39 := (hM9.a (by decide) (by decide)).trans J_119_13
        have e_192 : aF σ_s_181 (ad E a 40) = f40 := (hM9.a (by decide) (by decide)).trans J_119_14
        have e_193 : aF σ_s_181 (ad E a 42) = f42 := (hM9.a (by decide) (by decide)).trans J_119_15
        have e_194 : aF σ_s_181 (ad E a 43) = f43 := (hM9.a (by decide) (by decide)).trans J_119_16
        have e_195 : aF σ_s_181 (ad E a 44) = f44 := (hM9.a (by decide) (by decide)).trans J_119_17
        have e_196 : aF σ_s_181 (ad E a 45) = f45 := (hM9.a (by decide) (by decide)).trans J_119_18
        have e_197 : aF σ_s_181 (ad E a 46) = f46 := (hM9.a (by decide) (by decide)).trans J_119_19
        have e_198 : aF σ_s_181 (ad E a 2) = g_62 := (hM9.a (by decide) (by decide)).trans J_119_20
        obtain ⟨g_199, dg_199⟩ : ∃ g9, g9 = upd F1q117 (v2q118).toNat (I z_180) := ⟨_, rfl⟩
        rw [← dg_199] at ha9
        have ef_200 := ha9
        refine lv_iinc (v := I (v2q118 + 1)) (lv' := [(2, .int (I (v2q118 + 1))), (0, .ref a)]) hx hb dX11_tree_61 hl (k := 1) rfl (I_add _ _) (by decide) rfl (fun ls hl => ?_)
        refine lv_goto (tgt := 39) hx hb dX11_tree_64 (by decide) ?_
        exact ihJ_119 (v2q118 + 1, g_199) σ_s_181 _ _ _ (by first | (dsimp only; omega) | omega) ⟨hO, hF, hM, hH, hS, lv_sub hl [1, 0] rfl, ⟨by first | (dsimp only; omega) | omega, by first | (dsimp only; omega) | omega⟩, by first | (dsimp only; omega) | omega, by first | (dsimp only; omega) | omega, by first | (dsimp only; omega) | omega, (J_119_3.step dg_199 (by first | (dsimp only; omega) | omega) ez_180 (by first | (dsimp only; omega) | omega) (by first | (dsimp only; omega) | omega) (by first | (dsimp only; omega) | omega)), e_182, e_183, e_184, e_185, e_186, e_187, e_188, e_189, e_190, e_191, e_192, e_193, e_194, e_195, e_196, e_197, e_198, ef_200⟩
    · replace c_64 := (I_eq (a := z_45) (b := 0) rz_45 (show rng 0 from ⟨by decide, by decide⟩)).mp c_64
      refine lv_aload_n hx hb dX11_tree_32 rfl (lv_at hl 0 rfl) ?_
      refine ok.getI hO h_a (by decide) k13_19 (fun _ _ he hv kk => th_get (ci := 11) (C := RX11) (T := TX11) (N := 66) hx hb hts inX11 hown hK hH he rfl 19 (by decide) fl8 hv dX11_tree_33 kk) (fun z_201 e_202 rz_201 lz_201 uz_201 => ?_)
      exact th_iret hx hb hr hlocks hH hS (z := z_201) rz_201 ⟨hO, hF, hM, by rw [show aF σ_s_44 (ad E a 1) = f1 from e_46, show aF σ_s_44 (ad E a 37) = f37 from e_47, show aF σ_s_44 (ad E a 61) = f61 from e_48, show aF σ_s_44 (ad E a 62) = f62 from e_49, show aF σ_s_44 (ad E a 39) = f39 from e_50, show aF σ_s_44 (ad E a 40) = f40 from e_51, show aF σ_s_44 (ad E a 42) = f42 from e_52, show aF σ_s_44 (ad E a 43) = f43 from e_53, show aF σ_s_44 (ad E a 44) = f44 from e_54, show aF σ_s_44 (ad E a 45) = f45 from e_55, show aF σ_s_44 (ad E a 46) = f46 from e_56]; exact ⟨hj.n (by omega) (by omega) (by omega), by omega⟩⟩ dX11_tree_36
  · replace c_23 := (I_eq (a := z_22) (b := 0) rz_22 (show rng 0 from ⟨by decide, by decide⟩)).mp c_23
    refine lv_aload_n hx hb dX11_tree_13 rfl (lv_at hl 0 rfl) ?_
    refine lv_iconst (v := I 1) hx hb dX11_tree_14 (by decide) ?_
    obtain ⟨_, hc_203⟩ := hO.cell h_a (by decide) (ci := 11) rfl
    refine th_calli (va_runV (As := [.int (I 1)]) (rest := []) ⟨hx, hb, hml, hown, hts⟩ (m_fail l G y b0 σ_s_1 E hO a h_a 1 (show rng 1 from (show rng 1 from ⟨by decide, by decide⟩))) (cwV 1 hts gX11_tree_X11_fail rfl rfl rfl (by decide +kernel) ⟨Nat.le_of_ble_eq_true rfl, Nat.le_of_ble_eq_true rfl⟩) (th_PV hK hH rfl hc_203) rfl rfl hl.1 rfl (lv_room (Nat.le_of_ble_eq_true rfl)) dX11_tree_15 ⟨Nat.le_of_ble_eq_true rfl, Nat.le_of_ble_eq_true rfl⟩) hS (fun z_206 σ_s_205 H locs rz_206 hw_204 hH hS => ?_)
    obtain ⟨hO9, hF9, hM9, hw_204⟩ := hw_204
    replace hM := hM.tu hM9 (by decide)
    replace hF := hF.tu hF9 (by decide)
    have e_207 : aF σ_s_205 (ad E a 1) = f1 := (hM9.a (by decide) (by decide)).trans e_2
    have e_208 : aF σ_s_205 (ad E a 37) = f37 := (hM9.a (by decide) (by decide)).trans e_3
    have e_209 : aF σ_s_205 (ad E a 61) = f61 := (hM9.a (by decide) (by decide)).trans e_4
    have e_210 : aF σ_s_205 (ad E a 62) = f62 := (hM9.a (by decide) (by decide)).trans e_5
    have e_211 : aF σ_s_205 (ad E a 39) = f39 := (hM9.a (by decide) (by decide)).trans e_6
    have e_212 : aF σ_s_205 (ad E a 40) = f40 := (hM9.a (by decide) (by decide)).trans e_7
    have e_213 : aF σ_s_205 (ad E a 42) = f42 := (hM9.a (by decide) (by decide)).trans e_8
    have e_214 : aF σ_s_205 (ad E a 43) = f43 := (hM9.a (by decide) (by decide)).trans e_9
    have e_215 : aF σ_s_205 (ad E a 44) = f44 := (hM9.a (by decide) (by decide)).trans e_10
    have e_216 : aF σ_s_205 (ad E a 45) = f45 := (hM9.a (by decide) (by decide)).trans e_11
    have e_217 : aF σ_s_205 (ad E a 46) = f46 := (hM9.a (by decide) (by decide)).trans e_12
    have e_218 : aF σ_s_205 (ad E a 2) = f2 := (hM9.a (by decide) (by decide)).trans e_13
    have e_219 : gI σ_s_205 a 36 = a360 := (hM9.i (by decide)).trans e_14
    have e_220 : gI σ_s_205 a 58 = a580 := (hM9.i (by decide)).trans e_15
    have e_221 : gI σ_s_205 a 59 = a590 := (hM9.i (by decide)).trans e_16
    have e_222 : gI σ_s_205 a 12 = a120 := (hM9.i (by decide)).trans e_17
    replace hO := hO9
    exact th_iret hx hb hr hlocks hH hS (z := z_206) rz_206 ⟨hO, hF, hM, by rw [show aF σ_s_205 (ad E a 1) = f1 from e_207, show aF σ_s_205 (ad E a 37) = f37 from e_208, show aF σ_s_205 (ad E a 61) = f61 from e_209, show aF σ_s_205 (ad E a 62) = f62 from e_210, show aF σ_s_205 (ad E a 39) = f39 from e_211, show aF σ_s_205 (ad E a 40) = f40 from e_212, show aF σ_s_205 (ad E a 42) = f42 from e_213, show aF σ_s_205 (ad E a 43) = f43 from e_214, show aF σ_s_205 (ad E a 44) = f44 from e_215, show aF σ_s_205 (ad E a 45) = f45 from e_216, show aF σ_s_205 (ad E a 46) = f46 from e_217]; exact ⟨hj.n (by omega) (by omega) (by omega), by omega⟩⟩ dX11_tree_18

set_option maxHeartbeats 4000000 in
set_option maxRecDepth 100000 in
theorem j_path (l : Launch) (G : va_G) (y : Nat → ClassId) (b0 : Nat) (σ : th_M) (E : th_E) (hO : ok y E σ) (a : Nat) (h_a : kd E a = 13) (slot : Int) (rslot : rng slot) (nn : Int) (rnn : rng nn) (f1 : Nat → Int32) (ef1 : aF σ (ad E a 1) = f1) (f37 : Nat → Int32) (ef37 : aF σ (ad E a 37) = f37) (f61 : Nat → Int32) (ef61 : aF σ (ad E a 61) = f61) (f62 : Nat → Int32) (ef62 : aF σ (ad E a 62) = f62) (f39 : Nat → Int32) (ef39 : aF σ (ad E a 39) = f39) (f40 : Nat → Int32) (ef40 : aF σ (ad E a 40) = f40) (f42 : Nat → Int32) (ef42 : aF σ (ad E a 42) = f42) (f43 : Nat → Int32) (ef43 : aF σ (ad E a 43) = f43) (f44 : Nat → Int32) (ef44 : aF σ (ad E a 44) = f44) (f45 : Nat → Int32) (ef45 : aF σ (ad E a 45) = f45) (f46 : Nat → Int32) (ef46 : aF σ (ad E a 46) = f46) (f8 : Nat → Int32) (ef8 : aF σ (ad E a 8) = f8) (hy0 : jw f1 f37 f61 f62 f39 f40 f42 f43 f44 f45 f46 (gI σ a 36) (gI σ a 58) (gI σ a 59)) : Met l yX11_path wsX11_path ({ frames := 50, cells := 0, slots := 0, locals := 1686 }) (th_P G y b0 σ [.ref a, .int (I slot), .int (I nn)]) (th_Qi G b0 (fun r σ1 => ok y E σ1 ∧ fr [13] E σ σ1 ∧ fm [0, 4, 7, 8, 9, 10, 11, 12, 13, 14, 15, 16, 17, 18, 19, 20, 21, 23, 24, 25, 26, 27, 28, 29, 30] E σ σ1 a ∧ (jw (aF σ1 (ad E a 1)) (aF σ1 (ad E a 37)) (aF σ1 (ad E a 61)) (aF σ1 (ad E a 62)) (aF σ1 (ad E a 39)) (aF σ1 (ad E a 40)) (aF σ1 (ad E a 42)) (aF σ1 (ad E a 43)) (aF σ1 (ad E a 44)) (aF σ1 (ad E a 45)) (aF σ1 (ad E a 46)) (gI σ1 a 36) (gI σ1 a 58) (gI σ1 a 59) ∧ ((((0 ≤ slot ∧ slot ≤ 3) ∧ 0 ≤ nn ∧ nn ≤ gI σ a 12) ∧ gI σ1 a 12 = 0) ∨ (¬ ((0 ≤ slot ∧ slot ≤ 3) ∧ 0 ≤ nn ∧ nn ≤ gI σ a 12) ∧ gI σ1 a 12 = gI σ a 12))))) 0 0 (th_A b0) := by
  refine Met.ofW (cc := cX11_path) (maxL := 4) (ret := (some .int)) (by decide) rfl ?_
  intro p e s m args below meth c s₁ B hml hv
  obtain ⟨rfl, hH, hK⟩ := hv
  have hx := B.exec
  have hb := B.bytes
  have hr := B.returns
  have hts := atoms_spec (ws := wsX11_path) B.pre
  have hown : s.vm.findClass RX11 = some m.cls := findClass_of_methodNamed B.named
  have hlocks := B.notSynchronized
  have h00 : b0 ≤ s.heap.size := hH.1
  have hS : va_S (th_A b0) s.heap s.heap [] := va_S.rf
  have hF : fr [13] E σ σ := fr.rf
  have hM : fm [0, 4, 7, 8, 9, 10, 11, 12, 13, 14, 15, 16, 17, 18, 19, 20, 21, 23, 24, 25, 26, 27, 28, 29, 30] E σ σ a := fm.rf
  have hj := hy0
  have hw1 := hj.1.1.1
  have hm1 := hj.1.2.1
  have hm2 := hj.1.2.2.1
  have hm3 := hj.2.2.2.2.1
  have hm4 := hj.2.2.2.2.2.1
  have inX11 : ∀ w ∈ wsX110, w ∈ wsX11_path := by decide +kernel
  have fl0 := hts (.fieldLink RX11 111 "NestQueryModel" "code" "I") (by decide +kernel)
  have fl1 := hts (.fieldLink RX11 114 "NestQueryModel" "taped" "I") (by decide +kernel)
  have fl2 := hts (.fieldLink RX11 300 "NestQueryModel" "isGone" "Z") (by decide +kernel)
  have fl3 := hts (.fieldLink RX11 22 "NestQueryModel" "tape" "[I") (by decide +kernel)
  have fl4 := hts (.fieldLink RX11 28 "NestQueryModel" "pathSize" "[I") (by decide +kernel)
  have fl5 := hts (.fieldLink RX11 25 "NestQueryModel" "paths" "[I") (by decide +kernel)
  have fl6 := hts (.fieldLink RX11 162 "NestQueryModel" "bad" "I") (by decide +kernel)
  have hl := lv_entry ([.ref a, .int (I slot), .int (I nn)]) (n := 4) (Nat.le_of_ble_eq_true rfl)
  rw [lg_entry_eq]
  generalize (lg_sl ([.ref a, .int (I slot), .int (I nn)]) ++ List.replicate (4 - (lg_sl ([.ref a, .int (I slot), .int (I nn)])).length) Slot.unset).toArray = ls at hl ⊢
  have hl : lv_has ls 4 [(0, .ref a), (1, .int (I slot)), (2, .int (I nn))] := hl
  obtain ⟨a360, ea360, ra360, la360, ua360⟩ := hO.gi h_a (by decide) k13_36
  obtain ⟨a580, ea580, ra580, la580, ua580⟩ := hO.gi h_a (by decide) k13_58
  obtain ⟨a590, ea590, ra590, la590, ua590⟩ := hO.gi h_a (by decide) k13_59
  obtain ⟨a120, ea120, ra120, la120, ua120⟩ := hO.gi h_a (by decide) k13_12
  refine lv_aload_n hx hb dX11_path_0 rfl (lv_at hl 0 rfl) ?_
  refine lv_iconst (v := I 0) hx hb dX11_path_1 (by decide) ?_
  refine ok.putJ hO h_a k13_0 (show rng 0 from ⟨by decide, by decide⟩) (by omega) (by omega) (fun _ he hl9 kk => th_put (ci := 11) (v := .int (I 0)) (ty := .int) (C := RX11) (T := TX11) (N := 66) hx hb hts inX11 tyX11 tyX11_ok nmX11 hown hK hH hS h00 he rfl 0 (by decide) fl0 rfl (by decide +kernel) rfl rfl hl9 dX11_path_2 kk) (fun σ_s_1 H locs hO hF9 hM9 hg9 ha9 hH hS => ?_)
  replace hM := hM.tu hM9 (by decide)
  replace hF := hF.tu hF9 (by decide)
  have e_2 : aF σ_s_1 (ad E a 1) = f1 := (hM9.a (by decide) (by decide)).trans ef1
  have e_3 : aF σ_s_1 (ad E a 37) = f37 := (hM9.a (by decide) (by decide)).trans ef37
  have e_4 : aF σ_s_1 (ad E a 61) = f61 := (hM9.a (by decide) (by decide)).trans ef61
  have e_5 : aF σ_s_1 (ad E a 62) = f62 := (hM9.a (by decide) (by decide)).trans ef62
  have e_6 : aF σ_s_1 (ad E a 39) = f39 := (hM9.a (by decide) (by decide)).trans ef39
  have e_7 : aF σ_s_1 (ad E a 40) = f40 := (hM9.a (by decide) (by decide)).trans ef40
  have e_8 : aF σ_s_1 (ad E a 42) = f42 := (hM9.a (by decide) (by decide)).trans ef42
  have e_9 : aF σ_s_1 (ad E a 43) = f43 := (hM9.a (by decide) (by decide)).trans ef43
  have e_10 : aF σ_s_1 (ad E a 44) = f44 := (hM9.a (by decide) (by decide)).trans ef44
  have e_11 : aF σ_s_1 (ad E a 45) = f45 := (hM9.a (by decide) (by decide)).trans ef45
  have e_12 : aF σ_s_1 (ad E a 46) = f46 := (hM9.a (by decide) (by decide)).trans ef46
  have e_13 : aF σ_s_1 (ad E a 8) = f8 := (hM9.a (by decide) (by decide)).trans ef8
  have e_14 : gI σ_s_1 a 36 = a360 := (hM9.i (by decide)).trans ea360
  have e_15 : gI σ_s_1 a 58 = a580 := (hM9.i (by decide)).trans ea580
  have e_16 : gI σ_s_1 a 59 = a590 := (hM9.i (by decide)).trans ea590
  have e_17 : gI σ_s_1 a 12 = a120 := (hM9.i (by decide)).trans ea120
  have e_18 := hg9
  refine lv_iload_n hx hb dX11_path_5 rfl (lv_at hl 1 rfl) ?_
  refine lv_iconst (v := I 0) hx hb dX11_path_6 (by decide) ?_
  refine lv_iconst (v := I 3) hx hb dX11_path_7 (by decide) ?_
  refine th_calli (va_runS (As := [.int (I slot), .int (I 0), .int (I 3)]) (rest := []) ⟨hx, hb, hml, hown, hts⟩ (w_isIn l G y b0 σ_s_1 E hO slot (show rng slot from rslot) 0 (show rng 0 from (show rng 0 from ⟨by decide, by decide⟩)) 3 (show rng 3 from (show rng 3 from ⟨by decide, by decide⟩))) (va_cwS 3 hts gX11_path_X11_isIn rfl rfl rfl (by decide +kernel) ⟨Nat.le_of_ble_eq_true rfl, Nat.le_of_ble_eq_true rfl⟩) (th_PS hK hH) rfl rfl hl.1 rfl (lv_room (Nat.le_of_ble_eq_true rfl)) dX11_path_8 ⟨Nat.le_of_ble_eq_true rfl, Nat.le_of_ble_eq_true rfl⟩) hS (fun z_21 σ_s_20 H locs rz_21 hw_19 hH hS => ?_)
  obtain ⟨e9, bhw_19, hw_19⟩ := hw_19
  replace e9 := e9.symm
  subst e9
  have hw_19 : (z_21 = 1 ∧ 0 ≤ slot ∧ slot ≤ 3) ∨ (z_21 = 0 ∧ ¬ (0 ≤ slot ∧ slot ≤ 3)) := hw_19
  refine lv_if_ne (tgt := 20) hx hb dX11_path_11 (by decide) (fun c_22 => ?_) (fun c_22 => ?_)
  · replace c_22 := mt (I_eq (a := z_21) (b := 0) rz_21 (show rng 0 from ⟨by decide, by decide⟩)).mpr c_22
    refine lv_aload_n hx hb dX11_path_20 rfl (lv_at hl 0 rfl) ?_
    refine lv_iload_n hx hb dX11_path_21 rfl (lv_at hl 2 rfl) ?_
    obtain ⟨_, hc_23⟩ := hO.cell h_a (by decide) (ci := 11) rfl
    refine th_calli (va_runV (As := [.int (I nn)]) (rest := []) ⟨hx, hb, hml, hown, hts⟩ (m_isTape l G y b0 σ_s_1 E hO a h_a nn (show rng nn from rnn)) (cwV 1 hts gX11_path_X11_isTape rfl rfl rfl (by decide +kernel) ⟨Nat.le_of_ble_eq_true rfl, Nat.le_of_ble_eq_true rfl⟩) (th_PV hK hH rfl hc_23) rfl rfl hl.1 rfl (lv_room (Nat.le_of_ble_eq_true rfl)) dX11_path_22 ⟨Nat.le_of_ble_eq_true rfl, Nat.le_of_ble_eq_true rfl⟩) hS (fun z_26 σ_s_25 H locs rz_26 hw_24 hH hS => ?_)
    obtain ⟨e9, bhw_24, hw_24⟩ := hw_24
    replace e9 := e9.symm
    subst e9
    have hw_24 : (z_26 = 1 ∧ 0 ≤ nn ∧ nn ≤ gI σ_s_1 a 12) ∨ (z_26 = 0 ∧ ¬ (0 ≤ nn ∧ nn ≤ gI σ_s_1 a 12)) := hw_24
    refine lv_if_ne (tgt := 34) hx hb dX11_path_25 (by decide) (fun c_27 => ?_) (fun c_27 => ?_)
    · replace c_27 := mt (I_eq (a := z_26) (b := 0) rz_26 (show rng 0 from ⟨by decide, by decide⟩)).mpr c_27
      refine lv_aload_n hx hb dX11_path_34 rfl (lv_at hl 0 rfl) ?_
      refine lv_iconst (v := I 0) hx hb dX11_path_35 (by decide) ?_
      refine ok.putJ hO h_a k13_12 (show rng 0 from ⟨by decide, by decide⟩) (by omega) (by omega) (fun _ he hl9 kk => th_put (ci := 11) (v := .int (I 0)) (ty := .int) (C := RX11) (T := TX11) (N := 66) hx hb hts inX11 tyX11 tyX11_ok nmX11 hown hK hH hS h00 he rfl 12 (by decide) fl1 rfl (by decide +kernel) rfl rfl hl9 dX11_path_36 kk) (fun σ_s_28 H locs hO hF9 hM9 hg9 ha9 hH hS => ?_)
      replace hM := hM.tu hM9 (by decide)
      replace hF := hF.tu hF9 (by decide)
      have e_29 : aF σ_s_28 (ad E a 1) = f1 := (hM9.a (by decide) (by decide)).trans e_2
      have e_30 : aF σ_s_28 (ad E a 37) = f37 := (hM9.a (by decide) (by decide)).trans e_3
      have e_31 : aF σ_s_28 (ad E a 61) = f61 := (hM9.a (by decide) (by decide)).trans e_4
      have e_32 : aF σ_s_28 (ad E a 62) = f62 := (hM9.a (by decide) (by decide)).trans e_5
      have e_33 : aF σ_s_28 (ad E a 39) = f39 := (hM9.a (by decide) (by decide)).trans e_6
      have e_34 : aF σ_s_28 (ad E a 40) = f40 := (hM9.a (by decide) (by decide)).trans e_7
      have e_35 : aF σ_s_28 (ad E a 42) = f42 := (hM9.a (by decide) (by decide)).trans e_8
      have e_36 : aF σ_s_28 (ad E a 43) = f43 := (hM9.a (by decide) (by decide)).trans e_9
      have e_37 : aF σ_s_28 (ad E a 44) = f44 := (hM9.a (by decide) (by decide)).trans e_10
      have e_38 : aF σ_s_28 (ad E a 45) = f45 := (hM9.a (by decide) (by decide)).trans e_11
      have e_39 : aF σ_s_28 (ad E a 46) = f46 := (hM9.a (by decide) (by decide)).trans e_12
      have e_40 : aF σ_s_28 (ad E a 8) = f8 := (hM9.a (by decide) (by decide)).trans e_13
      have e_41 : gI σ_s_28 a 36 = a360 := (hM9.i (by decide)).trans e_14
      have e_42 : gI σ_s_28 a 58 = a580 := (hM9.i (by decide)).trans e_15
      have e_43 : gI σ_s_28 a 59 = a590 := (hM9.i (by decide)).trans e_16
      have e_44 : gI σ_s_28 a 0 = 0 := (hM9.i (by decide)).trans e_18
      have e_45 := hg9
      refine lv_aload_n hx hb dX11_path_39 rfl (lv_at hl 0 rfl) ?_
      refine lv_iconst (v := I 0) hx hb dX11_path_40 (by decide) ?_
      refine ok.putJ hO h_a k13_25 (show rng 0 from ⟨by decide, by decide⟩) (by omega) (by omega) (fun _ he hl9 kk => th_put (ci := 11) (v := .int (I 0)) (ty := .boolean) (C := RX11) (T := TX11) (N := 66) hx hb hts inX11 tyX11 tyX11_ok nmX11 hown hK hH hS h00 he rfl 25 (by decide) fl2 rfl (by decide +kernel) (nar_z (by omega)) rfl hl9 dX11_path_41 kk) (fun σ_s_46 H locs hO hF9 hM9 hg9 ha9 hH hS => ?_)
      replace hM := hM.tu hM9 (by decide)
      replace hF := hF.tu hF9 (by decide)
      have e_47 : aF σ_s_46 (ad E a 1) = f1 := (hM9.a (by decide) (by decide)).trans e_29
      have e_48 : aF σ_s_46 (ad E a 37) = f37 := (hM9.a (by decide) (by decide)).trans e_30
      have e_49 : aF σ_s_46 (ad E a 61) = f61 := (hM9.a (by decide) (by decide)).trans e_31
      have e_50 : aF σ_s_46 (ad E a 62) = f62 := (hM9.a (by decide) (by decide)).trans e_32
      have e_51 : aF σ_s_46 (ad E a 39) = f39 := (hM9.a (by decide) (by decide)).trans e_33
      have e_52 : aF σ_s_46 (ad E a 40) = f40 := (hM9.a (by decide) (by decide)).trans e_34
      have e_53 : aF σ_s_46 (ad E a 42) = f42 := (hM9.a (by decide) (by decide)).trans e_35
      have e_54 : aF σ_s_46 (ad E a 43) = f43 := (hM9.a (by decide) (by decide)).trans e_36
      have e_55 : aF σ_s_46 (ad E a 44) = f44 := (hM9.a (by decide) (by decide)).trans e_37
      have e_56 : aF σ_s_46 (ad E a 45) = f45 := (hM9.a (by decide) (by decide)).trans e_38
      have e_57 : aF σ_s_46 (ad E a 46) = f46 := (hM9.a (by decide) (by decide)).trans e_39
      have e_58 : aF σ_s_46 (ad E a 8) = f8 := (hM9.a (by decide) (by decide)).trans e_40
      have e_59 : gI σ_s_46 a 36 = a360 := (hM9.i (by decide)).trans e_41
      have e_60 : gI σ_s_46 a 58 = a580 := (hM9.i (by decide)).trans e_42
      have e_61 : gI σ_s_46 a 59 = a590 := (hM9.i (by decide)).trans e_43
      have e_62 : gI σ_s_46 a 0 = 0 := (hM9.i (by decide)).trans e_44
      have e_63 : gI σ_s_46 a 12 = 0 := (hM9.i (by decide)).trans e_45
      have e_64 := hg9
      refine lv_aload_n hx hb dX11_path_44 rfl (lv_at hl 0 rfl) ?_
      refine lv_aload_n hx hb dX11_path_45 rfl (lv_at hl 0 rfl) ?_
      refine ok.getR hO h_a (by decide) k13_6 (by decide) (fun _ _ he hv kk => th_get (ci := 11) (C := RX11) (T := TX11) (N := 66) hx hb hts inX11 hown hK hH he rfl 6 (by decide) fl3 hv dX11_path_46 kk) ?_
      refine lv_iconst (v := I 0) hx hb dX11_path_49 (by decide) ?_
      refine lv_iload_n hx hb dX11_path_50 rfl (lv_at hl 2 rfl) ?_
      obtain ⟨_, hc_65⟩ := hO.cell h_a (by decide) (ci := 11) rfl
      refine th_callv (va_runV (As := [.ref (ad E a 6), .int (I 0), .int (I nn)]) (rest := []) ⟨hx, hb, hml, hown, hts⟩ (m_begin6 l G y b0 σ_s_46 E hO a h_a 0 (show rng 0 from (show rng 0 from ⟨by decide, by decide⟩)) (by omega) (by omega) nn (show rng nn from rnn) (by omega) (by omega) (by omega)) (cwV 3 hts gX11_path_X11_beginText rfl rfl rfl (by decide +kernel) ⟨Nat.le_of_ble_eq_true rfl, Nat.le_of_ble_eq_true rfl⟩) (th_PV hK hH rfl hc_65) rfl rfl hl.1 rfl (lv_room (Nat.le_of_ble_eq_true rfl)) dX11_path_51 ⟨Nat.le_of_ble_eq_true rfl, Nat.le_of_ble_eq_true rfl⟩) hS (fun σ_s_67 H locs hw_66 hH hS => ?_)
      obtain ⟨hO9, hF9, hM9, hw_66⟩ := hw_66
      replace hM := hM.tu hM9 (by decide)
      replace hF := hF.tu hF9 (by decide)
      have e_68 : aF σ_s_67 (ad E a 1) = f1 := (hM9.a (by decide) (by decide)).trans e_47
      have e_69 : aF σ_s_67 (ad E a 37) = f37 := (hM9.a (by decide) (by decide)).trans e_48
      have e_70 : aF σ_s_67 (ad E a 61) = f61 := (hM9.a (by decide) (by decide)).trans e_49
      have e_71 : aF σ_s_67 (ad E a 62) = f62 := (hM9.a (by decide) (by decide)).trans e_50
      have e_72 : aF σ_s_67 (ad E a 39) = f39 := (hM9.a (by decide) (by decide)).trans e_51
      have e_73 : aF σ_s_67 (ad E a 40) = f40 := (hM9.a (by decide) (by decide)).trans e_52
      have e_74 : aF σ_s_67 (ad E a 42) = f42 := (hM9.a (by decide) (by decide)).trans e_53
      have e_75 : aF σ_s_67 (ad E a 43) = f43 := (hM9.a (by decide) (by decide)).trans e_54
      have e_76 : aF σ_s_67 (ad E a 44) = f44 := (hM9.a (by decide) (by decide)).trans e_55
      have e_77 : aF σ_s_67 (ad E a 45) = f45 := (hM9.a (by decide) (by decide)).trans e_56
      have e_78 : aF σ_s_67 (ad E a 46) = f46 := (hM9.a (by decide) (by decide)).trans e_57
      have e_79 : aF σ_s_67 (ad E a 8) = f8 := (hM9.a (by decide) (by decide)).trans e_58
      have e_80 : gI σ_s_67 a 36 = a360 := (hM9.i (by decide)).trans e_59
      have e_81 : gI σ_s_67 a 58 = a580 := (hM9.i (by decide)).trans e_60
      have e_82 : gI σ_s_67 a 59 = a590 := (hM9.i (by decide)).trans e_61
      have e_83 : gI σ_s_67 a 0 = 0 := (hM9.i (by decide)).trans e_62
      have e_84 : gI σ_s_67 a 12 = 0 := (hM9.i (by decide)).trans e_63
      have e_85 : gI σ_s_67 a 25 = 0 := (hM9.i (by decide)).trans e_64
      replace hO := hO9
      obtain ⟨Bf, hsr, hw_66⟩ := hw_66
      have hw_66 : gI σ_s_67 a 11 = nn ∧ 0 ≤ gI σ_s_67 a 17 ∧ gI σ_s_67 a 17 ≤ gI σ_s_67 a 13 ∧ gI σ_s_67 a 13 ≤ gI σ_s_67 a 11 ∧ gI σ_s_67 a 19 = 0 := hw_66
      refine lv_aload_n hx hb dX11_path_54 rfl (lv_at hl 0 rfl) ?_
      refine lv_iconst (v := I (-1)) hx hb dX11_path_55 (by decide) ?_
      obtain ⟨_, hc_86⟩ := hO.cell h_a (by decide) (ci := 11) rfl
      refine th_callv (va_runV (As := [.int (I (-1))]) (rest := []) ⟨hx, hb, hml, hown, hts⟩ (m_readPath l G y b0 σ_s_67 E hO a h_a (-1) (show rng (-1) from (show rng (-1) from ⟨by decide, by decide⟩)) f1 e_68 Bf hsr (hw1) (by omega) (by omega)) (cwV 1 hts gX11_path_X11_readPath rfl rfl rfl (by decide +kernel) ⟨Nat.le_of_ble_eq_true rfl, Nat.le_of_ble_eq_true rfl⟩) (th_PV hK hH rfl hc_86) rfl rfl hl.1 rfl (lv_room (Nat.le_of_ble_eq_true rfl)) dX11_path_56 ⟨Nat.le_of_ble_eq_true rfl, Nat.le_of_ble_eq_true rfl⟩) hS (fun σ_s_88 H locs hw_87 hH hS => ?_)
      obtain ⟨hO9, hF9, hM9, hw_87⟩ := hw_87
      replace hM := hM.tu hM9 (by decide)
      replace hF := hF.tu hF9 (by decide)
      have e_89 : aF σ_s_88 (ad E a 1) = f1 := (hM9.a (by decide) (by decide)).trans e_68
      have e_90 : aF σ_s_88 (ad E a 37) = f37 := (hM9.a (by decide) (by decide)).trans e_69
      have e_91 : aF σ_s_88 (ad E a 61) = f61 := (hM9.a (by decide) (by decide)).trans e_70
      have e_92 : aF σ_s_88 (ad E a 62) = f62 := (hM9.a (by decide) (by decide)).trans e_71
      have e_93 : aF σ_s_88 (ad E a 39) = f39 := (hM9.a (by decide) (by decide)).trans e_72
      have e_94 : aF σ_s_88 (ad E a 40) = f40 := (hM9.a (by decide) (by decide)).trans e_73
      have e_95 : aF σ_s_88 (ad E a 42) = f42 := (hM9.a (by decide) (by decide)).trans e_74
      have e_96 : aF σ_s_88 (ad E a 43) = f43 := (hM9.a (by decide) (by decide)).trans e_75
      have e_97 : aF σ_s_88 (ad E a 44) = f44 := (hM9.a (by decide) (by decide)).trans e_76
      have e_98 : aF σ_s_88 (ad E a 45) = f45 := (hM9.a (by decide) (by decide)).trans e_77
      have e_99 : aF σ_s_88 (ad E a 46) = f46 := (hM9.a (by decide) (by decide)).trans e_78
      have e_100 : aF σ_s_88 (ad E a 8) = f8 := (hM9.a (by decide) (by decide)).trans e_79
      have e_101 : gI σ_s_88 a 36 = a360 := (hM9.i (by decide)).trans e_80
      have e_102 : gI σ_s_88 a 58 = a580 := (hM9.i (by decide)).trans e_81
      have e_103 : gI σ_s_88 a 59 = a590 := (hM9.i (by decide)).trans e_82
      have e_104 : gI σ_s_88 a 0 = 0 := (hM9.i (by decide)).trans e_83
      have e_105 : gI σ_s_88 a 12 = 0 := (hM9.i (by decide)).trans e_84
      have e_106 : gI σ_s_88 a 25 = 0 := (hM9.i (by decide)).trans e_85
      replace hsr := hsr.mv hM9 (by decide) (by decide) (by decide) (by decide) (by decide)
      replace hO := hO9
      have hw_87 : 0 ≤ gI σ_s_88 a 26 ∧ gI σ_s_88 a 26 ≤ 8 := hw_87
      refine lv_aload_n hx hb dX11_path_59 rfl (lv_at hl 0 rfl) ?_
      obtain ⟨_, hc_107⟩ := hO.cell h_a (by decide) (ci := 11) rfl
      refine th_calli (va_runV (As := []) (rest := []) ⟨hx, hb, hml, hown, hts⟩ (m_isRead l G y b0 σ_s_88 E hO a h_a) (cwV 0 hts gX11_path_X11_isRead rfl rfl rfl (by decide +kernel) ⟨Nat.le_of_ble_eq_true rfl, Nat.le_of_ble_eq_true rfl⟩) (th_PV hK hH rfl hc_107) rfl rfl hl.1 rfl (lv_room (Nat.le_of_ble_eq_true rfl)) dX11_path_60 ⟨Nat.le_of_ble_eq_true rfl, Nat.le_of_ble_eq_true rfl⟩) hS (fun z_110 σ_s_109 H locs rz_110 hw_108 hH hS => ?_)
      obtain ⟨hO9, hF9, hM9, bhw_108, hw_108⟩ := hw_108
      replace hM := hM.tu hM9 (by decide)
      replace hF := hF.tu hF9 (by decide)
      have e_111 : aF σ_s_109 (ad E a 1) = f1 := (hM9.a (by decide) (by decide)).trans e_89
      have e_112 : aF σ_s_109 (ad E a 37) = f37 := (hM9.a (by decide) (by decide)).trans e_90
      have e_113 : aF σ_s_109 (ad E a 61) = f61 := (hM9.a (by decide) (by decide)).trans e_91
      have e_114 : aF σ_s_109 (ad E a 62) = f62 := (hM9.a (by decide) (by decide)).trans e_92
      have e_115 : aF σ_s_109 (ad E a 39) = f39 := (hM9.a (by decide) (by decide)).trans e_93
      have e_116 : aF σ_s_109 (ad E a 40) = f40 := (hM9.a (by decide) (by decide)).trans e_94
      have e_117 : aF σ_s_109 (ad E a 42) = f42 := (hM9.a (by decide) (by decide)).trans e_95
      have e_118 : aF σ_s_109 (ad E a 43) = f43 := (hM9.a (by decide) (by decide)).trans e_96
      have e_119 : aF σ_s_109 (ad E a 44) = f44 := (hM9.a (by decide) (by decide)).trans e_97
      have e_120 : aF σ_s_109 (ad E a 45) = f45 := (hM9.a (by decide) (by decide)).trans e_98
      have e_121 : aF σ_s_109 (ad E a 46) = f46 := (hM9.a (by decide) (by decide)).trans e_99
      have e_122 : aF σ_s_109 (ad E a 8) = f8 := (hM9.a (by decide) (by decide)).trans e_100
      have e_123 : gI σ_s_109 a 36 = a360 := (hM9.i (by decide)).trans e_101
      have e_124 : gI σ_s_109 a 58 = a580 := (hM9.i (by decide)).trans e_102
      have e_125 : gI σ_s_109 a 59 = a590 := (hM9.i (by decide)).trans e_103
      have e_126 : gI σ_s_109 a 0 = 0 := (hM9.i (by decide)).trans e_104
      have e_127 : gI σ_s_109 a 12 = 0 := (hM9.i (by decide)).trans e_105
      have e_128 : gI σ_s_109 a 25 = 0 := (hM9.i (by decide)).trans e_106
      replace hsr := hsr.mv hM9 (by decide) (by decide) (by decide) (by decide) (by decide)
      replace hO := hO9
      have hw_108 : (z_110 = 1 ∧ gI σ_s_88 a 19 = 0) ∨ (z_110 = 0 ∧ ¬ gI σ_s_88 a 19 = 0) := hw_108
      refine lv_if_ne (tgt := 71) hx hb dX11_path_63 (by decide) (fun c_129 => ?_) (fun c_129 => ?_)
      · replace c_129 := mt (I_eq (a := z_110) (b := 0) rz_110 (show rng 0 from ⟨by decide, by decide⟩)).mpr c_129
        refine lv_iconst (v := I 0) hx hb dX11_path_71 (by decide) ?_
        refine lv_istore_n (lv' := [(3, .int (I 0)), (0, .ref a), (1, .int (I slot)), (2, .int (I nn))]) hx hb dX11_path_72 rfl hl (by decide) rfl (fun ls hl => ?_)
        refine th_loop (α := Int) (pc := 73) (fun x9 => (nn - x9).toNat) (fun x9 σ9 H9 l9 ls9 => ok y E σ9 ∧ fr [13] E σ σ9 ∧ fm [0, 4, 7, 8, 9, 10, 11, 12, 13, 14, 15, 16, 17, 18, 19, 20, 21, 23, 24, 25, 26, 27, 28, 29, 30] E σ σ9 a ∧ th_H G b0 σ9 H9 ∧ va_S (th_A b0) s.heap H9 l9 ∧ lv_has ls9 4 [(0, .ref a), (1, .int (I slot)), (2, .int (I nn)), (3, .int (I x9))] ∧ rng x9 ∧ (0 ≤ x9) ∧ (x9 ≤ 400) ∧ (gI σ9 a 36 = a360) ∧ (gI σ9 a 58 = a580) ∧ (gI σ9 a 59 = a590) ∧ (gI σ9 a 0 = 0) ∧ (gI σ9 a 12 = 0) ∧ (gI σ9 a 25 = 0) ∧ (aF σ9 (ad E a 1) = f1) ∧ (aF σ9 (ad E a 37) = f37) ∧ (aF σ9 (ad E a 61) = f61) ∧ (aF σ9 (ad E a 62) = f62) ∧ (aF σ9 (ad E a 39) = f39) ∧ (aF σ9 (ad E a 40) = f40) ∧ (aF σ9 (ad E a 42) = f42) ∧ (aF σ9 (ad E a 43) = f43) ∧ (aF σ9 (ad E a 44) = f44) ∧ (aF σ9 (ad E a 45) = f45) ∧ (aF σ9 (ad E a 46) = f46) ∧ (aF σ9 (ad E a 8) = f8)) ?_ (0) σ_s_109 _ _ _ ⟨hO, hF, hM, hH, hS, lv_sub hl [1, 2, 3, 0] rfl, (show rng 0 from ⟨by decide, by decide⟩), by first | (dsimp only; omega) | omega, by first | (dsimp only; omega) | omega, e_123, e_124, e_125, e_126, e_127, e_128, e_111, e_112, e_113, e_114, e_115, e_116, e_117, e_118, e_119, e_120, e_121, e_122⟩
        intro x9 σ_J_161 H locs ls hI9 ihJ_161
        obtain ⟨v3q160, ex9⟩ : ∃ z, z = x9 := ⟨_, rfl⟩
        subst ex9
        obtain ⟨hO, hF, hM, hH, hS, hl, rv3q160, J_161_0, J_161_1, J_161_2, J_161_3, J_161_4, J_161_5, J_161_6, J_161_7, J_161_8, J_161_9, J_161_10, J_161_11, J_161_12, J_161_13, J_161_14, J_161_15, J_161_16, J_161_17, J_161_18, J_161_19⟩ := hI9
        have hl : lv_has ls 4 [(0, .ref a), (1, .int (I slot)), (2, .int (I nn)), (3, .int (I v3q160))] := hl
        have rv3q160 : rng v3q160 := rv3q160
        have J_161_0 : 0 ≤ v3q160 := J_161_0
        have J_161_1 : v3q160 ≤ 400 := J_161_1
        have J_161_2 : gI σ_J_161 a 36 = a360 := J_161_2
        have J_161_3 : gI σ_J_161 a 58 = a580 := J_161_3
        have J_161_4 : gI σ_J_161 a 59 = a590 := J_161_4
        have J_161_5 : gI σ_J_161 a 0 = 0 := J_161_5
        have J_161_6 : gI σ_J_161 a 12 = 0 := J_161_6
        have J_161_7 : gI σ_J_161 a 25 = 0 := J_161_7
        have J_161_8 : aF σ_J_161 (ad E a 1) = f1 := J_161_8
        have J_161_9 : aF σ_J_161 (ad E a 37) = f37 := J_161_9
        have J_161_10 : aF σ_J_161 (ad E a 61) = f61 := J_161_10
        have J_161_11 : aF σ_J_161 (ad E a 62) = f62 := J_161_11
        have J_161_12 : aF σ_J_161 (ad E a 39) = f39 := J_161_12
        have J_161_13 : aF σ_J_161 (ad E a 40) = f40 := J_161_13
        have J_161_14 : aF σ_J_161 (ad E a 42) = f42 := J_161_14
        have J_161_15 : aF σ_J_161 (ad E a 43) = f43 := J_161_15
        have J_161_16 : aF σ_J_161 (ad E a 44) = f44 := J_161_16
        have J_161_17 : aF σ_J_161 (ad E a 45) = f45 := J_161_17
        have J_161_18 : aF σ_J_161 (ad E a 46) = f46 := J_161_18
        have J_161_19 : aF σ_J_161 (ad E a 8) = f8 := J_161_19
        refine lv_iload_n hx hb dX11_path_73 rfl (lv_at hl 3 rfl) ?_
        refine lv_iload_n hx hb dX11_path_74 rfl (lv_at hl 2 rfl) ?_
        refine lv_icmp_ge (tgt := 102) hx hb dX11_path_75 (by decide) (fun c_162 => ?_) (fun c_162 => ?_)
        · replace c_162 := (I_le (a := nn) (b := v3q160) rnn rv3q160).mp c_162
          refine lv_aload_n hx hb dX11_path_102 rfl (lv_at hl 0 rfl) ?_
          refine ok.getR hO h_a (by decide) k13_8 (by decide) (fun _ _ he hv kk => th_get (ci := 11) (C := RX11) (T := TX11) (N := 66) hx hb hts inX11 hown hK hH he rfl 8 (by decide) fl4 hv dX11_path_103 kk) ?_
          refine lv_iload_n hx hb dX11_path_106 rfl (lv_at hl 1 rfl) ?_
          refine lv_iload_n hx hb dX11_path_107 rfl (lv_at hl 2 rfl) ?_
          refine lv_iconst (v := I 1) hx hb dX11_path_108 (by decide) ?_
          refine lv_iadd hx hb dX11_path_109 ?_
          refine th_addo (fun z_163 rz_163 hz_163 => ?_)
          refine m_iast hx hb hK hH hS h00 hO h_a k13_8 isA9 (by decide) J_161_19 rslot (by omega) (by omega) rz_163 (el9 (by omega) (by omega)) dX11_path_110 (fun σ_s_164 H locs hO hF9 hM9 ha9 hH hS => ?_)
          replace hM := hM.tu hM9 (by decide)
          replace hF := hF.tu hF9 (by decide)
          have e_165 : gI σ_s_164 a 36 = a360 := (hM9.i (by decide)).trans J_161_2
          have e_166 : gI σ_s_164 a 58 = a580 := (hM9.i (by decide)).trans J_161_3
          have e_167 : gI σ_s_164 a 59 = a590 := (hM9.i (by decide)).trans J_161_4
          have e_168 : gI σ_s_164 a 0 = 0 := (hM9.i (by decide)).trans J_161_5
          have e_169 : gI σ_s_164 a 12 = 0 := (hM9.i (by decide)).trans J_161_6
          have e_170 : gI σ_s_164 a 25 = 0 := (hM9.i (by decide)).trans J_161_7
          have e_171 : aF σ_s_164 (ad E a 1) = f1 := (hM9.a (by decide) (by decide)).trans J_161_8
          have e_172 : aF σ_s_164 (ad E a 37) = f37 := (hM9.a (by decide) (by decide)).trans J_161_9
          have e_173 : aF σ_s_164 (ad E a 61) = f61 := (hM9.a (by decide) (by decide)).trans J_161_10
          have e_174 : aF σ_s_164 (ad E a 62) = f62 := (hM9.a (by decide) (by decide)).trans J_161_11
          have e_175 : aF σ_s_164 (ad E a 39) = f39 := (hM9.a (by decide) (by decide)).trans J_161_12
          have e_176 : aF σ_s_164 (ad E a 40) = f40 := (hM9.a (by decide) (by decide)).trans J_161_13
          have e_177 : aF σ_s_164 (ad E a 42) = f42 := (hM9.a (by decide) (by decide)).trans J_161_14
          have e_178 : aF σ_s_164 (ad E a 43) = f43 := (hM9.a (by decide) (by decide)).trans J_161_15
          have e_179 : aF σ_s_164 (ad E a 44) = f44 := (hM9.a (by decide) (by decide)).trans J_161_16
          have e_180 : aF σ_s_164 (ad E a 45) = f45 := (hM9.a (by decide) (by decide)).trans J_161_17
          have e_181 : aF σ_s_164 (ad E a 46) = f46 := (hM9.a (by decide) (by decide)).trans J_161_18
          obtain ⟨g_182, dg_182⟩ : ∃ g9, g9 = upd f8 (slot).toNat (I z_163) := ⟨_, rfl⟩
          rw [← dg_182] at ha9
          have ef_183 := ha9
          refine lv_iconst (v := I 0) hx hb dX11_path_111 (by decide) ?_
          exact th_iret hx hb hr hlocks hH hS (z := 0) (show rng 0 from ⟨by decide, by decide⟩) ⟨hO, hF, hM, by rw [show aF σ_s_164 (ad E a 1) = f1 from e_171, show aF σ_s_164 (ad E a 37) = f37 from e_172, show aF σ_s_164 (ad E a 61) = f61 from e_173, show aF σ_s_164 (ad E a 62) = f62 from e_174, show aF σ_s_164 (ad E a 39) = f39 from e_175, show aF σ_s_164 (ad E a 40) = f40 from e_176, show aF σ_s_164 (ad E a 42) = f42 from e_177, show aF σ_s_164 (ad E a 43) = f43 from e_178, show aF σ_s_164 (ad E a 44) = f44 from e_179, show aF σ_s_164 (ad E a 45) = f45 from e_180, show aF σ_s_164 (ad E a 46) = f46 from e_181]; exact ⟨hj.n (by omega) (by omega) (by omega), by omega⟩⟩ dX11_path_112
        · replace c_162 := mt (I_le (a := nn) (b := v3q160) rnn rv3q160).mpr c_162
          refine lv_aload_n hx hb dX11_path_78 rfl (lv_at hl 0 rfl) ?_
          refine ok.getR hO h_a (by decide) k13_7 (by decide) (fun _ _ he hv kk => th_get (ci := 11) (C := RX11) (T := TX11) (N := 66) hx hb hts inX11 hown hK hH he rfl 7 (by decide) fl5 hv dX11_path_79 kk) ?_
          refine lv_sipush (v := I 400) hx hb dX11_path_82 (by decide) ?_
          refine lv_iload_n hx hb dX11_path_85 rfl (lv_at hl 1 rfl) ?_
          refine lv_imul hx hb dX11_path_86 ?_
          refine nq_top (I_mul _ _) ?_
          refine lv_iload_n hx hb dX11_path_87 rfl (lv_at hl 3 rfl) ?_
          refine lv_iadd hx hb dX11_path_88 ?_
          refine th_addo (fun z_184 rz_184 hz_184 => ?_)
          refine lv_aload_n hx hb dX11_path_89 rfl (lv_at hl 0 rfl) ?_
          refine ok.getR hO h_a (by decide) k13_6 (by decide) (fun _ _ he hv kk => th_get (ci := 11) (C := RX11) (T := TX11) (N := 66) hx hb hts inX11 hown hK hH he rfl 6 (by decide) fl3 hv dX11_path_90 kk) ?_
          refine lv_iload_n hx hb dX11_path_93 rfl (lv_at hl 3 rfl) ?_
          obtain ⟨f_186, ef_187⟩ : ∃ f9, aF σ_J_161 (ad E a 6) = f9 := ⟨_, rfl⟩
          refine m_iald hx hb hK hH hO h_a k13_6 isA1 ef_187 rv3q160 (by omega) (by omega) dX11_path_94 (fun z_185 ez_185 rz_185 elx9 => ?_)
          obtain ⟨f_189, ef_190⟩ : ∃ f9, aF σ_J_161 (ad E a 7) = f9 := ⟨_, rfl⟩
          refine m_iast hx hb hK hH hS h00 hO h_a k13_7 isA1 (by decide) ef_190 rz_184 (by omega) (by omega) rz_185 el1 dX11_path_95 (fun σ_s_188 H locs hO hF9 hM9 ha9 hH hS => ?_)
          replace hM := hM.tu hM9 (by decide)
          replace hF := hF.tu hF9 (by decide)
          have e_191 : gI σ_s_188 a 36 = a360 := (hM9.i (by decide)).trans J_161_2
          have e_192 : gI σ_s_188 a 58 = a580 := (hM9.i (by decide)).trans J_161_3
          have e_193 : gI σ_s_188 a 59 = a590 := (hM9.i (by decide)).trans J_161_4
          have e_194 : gI σ_s_188 a 0 = 0 := (hM9.i (by decide)).trans J_161_5
          have e_195 : gI σ_s_188 a 12 = 0 := (hM9.i (by decide)).trans J_161_6
          have e_196 : gI σ_s_188 a 25 = 0 := (hM9.i (by decide)).trans J_161_7
          have e_197 : aF σ_s_188 (ad E a 1) = f1 := (hM9.a (by decide) (by decide)).trans J_161_8
          have e_198 : aF σ_s_188 (ad E a 37) = f37 := (hM9.a (by decide) (by decide)).trans J_161_9
          have e_199 : aF σ_s_188 (ad E a 61) = f61 := (hM9.a (by decide) (by decide)).trans J_161_10
          have e_200 : aF σ_s_188 (ad E a 62) = f62 := (hM9.a (by decide) (by decide)).trans J_161_11
          have e_201 : aF σ_s_188 (ad E a 39) = f39 := (hM9.a (by decide) (by decide)).trans J_161_12
          have e_202 : aF σ_s_188 (ad E a 40) = f40 := (hM9.a (by decide) (by decide)).trans J_161_13
          have e_203 : aF σ_s_188 (ad E a 42) = f42 := (hM9.a (by decide) (by decide)).trans J_161_14
          have e_204 : aF σ_s_188 (ad E a 43) = f43 := (hM9.a (by decide) (by decide)).trans J_161_15
          have e_205 : aF σ_s_188 (ad E a 44) = f44 := (hM9.a (by decide) (by decide)).trans J_161_16
          have e_206 : aF σ_s_188 (ad E a 45) = f45 := (hM9.a (by decide) (by decide)).trans J_161_17
          have e_207 : aF σ_s_188 (ad E a 46) = f46 := (hM9.a (by decide) (by decide)).trans J_161_18
          have e_208 : aF σ_s_188 (ad E a 8) = f8 := (hM9.a (by decide) (by decide)).trans J_161_19
          have e_209 : aF σ_s_188 (ad E a 6) = f_186 := (hM9.a (by decide) (by decide)).trans ef_187
          obtain ⟨g_210, dg_210⟩ : ∃ g9, g9 = upd f_189 (z_184).toNat (I z_185) := ⟨_, rfl⟩
          rw [← dg_210] at ha9
          have ef_211 := ha9
          refine lv_iinc (v := I (v3q160 + 1)) (lv' := [(3, .int (I (v3q160 + 1))), (0, .ref a), (1, .int (I slot)), (2, .int (I nn))]) hx hb dX11_path_96 hl (k := 3) rfl (I_add _ _) (by decide) rfl (fun ls hl => ?_)
          refine lv_goto (tgt := 73) hx hb dX11_path_99 (by decide) ?_
          exact ihJ_161 (v3q160 + 1) σ_s_188 _ _ _ (by first | (dsimp only; omega) | omega) ⟨hO, hF, hM, hH, hS, lv_sub hl [1, 2, 3, 0] rfl, ⟨by first | (dsimp only; omega) | omega, by first | (dsimp only; omega) | omega⟩, by first | (dsimp only; omega) | omega, by first | (dsimp only; omega) | omega, e_191, e_192, e_193, e_194, e_195, e_196, e_197, e_198, e_199, e_200, e_201, e_202, e_203, e_204, e_205, e_206, e_207, e_208⟩
      · replace c_129 := (I_eq (a := z_110) (b := 0) rz_110 (show rng 0 from ⟨by decide, by decide⟩)).mp c_129
        refine lv_aload_n hx hb dX11_path_66 rfl (lv_at hl 0 rfl) ?_
        refine ok.getI hO h_a (by decide) k13_19 (fun _ _ he hv kk => th_get (ci := 11) (C := RX11) (T := TX11) (N := 66) hx hb hts inX11 hown hK hH he rfl 19 (by decide) fl6 hv dX11_path_67 kk) (fun z_212 e_213 rz_212 lz_212 uz_212 => ?_)
        exact th_iret hx hb hr hlocks hH hS (z := z_212) rz_212 ⟨hO, hF, hM, by rw [show aF σ_s_109 (ad E a 1) = f1 from e_111, show aF σ_s_109 (ad E a 37) = f37 from e_112, show aF σ_s_109 (ad E a 61) = f61 from e_113, show aF σ_s_109 (ad E a 62) = f62 from e_114, show aF σ_s_109 (ad E a 39) = f39 from e_115, show aF σ_s_109 (ad E a 40) = f40 from e_116, show aF σ_s_109 (ad E a 42) = f42 from e_117, show aF σ_s_109 (ad E a 43) = f43 from e_118, show aF σ_s_109 (ad E a 44) = f44 from e_119, show aF σ_s_109 (ad E a 45) = f45 from e_120, show aF σ_s_109 (ad E a 46) = f46 from e_121]; exact ⟨hj.n (by omega) (by omega) (by omega), by omega⟩⟩ dX11_path_70
    · replace c_27 := (I_eq (a := z_26) (b := 0) rz_26 (show rng 0 from ⟨by decide, by decide⟩)).mp c_27
      refine lv_aload_n hx hb dX11_path_28 rfl (lv_at hl 0 rfl) ?_
      refine lv_iconst (v := I 2) hx hb dX11_path_29 (by decide) ?_
      obtain ⟨_, hc_214⟩ := hO.cell h_a (by decide) (ci := 11) rfl
      refine th_calli (va_runV (As := [.int (I 2)]) (rest := []) ⟨hx, hb, hml, hown, hts⟩ (m_fail l G y b0 σ_s_1 E hO a h_a 2 (show rng 2 from (show rng 2 from ⟨by decide, by decide⟩))) (cwV 1 hts gX11_path_X11_fail rfl rfl rfl (by decide +kernel) ⟨Nat.le_of_ble_eq_true rfl, Nat.le_of_ble_eq_true rfl⟩) (th_PV hK hH rfl hc_214) rfl rfl hl.1 rfl (lv_room (Nat.le_of_ble_eq_true rfl)) dX11_path_30 ⟨Nat.le_of_ble_eq_true rfl, Nat.le_of_ble_eq_true rfl⟩) hS (fun z_217 σ_s_216 H locs rz_217 hw_215 hH hS => ?_)
      obtain ⟨hO9, hF9, hM9, hw_215⟩ := hw_215
      replace hM := hM.tu hM9 (by decide)
      replace hF := hF.tu hF9 (by decide)
      have e_218 : aF σ_s_216 (ad E a 1) = f1 := (hM9.a (by decide) (by decide)).trans e_2
      have e_219 : aF σ_s_216 (ad E a 37) = f37 := (hM9.a (by decide) (by decide)).trans e_3
      have e_220 : aF σ_s_216 (ad E a 61) = f61 := (hM9.a (by decide) (by decide)).trans e_4
      have e_221 : aF σ_s_216 (ad E a 62) = f62 := (hM9.a (by decide) (by decide)).trans e_5
      have e_222 : aF σ_s_216 (ad E a 39) = f39 := (hM9.a (by decide) (by decide)).trans e_6
      have e_223 : aF σ_s_216 (ad E a 40) = f40 := (hM9.a (by decide) (by decide)).trans e_7
      have e_224 : aF σ_s_216 (ad E a 42) = f42 := (hM9.a (by decide) (by decide)).trans e_8
      have e_225 : aF σ_s_216 (ad E a 43) = f43 := (hM9.a (by decide) (by decide)).trans e_9
      have e_226 : aF σ_s_216 (ad E a 44) = f44 := (hM9.a (by decide) (by decide)).trans e_10
      have e_227 : aF σ_s_216 (ad E a 45) = f45 := (hM9.a (by decide) (by decide)).trans e_11
      have e_228 : aF σ_s_216 (ad E a 46) = f46 := (hM9.a (by decide) (by decide)).trans e_12
      have e_229 : aF σ_s_216 (ad E a 8) = f8 := (hM9.a (by decide) (by decide)).trans e_13
      have e_230 : gI σ_s_216 a 36 = a360 := (hM9.i (by decide)).trans e_14
      have e_231 : gI σ_s_216 a 58 = a580 := (hM9.i (by decide)).trans e_15
      have e_232 : gI σ_s_216 a 59 = a590 := (hM9.i (by decide)).trans e_16
      have e_233 : gI σ_s_216 a 12 = a120 := (hM9.i (by decide)).trans e_17
      replace hO := hO9
      exact th_iret hx hb hr hlocks hH hS (z := z_217) rz_217 ⟨hO, hF, hM, by rw [show aF σ_s_216 (ad E a 1) = f1 from e_218, show aF σ_s_216 (ad E a 37) = f37 from e_219, show aF σ_s_216 (ad E a 61) = f61 from e_220, show aF σ_s_216 (ad E a 62) = f62 from e_221, show aF σ_s_216 (ad E a 39) = f39 from e_222, show aF σ_s_216 (ad E a 40) = f40 from e_223, show aF σ_s_216 (ad E a 42) = f42 from e_224, show aF σ_s_216 (ad E a 43) = f43 from e_225, show aF σ_s_216 (ad E a 44) = f44 from e_226, show aF σ_s_216 (ad E a 45) = f45 from e_227, show aF σ_s_216 (ad E a 46) = f46 from e_228]; exact ⟨hj.n (by omega) (by omega) (by omega), by omega⟩⟩ dX11_path_33
  · replace c_22 := (I_eq (a := z_21) (b := 0) rz_21 (show rng 0 from ⟨by decide, by decide⟩)).mp c_22
    refine lv_aload_n hx hb dX11_path_14 rfl (lv_at hl 0 rfl) ?_
    refine lv_iconst (v := I 1) hx hb dX11_path_15 (by decide) ?_
    obtain ⟨_, hc_234⟩ := hO.cell h_a (by decide) (ci := 11) rfl
    refine th_calli (va_runV (As := [.int (I 1)]) (rest := []) ⟨hx, hb, hml, hown, hts⟩ (m_fail l G y b0 σ_s_1 E hO a h_a 1 (show rng 1 from (show rng 1 from ⟨by decide, by decide⟩))) (cwV 1 hts gX11_path_X11_fail rfl rfl rfl (by decide +kernel) ⟨Nat.le_of_ble_eq_true rfl, Nat.le_of_ble_eq_true rfl⟩) (th_PV hK hH rfl hc_234) rfl rfl hl.1 rfl (lv_room (Nat.le_of_ble_eq_true rfl)) dX11_path_16 ⟨Nat.le_of_ble_eq_true rfl, Nat.le_of_ble_eq_true rfl⟩) hS (fun z_237 σ_s_236 H locs rz_237 hw_235 hH hS => ?_)
    obtain ⟨hO9, hF9, hM9, hw_235⟩ := hw_235
    replace hM := hM.tu hM9 (by decide)
    replace hF := hF.tu hF9 (by decide)
    have e_238 : aF σ_s_236 (ad E a 1) = f1 := (hM9.a (by decide) (by decide)).trans e_2
    have e_239 : aF σ_s_236 (ad E a 37) = f37 := (hM9.a (by decide) (by decide)).trans e_3
    have e_240 : aF σ_s_236 (ad E a 61) = f61 := (hM9.a (by decide) (by decide)).trans e_4
    have e_241 : aF σ_s_236 (ad E a 62) = f62 := (hM9.a (by decide) (by decide)).trans e_5
    have e_242 : aF σ_s_236 (ad E a 39) = f39 := (hM9.a (by decide) (by decide)).trans e_6
    have e_243 : aF σ_s_236 (ad E a 40) = f40 := (hM9.a (by decide) (by decide)).trans e_7
    have e_244 : aF σ_s_236 (ad E a 42) = f42 := (hM9.a (by decide) (by decide)).trans e_8
    have e_245 : aF σ_s_236 (ad E a 43) = f43 := (hM9.a (by decide) (by decide)).trans e_9
    have e_246 : aF σ_s_236 (ad E a 44) = f44 := (hM9.a (by decide) (by decide)).trans e_10
    have e_247 : aF σ_s_236 (ad E a 45) = f45 := (hM9.a (by decide) (by decide)).trans e_11
    have e_248 : aF σ_s_236 (ad E a 46) = f46 := (hM9.a (by decide) (by decide)).trans e_12
    have e_249 : aF σ_s_236 (ad E a 8) = f8 := (hM9.a (by decide) (by decide)).trans e_13
    have e_250 : gI σ_s_236 a 36 = a360 := (hM9.i (by decide)).trans e_14
    have e_251 : gI σ_s_236 a 58 = a580 := (hM9.i (by decide)).trans e_15
    have e_252 : gI σ_s_236 a 59 = a590 := (hM9.i (by decide)).trans e_16
    have e_253 : gI σ_s_236 a 12 = a120 := (hM9.i (by decide)).trans e_17
    replace hO := hO9
    exact th_iret hx hb hr hlocks hH hS (z := z_237) rz_237 ⟨hO, hF, hM, by rw [show aF σ_s_236 (ad E a 1) = f1 from e_238, show aF σ_s_236 (ad E a 37) = f37 from e_239, show aF σ_s_236 (ad E a 61) = f61 from e_240, show aF σ_s_236 (ad E a 62) = f62 from e_241, show aF σ_s_236 (ad E a 39) = f39 from e_242, show aF σ_s_236 (ad E a 40) = f40 from e_243, show aF σ_s_236 (ad E a 42) = f42 from e_244, show aF σ_s_236 (ad E a 43) = f43 from e_245, show aF σ_s_236 (ad E a 44) = f44 from e_246, show aF σ_s_236 (ad E a 45) = f45 from e_247, show aF σ_s_236 (ad E a 46) = f46 from e_248]; exact ⟨hj.n (by omega) (by omega) (by omega), by omega⟩⟩ dX11_path_19

set_option maxHeartbeats 4000000 in
set_option maxRecDepth 100000 in
theorem j_fault (l : Launch) (G : va_G) (y : Nat → ClassId) (b0 : Nat) (σ : th_M) (E : th_E) (hO : ok y E σ) (a : Nat) (h_a : kd E a = 13) (f1 : Nat → Int32) (ef1 : aF σ (ad E a 1) = f1) (f37 : Nat → Int32) (ef37 : aF σ (ad E a 37) = f37) (f61 : Nat → Int32) (ef61 : aF σ (ad E a 61) = f61) (f62 : Nat → Int32) (ef62 : aF σ (ad E a 62) = f62) (f39 : Nat → Int32) (ef39 : aF σ (ad E a 39) = f39) (f40 : Nat → Int32) (ef40 : aF σ (ad E a 40) = f40) (f42 : Nat → Int32) (ef42 : aF σ (ad E a 42) = f42) (f43 : Nat → Int32) (ef43 : aF σ (ad E a 43) = f43) (f44 : Nat → Int32) (ef44 : aF σ (ad E a 44) = f44) (f45 : Nat → Int32) (ef45 : aF σ (ad E a 45) = f45) (f46 : Nat → Int32) (ef46 : aF σ (ad E a 46) = f46) (hy0 : jw f1 f37 f61 f62 f39 f40 f42 f43 f44 f45 f46 (gI σ a 36) (gI σ a 58) (gI σ a 59)) : Met l yX11_fault wsX11_fault ({ frames := 0, cells := 0, slots := 0, locals := 0 }) (th_P G y b0 σ [.ref a]) (th_Qi G b0 (fun r σ1 => ok y E σ1 ∧ fr [13] E σ σ1 ∧ fm [0] E σ σ1 a ∧ (jw (aF σ1 (ad E a 1)) (aF σ1 (ad E a 37)) (aF σ1 (ad E a 61)) (aF σ1 (ad E a 62)) (aF σ1 (ad E a 39)) (aF σ1 (ad E a 40)) (aF σ1 (ad E a 42)) (aF σ1 (ad E a 43)) (aF σ1 (ad E a 44)) (aF σ1 (ad E a 45)) (aF σ1 (ad E a 46)) (gI σ1 a 36) (gI σ1 a 58) (gI σ1 a 59) ∧ gI σ1 a 12 = gI σ a 12))) 0 0 (th_A b0) := by
  refine Met.ofW (cc := cX11_fault) (maxL := 1) (ret := (some .int)) (by decide) rfl ?_
  intro p e s m args below meth c s₁ B hml hv
  obtain ⟨rfl, hH, hK⟩ := hv
  have hx := B.exec
  have hb := B.bytes
  have hr := B.returns
  have hts := atoms_spec (ws := wsX11_fault) B.pre
  have hown : s.vm.findClass RX11 = some m.cls := findClass_of_methodNamed B.named
  have hlocks := B.notSynchronized
  have h00 : b0 ≤ s.heap.size := hH.1
  have hS : va_S (th_A b0) s.heap s.heap [] := va_S.rf
  have hF : fr [13] E σ σ := fr.rf
  have hM : fm [0] E σ σ a := fm.rf
  have hj := hy0
  have hw1 := hj.1.1.1
  have hm1 := hj.1.2.1
  have hm2 := hj.1.2.2.1
  have hm3 := hj.2.2.2.2.1
  have hm4 := hj.2.2.2.2.2.1
  have inX11 : ∀ w ∈ wsX110, w ∈ wsX11_fault := by decide +kernel
  have fl0 := hts (.fieldLink RX11 111 "NestQueryModel" "code" "I") (by decide +kernel)
  have fl1 := hts (.fieldLink RX11 31 "NestQueryModel" "faultPlace" "I") (by decide +kernel)
  have hl := lv_entry ([.ref a]) (n := 1) (Nat.le_of_ble_eq_true rfl)
  rw [lg_entry_eq]
  generalize (lg_sl ([.ref a]) ++ List.replicate (1 - (lg_sl ([.ref a])).length) Slot.unset).toArray = ls at hl ⊢
  have hl : lv_has ls 1 [(0, .ref a)] := hl
  obtain ⟨a360, ea360, ra360, la360, ua360⟩ := hO.gi h_a (by decide) k13_36
  obtain ⟨a580, ea580, ra580, la580, ua580⟩ := hO.gi h_a (by decide) k13_58
  obtain ⟨a590, ea590, ra590, la590, ua590⟩ := hO.gi h_a (by decide) k13_59
  obtain ⟨a120, ea120, ra120, la120, ua120⟩ := hO.gi h_a (by decide) k13_12
  refine lv_aload_n hx hb dX11_fault_0 rfl (lv_at hl 0 rfl) ?_
  refine lv_iconst (v := I 0) hx hb dX11_fault_1 (by decide) ?_
  refine ok.putJ hO h_a k13_0 (show rng 0 from ⟨by decide, by decide⟩) (by omega) (by omega) (fun _ he hl9 kk => th_put (ci := 11) (v := .int (I 0)) (ty := .int) (C := RX11) (T := TX11) (N := 66) hx hb hts inX11 tyX11 tyX11_ok nmX11 hown hK hH hS h00 he rfl 0 (by decide) fl0 rfl (by decide +kernel) rfl rfl hl9 dX11_fault_2 kk) (fun σ_s_1 H locs hO hF9 hM9 hg9 ha9 hH hS => ?_)
  replace hM := hM.tu hM9 (by decide)
  replace hF := hF.tu hF9 (by decide)
  have e_2 : aF σ_s_1 (ad E a 1) = f1 := (hM9.a (by decide) (by decide)).trans ef1
  have e_3 : aF σ_s_1 (ad E a 37) = f37 := (hM9.a (by decide) (by decide)).trans ef37
  have e_4 : aF σ_s_1 (ad E a 61) = f61 := (hM9.a (by decide) (by decide)).trans ef61
  have e_5 : aF σ_s_1 (ad E a 62) = f62 := (hM9.a (by decide) (by decide)).trans ef62
  have e_6 : aF σ_s_1 (ad E a 39) = f39 := (hM9.a (by decide) (by decide)).trans ef39
  have e_7 : aF σ_s_1 (ad E a 40) = f40 := (hM9.a (by decide) (by decide)).trans ef40
  have e_8 : aF σ_s_1 (ad E a 42) = f42 := (hM9.a (by decide) (by decide)).trans ef42
  have e_9 : aF σ_s_1 (ad E a 43) = f43 := (hM9.a (by decide) (by decide)).trans ef43
  have e_10 : aF σ_s_1 (ad E a 44) = f44 := (hM9.a (by decide) (by decide)).trans ef44
  have e_11 : aF σ_s_1 (ad E a 45) = f45 := (hM9.a (by decide) (by decide)).trans ef45
  have e_12 : aF σ_s_1 (ad E a 46) = f46 := (hM9.a (by decide) (by decide)).trans ef46
  have e_13 : gI σ_s_1 a 36 = a360 := (hM9.i (by decide)).trans ea360
  have e_14 : gI σ_s_1 a 58 = a580 := (hM9.i (by decide)).trans ea580
  have e_15 : gI σ_s_1 a 59 = a590 := (hM9.i (by decide)).trans ea590
  have e_16 : gI σ_s_1 a 12 = a120 := (hM9.i (by decide)).trans ea120
  have e_17 := hg9
  refine lv_aload_n hx hb dX11_fault_5 rfl (lv_at hl 0 rfl) ?_
  refine ok.getI hO h_a (by decide) k13_21 (fun _ _ he hv kk => th_get (ci := 11) (C := RX11) (T := TX11) (N := 66) hx hb hts inX11 hown hK hH he rfl 21 (by decide) fl1 hv dX11_fault_6 kk) (fun z_18 e_19 rz_18 lz_18 uz_18 => ?_)
  exact th_iret hx hb hr hlocks hH hS (z := z_18) rz_18 ⟨hO, hF, hM, by rw [show aF σ_s_1 (ad E a 1) = f1 from e_2, show aF σ_s_1 (ad E a 37) = f37 from e_3, show aF σ_s_1 (ad E a 61) = f61 from e_4, show aF σ_s_1 (ad E a 62) = f62 from e_5, show aF σ_s_1 (ad E a 39) = f39 from e_6, show aF σ_s_1 (ad E a 40) = f40 from e_7, show aF σ_s_1 (ad E a 42) = f42 from e_8, show aF σ_s_1 (ad E a 43) = f43 from e_9, show aF σ_s_1 (ad E a 44) = f44 from e_10, show aF σ_s_1 (ad E a 45) = f45 from e_11, show aF σ_s_1 (ad E a 46) = f46 from e_12]; exact ⟨hj.n (by omega) (by omega) (by omega), by omega⟩⟩ dX11_fault_9
