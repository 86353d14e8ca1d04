set_option maxHeartbeats 4000000 in
set_option maxRecDepth 100000 in
theorem m_readThing (n : Nat) : ∀ (l : Launch) (G : va_G) (y : Nat → ClassId) (b0 : Nat) (σ : th_M) (E : th_E) (hO : ok y E σ) (a : Nat) (h_a : kd E a = 13) (ky : Int) (rky : rng ky) (dp : Int) (rdp : rng dp) (l_dp : 0 ≤ dp) (u_dp : dp ≤ 8) (f2 : Nat → Int32) (ef2 : aF σ (ad E a 2) = f2) (Bf : Int → Int) (hsr : sr E σ a Bf) (hy0 : 0 ≤ gI σ a 17 ∧ gI σ a 17 ≤ gI σ a 13 ∧ gI σ a 13 ≤ gI σ a 11 ∧ gI σ a 11 ≤ 400) (hy1 : gI σ a 19 = 0) (hn : (8 - dp).toNat < n), Met l yX11_readThing wsX11_readThing ({ frames := 4*n+12, cells := 0, slots := 0, locals := (120*n+900) }) (th_P G y b0 σ [.ref a, .int (I ky), .int (I dp)]) (th_Qv G b0 (fun σ1 => ok y E σ1 ∧ fr [13] E σ σ1 ∧ fm [13, 14, 15, 16, 17, 18, 19, 20, 2, 22] E σ σ1 a ∧ (((gI σ a 13 ≤ gI σ1 a 13 ∧ gI σ1 a 13 ≤ gI σ a 11 ∧ 0 ≤ gI σ1 a 17 ∧ gI σ1 a 17 ≤ gI σ1 a 13) ∧ pgo (gI σ1 a 19) (gI σ1 a 14) (gI σ a 13) (gI σ1 a 13)) ∧ gI σ a 22 ≤ gI σ1 a 22 ∧ (¬ gI σ1 a 19 = 0 ∨ rdT f2 (aF σ1 (ad E a 2)) (gI σ a 22) (gI σ1 a 22) ky dp)))) 0 0 (th_A b0) := by
  induction n with
  | zero => intro l G y b0 σ E hO a h_a ky rky dp rdp l_dp u_dp f2 ef2 Bf hsr hy0 hy1 hn; exact absurd hn (Nat.not_lt_zero _)
  | succ n ih =>
    intro l G y b0 σ E hO a h_a ky rky dp rdp l_dp u_dp f2 ef2 Bf hsr hy0 hy1 hn
    refine Met.ofW (cc := cX11_readThing) (maxL := 5) (ret := none) (by decide) rfl ?_
    intro p e s m args below meth c s₁ B hml hv
    obtain ⟨rfl, hH, hK⟩ := hv
    have hx := B.exec
    have hb := B.bytes
    have hr := B.returns
    have hts := atoms_spec (ws := wsX11_readThing) B.pre
    have hown : s.vm.findClass RX11 = some m.cls := findClass_of_methodNamed B.named
    have hlocks := B.notSynchronized
    have h00 : b0 ≤ s.heap.size := hH.1
    have hS : va_S (th_A b0) s.heap s.heap [] := va_S.rf
    have hF : fr [13] E σ σ := fr.rf
    have hM : fm [13, 14, 15, 16, 17, 18, 19, 20, 2, 22] E σ σ a := fm.rf
    have inX11 : ∀ w ∈ wsX110, w ∈ wsX11_readThing := by decide +kernel
    have fl0 := hts (.fieldLink RX11 136 "NestQueryModel" "token" "I") (by decide +kernel)
    have fl1 := hts (.fieldLink RX11 162 "NestQueryModel" "bad" "I") (by decide +kernel)
    have fl2 := hts (.fieldLink RX11 188 "NestQueryModel" "dataMany" "I") (by decide +kernel)
    have fl3 := hts (.fieldLink RX11 13 "NestQueryModel" "data" "[I") (by decide +kernel)
    have hl := lv_entry ([.ref a, .int (I ky), .int (I dp)]) (n := 5) (Nat.le_of_ble_eq_true rfl)
    rw [lg_entry_eq]
    generalize (lg_sl ([.ref a, .int (I ky), .int (I dp)]) ++ List.replicate (5 - (lg_sl ([.ref a, .int (I ky), .int (I dp)])).length) Slot.unset).toArray = ls at hl ⊢
    have hl : lv_has ls 5 [(0, .ref a), (1, .int (I ky)), (2, .int (I dp))] := hl
    obtain ⟨a110, ea110, ra110, la110, ua110⟩ := hO.gi h_a (by decide) k13_11
    obtain ⟨a130, ea130, ra130, la130, ua130⟩ := hO.gi h_a (by decide) k13_13
    obtain ⟨a140, ea140, ra140, la140, ua140⟩ := hO.gi h_a (by decide) k13_14
    obtain ⟨a170, ea170, ra170, la170, ua170⟩ := hO.gi h_a (by decide) k13_17
    obtain ⟨a190, ea190, ra190, la190, ua190⟩ := hO.gi h_a (by decide) k13_19
    obtain ⟨a220, ea220, ra220, la220, ua220⟩ := hO.gi h_a (by decide) k13_22
    refine lv_aload_n hx hb dX11_readThing_0 rfl (lv_at hl 0 rfl) ?_
    refine ok.getIc hO h_a (by decide) k13_14 ea140 (fun _ _ he hv kk => th_get (ci := 11) (C := RX11) (T := TX11) (N := 66) hx hb hts inX11 hown hK hH he rfl 14 (by decide) fl0 hv dX11_readThing_1 kk) ?_
    refine lv_iconst (v := I 2) hx hb dX11_readThing_4 (by decide) ?_
    refine th_join (α := Unit) (J := 43) (stk := fun x9 => []) (fun x9 σ9 H9 l9 ls9 => σ9 = σ ∧ th_H G b0 σ9 H9 ∧ va_S (th_A b0) s.heap H9 l9 ∧ lv_has ls9 5 [(0, .ref a), (1, .int (I ky)), (2, .int (I dp))]) ?_ (fun jK_236 => ?_)
    · intro x9 σ_K_236 H locs ls hI9
      obtain ⟨eK_236, hH, hS, hl⟩ := hI9
      replace eK_236 := eK_236.symm
      subst eK_236
      have hl : lv_has ls 5 [(0, .ref a), (1, .int (I ky)), (2, .int (I dp))] := hl
      refine lv_iconst (v := I 1) hx hb dX11_readThing_43 (by decide) ?_
      refine lv_goto (tgt := 48) hx hb dX11_readThing_44 (by decide) ?_
      refine lv_istore_n (lv' := [(3, .int (I 1)), (0, .ref a), (1, .int (I ky)), (2, .int (I dp))]) hx hb dX11_readThing_48 rfl hl (by decide) rfl (fun ls hl => ?_)
      refine lv_iload_n hx hb dX11_readThing_49 rfl (lv_at hl 0 rfl) ?_
      refine lv_if_ne (tgt := 58) hx hb dX11_readThing_50 (by decide) (fun _ => ?_) (fun c_238 => absurd (by decide) c_238)
      refine lv_aload_n hx hb dX11_readThing_58 rfl (lv_at hl 1 rfl) ?_
      refine ok.getIc hO h_a (by decide) k13_19 ea190 (fun _ _ he hv kk => th_get (ci := 11) (C := RX11) (T := TX11) (N := 66) hx hb hts inX11 hown hK hH he rfl 19 (by decide) fl1 hv dX11_readThing_59 kk) ?_
      refine th_join (α := Unit) (J := 85) (stk := fun x9 => []) (fun x9 σ9 H9 l9 ls9 => ok y E σ9 ∧ fr [13] E σ σ9 ∧ fm [13, 14, 15, 16, 17, 18, 19, 20, 2, 22] E σ σ9 a ∧ sr E σ9 a Bf ∧ th_H G b0 σ9 H9 ∧ va_S (th_A b0) s.heap H9 l9 ∧ lv_has ls9 5 [(0, .ref a), (1, .int (I ky)), (2, .int (I dp))] ∧ (¬ gI σ9 a 19 = 0 ∨ (a220 < 60 ∧ dp ≤ 7)) ∧ (gI σ9 a 11 = a110) ∧ (gI σ9 a 13 = a130) ∧ (gI σ9 a 14 = a140) ∧ (gI σ9 a 17 = a170) ∧ (gI σ9 a 22 = a220) ∧ (aF σ9 (ad E a 2) = f2)) ?_ (fun jK_256 => ?_)
      · intro x9 σ_K_256 H locs ls hI9
        obtain ⟨hO, hF, hM, hsr, hH, hS, hl, K_256_0, K_256_1, K_256_2, K_256_3, K_256_4, K_256_5, K_256_6⟩ := hI9
        have hl : lv_has ls 5 [(0, .ref a), (1, .int (I ky)), (2, .int (I dp))] := hl
        have K_256_0 : ¬ gI σ_K_256 a 19 = 0 ∨ (a220 < 60 ∧ dp ≤ 7) := K_256_0
        have K_256_1 : gI σ_K_256 a 11 = a110 := K_256_1
        have K_256_2 : gI σ_K_256 a 13 = a130 := K_256_2
        have K_256_3 : gI σ_K_256 a 14 = a140 := K_256_3
        have K_256_4 : gI σ_K_256 a 17 = a170 := K_256_4
        have K_256_5 : gI σ_K_256 a 22 = a220 := K_256_5
        have K_256_6 : aF σ_K_256 (ad E a 2) = f2 := K_256_6
        refine lv_aload_n hx hb dX11_readThing_85 rfl (lv_at hl 0 rfl) ?_
        refine ok.getI hO h_a (by decide) k13_19 (fun _ _ he hv kk => th_get (ci := 11) (C := RX11) (T := TX11) (N := 66) hx hb hts inX11 hown hK hH he rfl 19 (by decide) fl1 hv dX11_readThing_86 kk) (fun z_257 e_258 rz_257 lz_257 uz_257 => ?_)
        refine lv_if_eq (tgt := 93) hx hb dX11_readThing_89 (by decide) (fun c_259 => ?_) (fun c_259 => ?_)
        · replace c_259 := (I_eq (a := z_257) (b := 0) rz_257 (show rng 0 from ⟨by decide, by decide⟩)).mp c_259
          refine lv_iconst (v := I 4) hx hb dX11_readThing_93 (by decide) ?_
          refine lv_aload_n hx hb dX11_readThing_94 rfl (lv_at hl 0 rfl) ?_
          refine ok.getIc hO h_a (by decide) k13_22 K_256_5 (fun _ _ he hv kk => th_get (ci := 11) (C := RX11) (T := TX11) (N := 66) hx hb hts inX11 hown hK hH he rfl 22 (by decide) fl2 hv dX11_readThing_95 kk) ?_
          refine lv_imul hx hb dX11_readThing_98 ?_
          refine nq_top (I_mul _ _) ?_
          refine lv_istore (lv' := [(4, .int (I (4 * a220))), (0, .ref a), (1, .int (I ky)), (2, .int (I dp))]) hx hb dX11_readThing_99 hl (by decide) rfl (fun ls hl => ?_)
          refine lv_aload_n hx hb dX11_readThing_101 rfl (lv_at hl 1 rfl) ?_
          refine lv_dup hx hb dX11_readThing_102 rfl ?_
          refine ok.getIc hO h_a (by decide) k13_22 K_256_5 (fun _ _ he hv kk => th_get (ci := 11) (C := RX11) (T := TX11) (N := 66) hx hb hts inX11 hown hK hH he rfl 22 (by decide) fl2 hv dX11_readThing_103 kk) ?_
          refine lv_iconst (v := I 1) hx hb dX11_readThing_106 (by decide) ?_
          refine lv_iadd hx hb dX11_readThing_107 ?_
          refine nq_top (I_add _ _) ?_
          refine ok.putJ hO h_a k13_22 ⟨by omega, by omega⟩ (by omega) (by omega) (fun _ he hl9 kk => th_put (ci := 11) (v := .int (I (a220 + 1))) (ty := .int) (C := RX11) (T := TX11) (N := 66) hx hb hts inX11 tyX11 tyX11_ok nmX11 hown hK hH hS h00 he rfl 22 (by decide) fl2 rfl (by decide +kernel) rfl rfl hl9 dX11_readThing_108 kk) (fun σ_s_260 H locs hO hF9 hM9 hg9 ha9 hH hS => ?_)
          replace hM := hM.tu hM9 (by decide)
          replace hF := hF.tu hF9 (by decide)
          have e_261 : gI σ_s_260 a 11 = a110 := (hM9.i (by decide)).trans K_256_1
          have e_262 : gI σ_s_260 a 13 = a130 := (hM9.i (by decide)).trans K_256_2
          have e_263 : gI σ_s_260 a 14 = a140 := (hM9.i (by decide)).trans K_256_3
          have e_264 : gI σ_s_260 a 17 = a170 := (hM9.i (by decide)).trans K_256_4
          have e_265 : aF σ_s_260 (ad E a 2) = f2 := (hM9.a (by decide) (by decide)).trans K_256_6
          have e_266 : gI σ_s_260 a 19 = z_257 := (hM9.i (by decide)).trans e_258
          replace hsr := hsr.mv hM9 (by decide) (by decide) (by decide) (by decide) (by decide)
          have e_267 := hg9
          refine lv_aload_n hx hb dX11_readThing_111 rfl (lv_at hl 1 rfl) ?_
          refine ok.getR hO h_a (by decide) k13_2 (by decide) (fun _ _ he hv kk => th_get (ci := 11) (C := RX11) (T := TX11) (N := 66) hx hb hts inX11 hown hK hH he rfl 2 (by decide) fl3 hv dX11_readThing_112 kk) ?_
          refine lv_iload hx hb dX11_readThing_115 (lv_at hl 0 rfl) ?_
          refine lv_iconst (v := I 2) hx hb dX11_readThing_117 (by decide) ?_
          refine lv_iadd hx hb dX11_readThing_118 ?_
          refine nq_top (I_add _ _) ?_
          refine lv_iload_n hx hb dX11_readThing_119 rfl (lv_at hl 2 rfl) ?_
          refine m_iast hx hb hK hH hS h00 hO h_a k13_2 isA1 (by decide) e_265 ⟨by omega, by omega⟩ (by omega) (by omega) rky el1 dX11_readThing_120 (fun σ_s_268 H locs hO hF9 hM9 ha9 hH hS => ?_)
          replace hM := hM.tu hM9 (by decide)
          replace hF := hF.tu hF9 (by decide)
          have e_269 : gI σ_s_268 a 11 = a110 := (hM9.i (by decide)).trans e_261
          have e_270 : gI σ_s_268 a 13 = a130 := (hM9.i (by decide)).trans e_262
          have e_271 : gI σ_s_268 a 14 = a140 := (hM9.i (by decide)).trans e_263
          have e_272 : gI σ_s_268 a 17 = a170 := (hM9.i (by decide)).trans e_264
          have e_273 : gI σ_s_268 a 19 = z_257 := (hM9.i (by decide)).trans e_266
          have e_274 : gI σ_s_268 a 22 = a220 + 1 := (hM9.i (by decide)).trans e_267
          replace hsr := hsr.mv hM9 (by decide) (by decide) (by decide) (by decide) (by decide)
          obtain ⟨g_275, dg_275⟩ : ∃ g9, g9 = upd f2 (4 * a220 + 2).toNat (I ky) := ⟨_, rfl⟩
          rw [← dg_275] at ha9
          have ef_276 := ha9
          refine lv_aload_n hx hb dX11_readThing_121 rfl (lv_at hl 1 rfl) ?_
          refine ok.getR hO h_a (by decide) k13_2 (by decide) (fun _ _ he hv kk => th_get (ci := 11) (C := RX11) (T := TX11) (N := 66) hx hb hts inX11 hown hK hH he rfl 2 (by decide) fl3 hv dX11_readThing_122 kk) ?_
          refine lv_iload hx hb dX11_readThing_125 (lv_at hl 0 rfl) ?_
          refine lv_iconst (v := I 1) hx hb dX11_readThing_127 (by decide) ?_
          refine lv_iadd hx hb dX11_readThing_128 ?_
          refine nq_top (I_add _ _) ?_
          refine lv_iconst (v := I 0) hx hb dX11_readThing_129 (by decide) ?_
          refine m_iast hx hb hK hH hS h00 hO h_a k13_2 isA1 (by decide) ef_276 ⟨by omega, by omega⟩ (by omega) (by omega) (show rng 0 from ⟨by decide, by decide⟩) el1 dX11_readThing_130 (fun σ_s_277 H locs hO hF9 hM9 ha9 hH hS => ?_)
          replace hM := hM.tu hM9 (by decide)
          replace hF := hF.tu hF9 (by decide)
          have e_278 : gI σ_s_277 a 11 = a110 := (hM9.i (by decide)).trans e_269
          have e_279 : gI σ_s_277 a 13 = a130 := (hM9.i (by decide)).trans e_270
          have e_280 : gI σ_s_277 a 14 = a140 := (hM9.i (by decide)).trans e_271
          have e_281 : gI σ_s_277 a 17 = a170 := (hM9.i (by decide)).trans e_272
          have e_282 : gI σ_s_277 a 19 = z_257 := (hM9.i (by decide)).trans e_273
          have e_283 : gI σ_s_277 a 22 = a220 + 1 := (hM9.i (by decide)).trans e_274
          replace hsr := hsr.mv hM9 (by decide) (by decide) (by decide) (by decide) (by decide)
          obtain ⟨g_284, dg_284⟩ : ∃ g9, g9 = upd g_275 (4 * a220 + 1).toNat (I 0) := ⟨_, rfl⟩
          rw [← dg_284] at ha9
          have ef_285 := ha9
          refine lv_aload_n hx hb dX11_readThing_131 rfl (lv_at hl 1 rfl) ?_
          refine ok.getIc hO h_a (by decide) k13_14 e_280 (fun _ _ he hv kk => th_get (ci := 11) (C := RX11) (T := TX11) (N := 66) hx hb hts inX11 hown hK hH he rfl 14 (by decide) fl0 hv dX11_readThing_132 kk) ?_
          refine lv_iconst (v := I 1) hx hb dX11_readThing_135 (by decide) ?_
          refine lv_icmp_ne (tgt := 163) hx hb dX11_readThing_136 (by decide) (fun c_286 => ?_) (fun c_286 => ?_)
          · replace c_286 := mt (I_eq (a := a140) (b := 1) ra140 (show rng 1 from ⟨by decide, by decide⟩)).mpr c_286
            refine lv_aload_n hx hb dX11_readThing_163 rfl (lv_at hl 1 rfl) ?_
            refine lv_bipush (v := I 91) hx hb dX11_readThing_164 (by decide) ?_
            obtain ⟨_, hc_287⟩ := hO.cell h_a (by decide) (ci := 11) rfl
            refine th_calli (va_runV (As := [.int (I 91)]) (rest := []) ⟨hx, hb, hml, hown, hts⟩ (m_isMarked l G y b0 σ_s_277 E hO a h_a 91 (show rng 91 from (show rng 91 from ⟨by decide, by decide⟩)) Bf hsr (by omega)) (cwV 1 hts gX11_readThing_X11_isMarked rfl rfl rfl (by decide +kernel) ⟨(by first | (simp only [headSpec]; omega) | omega | (dsimp only; omega)), (by first | (simp only [headSpec]; omega) | omega | (dsimp only; omega))⟩) (th_PV hK hH rfl hc_287) rfl rfl hl.1 rfl (lv_room (Nat.le_of_ble_eq_true rfl)) dX11_readThing_166 ⟨(by first | (simp only [headSpec]; omega) | omega | (dsimp only; omega)), (by first | (simp only [headSpec]; omega) | omega | (dsimp only; omega))⟩) hS (fun z_290 σ_s_289 H locs rz_290 hw_288 hH hS => ?_)
            obtain ⟨e9, bhw_288, hw_288⟩ := hw_288
            replace e9 := e9.symm
            subst e9
            have hw_288 : z_290 = 0 ∨ (z_290 = 1 ∧ gI σ_s_277 a 19 = 0 ∧ gI σ_s_277 a 14 = 3 ∧ Bf (gI σ_s_277 a 17) = 91) := hw_288
            refine lv_if_eq (tgt := 192) hx hb dX11_readThing_169 (by decide) (fun c_291 => ?_) (fun c_291 => ?_)
            · replace c_291 := (I_eq (a := z_290) (b := 0) rz_290 (show rng 0 from ⟨by decide, by decide⟩)).mp c_291
              clear hw_288
              refine lv_aload_n hx hb dX11_readThing_192 rfl (lv_at hl 1 rfl) ?_
              refine lv_bipush (v := I 123) hx hb dX11_readThing_193 (by decide) ?_
              obtain ⟨_, hc_292⟩ := hO.cell h_a (by decide) (ci := 11) rfl
              refine th_calli (va_runV (As := [.int (I 123)]) (rest := []) ⟨hx, hb, hml, hown, hts⟩ (m_isMarked l G y b0 σ_s_277 E hO a h_a 123 (show rng 123 from (show rng 123 from ⟨by decide, by decide⟩)) Bf hsr (by omega)) (cwV 1 hts gX11_readThing_X11_isMarked rfl rfl rfl (by decide +kernel) ⟨(by first | (simp only [headSpec]; omega) | omega | (dsimp only; omega)), (by first | (simp only [headSpec]; omega) | omega | (dsimp only; omega))⟩) (th_PV hK hH rfl hc_292) rfl rfl hl.1 rfl (lv_room (Nat.le_of_ble_eq_true rfl)) dX11_readThing_195 ⟨(by first | (simp only [headSpec]; omega) | omega | (dsimp only; omega)), (by first | (simp only [headSpec]; omega) | omega | (dsimp only; omega))⟩) hS (fun z_295 σ_s_294 H locs rz_295 hw_293 hH hS => ?_)
              obtain ⟨e9, bhw_293, hw_293⟩ := hw_293
              replace e9 := e9.symm
              subst e9
              have hw_293 : z_295 = 0 ∨ (z_295 = 1 ∧ gI σ_s_277 a 19 = 0 ∧ gI σ_s_277 a 14 = 3 ∧ Bf (gI σ_s_277 a 17) = 123) := hw_293
              refine lv_if_eq (tgt := 221) hx hb dX11_readThing_198 (by decide) (fun c_296 => ?_) (fun c_296 => ?_)
              · replace c_296 := (I_eq (a := z_295) (b := 0) rz_295 (show rng 0 from ⟨by decide, by decide⟩)).mp c_296
                clear hw_293
                refine lv_aload_n hx hb dX11_readThing_221 rfl (lv_at hl 1 rfl) ?_
                refine ok.getR hO h_a (by decide) k13_2 (by decide) (fun _ _ he hv kk => th_get (ci := 11) (C := RX11) (T := TX11) (N := 66) hx hb hts inX11 hown hK hH he rfl 2 (by decide) fl3 hv dX11_readThing_222 kk) ?_
                refine lv_iload hx hb dX11_readThing_225 (lv_at hl 0 rfl) ?_
                refine lv_iconst (v := I 0) hx hb dX11_readThing_227 (by decide) ?_
                refine m_iast hx hb hK hH hS h00 hO h_a k13_2 isA1 (by decide) ef_285 ⟨by omega, by omega⟩ (by omega) (by omega) (show rng 0 from ⟨by decide, by decide⟩) el1 dX11_readThing_228 (fun σ_s_297 H locs hO hF9 hM9 ha9 hH hS => ?_)
                replace hM := hM.tu hM9 (by decide)
                replace hF := hF.tu hF9 (by decide)
                have e_298 : gI σ_s_297 a 11 = a110 := (hM9.i (by decide)).trans e_278
                have e_299 : gI σ_s_297 a 13 = a130 := (hM9.i (by decide)).trans e_279
                have e_300 : gI σ_s_297 a 14 = a140 := (hM9.i (by decide)).trans e_280
                have e_301 : gI σ_s_297 a 17 = a170 := (hM9.i (by decide)).trans e_281
                have e_302 : gI σ_s_297 a 19 = z_257 := (hM9.i (by decide)).trans e_282
                have e_303 : gI σ_s_297 a 22 = a220 + 1 := (hM9.i (by decide)).trans e_283
                replace hsr := hsr.mv hM9 (by decide) (by decide) (by decide) (by decide) (by decide)
                obtain ⟨g_304, dg_304⟩ : ∃ g9, g9 = upd g_284 (4 * a220).toNat (I 0) := ⟨_, rfl⟩
                rw [← dg_304] at ha9
                have ef_305 := ha9
                refine lv_aload_n hx hb dX11_readThing_229 rfl (lv_at hl 1 rfl) ?_
                refine ok.getR hO h_a (by decide) k13_2 (by decide) (fun _ _ he hv kk => th_get (ci := 11) (C := RX11) (T := TX11) (N := 66) hx hb hts inX11 hown hK hH he rfl 2 (by decide) fl3 hv dX11_readThing_230 kk) ?_
                refine lv_iload hx hb dX11_readThing_233 (lv_at hl 0 rfl) ?_
                refine lv_iconst (v := I 1) hx hb dX11_readThing_235 (by decide) ?_
                refine lv_iadd hx hb dX11_readThing_236 ?_
                refine nq_top (I_add _ _) ?_
                refine lv_aload_n hx hb dX11_readThing_237 rfl (lv_at hl 1 rfl) ?_
                obtain ⟨_, hc_306⟩ := hO.cell h_a (by decide) (ci := 11) rfl
                refine th_calli (va_runV (As := []) (rest := [.int (I (4 * a220 + 1)), .ref (ad E a 2)]) ⟨hx, hb, hml, hown, hts⟩ (m_readNumber l G y b0 σ_s_297 E hO a h_a Bf hsr (by omega)) (cwV 0 hts gX11_readThing_X11_readNumber rfl rfl rfl (by decide +kernel) ⟨(by first | (simp only [headSpec]; omega) | omega | (dsimp only; omega)), (by first | (simp only [headSpec]; omega) | omega | (dsimp only; omega))⟩) (th_PV hK hH rfl hc_306) rfl rfl hl.1 rfl (lv_room (Nat.le_of_ble_eq_true rfl)) dX11_readThing_238 ⟨(by first | (simp only [headSpec]; omega) | omega | (dsimp only; omega)), (by first | (simp only [headSpec]; omega) | omega | (dsimp only; omega))⟩) hS (fun z_309 σ_s_308 H locs rz_309 hw_307 hH hS => ?_)
                obtain ⟨hO9, hF9, hM9, hw_307⟩ := hw_307
                replace hM := hM.tu hM9 (by decide)
                replace hF := hF.tu hF9 (by decide)
                have e_310 : gI σ_s_308 a 11 = a110 := (hM9.i (by decide)).trans e_298
                have e_311 : gI σ_s_308 a 22 = a220 + 1 := (hM9.i (by decide)).trans e_303
                have e_312 : aF σ_s_308 (ad E a 2) = g_304 := (hM9.a (by decide) (by decide)).trans ef_305
                replace hsr := hsr.mv hM9 (by decide) (by decide) (by decide) (by decide) (by decide)
                replace hO := hO9
                have hw_307 : (gI σ_s_297 a 13 ≤ gI σ_s_308 a 13 ∧ gI σ_s_308 a 13 ≤ gI σ_s_297 a 11 ∧ 0 ≤ gI σ_s_308 a 17 ∧ gI σ_s_308 a 17 ≤ gI σ_s_308 a 13) ∧ pgo (gI σ_s_308 a 19) (gI σ_s_308 a 14) (gI σ_s_297 a 13) (gI σ_s_308 a 13) ∧ bdo (gI σ_s_297 a 19) (gI σ_s_308 a 19) := hw_307
                simp only [pgo, bdo] at hw_307
                refine m_iast hx hb hK hH hS h00 hO h_a k13_2 isA1 (by decide) e_312 ⟨by omega, by omega⟩ (by omega) (by omega) rz_309 el1 dX11_readThing_241 (fun σ_s_313 H locs hO hF9 hM9 ha9 hH hS => ?_)
                replace hM := hM.tu hM9 (by decide)
                replace hF := hF.tu hF9 (by decide)
                have e_314 : gI σ_s_313 a 11 = a110 := (hM9.i (by decide)).trans e_310
                have e_315 : gI σ_s_313 a 22 = a220 + 1 := (hM9.i (by decide)).trans e_311
                replace hsr := hsr.mv hM9 (by decide) (by decide) (by decide) (by decide) (by decide)
                obtain ⟨g_316, dg_316⟩ : ∃ g9, g9 = upd g_304 (4 * a220 + 1).toNat (I z_309) := ⟨_, rfl⟩
                rw [← dg_316] at ha9
                have ef_317 := ha9
                refine lv_aload_n hx hb dX11_readThing_242 rfl (lv_at hl 1 rfl) ?_
                refine ok.getR hO h_a (by decide) k13_2 (by decide) (fun _ _ he hv kk => th_get (ci := 11) (C := RX11) (T := TX11) (N := 66) hx hb hts inX11 hown hK hH he rfl 2 (by decide) fl3 hv dX11_readThing_243 kk) ?_
                refine lv_iload hx hb dX11_readThing_246 (lv_at hl 0 rfl) ?_
                refine lv_iconst (v := I 3) hx hb dX11_readThing_248 (by decide) ?_
                refine lv_iadd hx hb dX11_readThing_249 ?_
                refine nq_top (I_add _ _) ?_
                refine lv_aload_n hx hb dX11_readThing_250 rfl (lv_at hl 1 rfl) ?_
                refine ok.getIc hO h_a (by decide) k13_22 e_315 (fun _ _ he hv kk => th_get (ci := 11) (C := RX11) (T := TX11) (N := 66) hx hb hts inX11 hown hK hH he rfl 22 (by decide) fl2 hv dX11_readThing_251 kk) ?_
                refine lv_iload hx hb dX11_readThing_254 (lv_at hl 0 rfl) ?_
                refine lv_iconst (v := I 4) hx hb dX11_readThing_256 (by decide) ?_
                refine lv_idiv hx hb dX11_readThing_257 (by decide) ?_
                refine th_div (n := 4) ⟨by omega, by omega⟩ (by omega) (by decide) (fun z_318 rz_318 hz_318 => ?_)
                refine lv_isub hx hb dX11_readThing_258 ?_
                refine th_subo (fun z_319 rz_319 hz_319 => ?_)
                refine m_iast hx hb hK hH hS h00 hO h_a k13_2 isA1 (by decide) ef_317 ⟨by omega, by omega⟩ (by omega) (by omega) rz_319 el1 dX11_readThing_259 (fun σ_s_320 H locs hO hF9 hM9 ha9 hH hS => ?_)
                replace hM := hM.tu hM9 (by decide)
                replace hF := hF.tu hF9 (by decide)
                have e_321 : gI σ_s_320 a 11 = a110 := (hM9.i (by decide)).trans e_314
                have e_322 : gI σ_s_320 a 22 = a220 + 1 := (hM9.i (by decide)).trans e_315
                replace hsr := hsr.mv hM9 (by decide) (by decide) (by decide) (by decide) (by decide)
                obtain ⟨g_323, dg_323⟩ : ∃ g9, g9 = upd g_316 (4 * a220 + 3).toNat (I z_319) := ⟨_, rfl⟩
                rw [← dg_323] at ha9
                have ef_324 := ha9
                exact th_vret hx hb hr hlocks hH hS ⟨hO, hF, hM, ⟨⟨by omega, pgo.of (by omega)⟩, by omega, by rw [show gI σ a 22 = a220 by omega, show gI σ_s_320 a 22 = a220 + 1 by omega, show aF σ_s_320 (ad E a 2) = g_323 from ef_324]; exact Or.inr ((rdF.zero (f := g_316) same.rf).node (by omega) dg_323 (by omega) ⟨by omega, by omega⟩ (by omega) (((((same.rf).up1 dg_275 (by omega)).up1 dg_284 (by omega)).up1 dg_304 (by omega)).up1 dg_316 (by omega)) ((mY_up dg_316 (by omega) (by omega)).trans ((mY_up dg_304 (by omega) (by omega)).trans ((mY_up dg_284 (by omega) (by omega)).trans (mY_at dg_275 rky)))))⟩⟩ dX11_readThing_260
              · replace c_296 := mt (I_eq (a := z_295) (b := 0) rz_295 (show rng 0 from ⟨by decide, by decide⟩)).mpr c_296
                replace hw_293 := (hw_293.resolve_left c_296).2
                refine lv_aload_n hx hb dX11_readThing_201 rfl (lv_at hl 1 rfl) ?_
                refine ok.getR hO h_a (by decide) k13_2 (by decide) (fun _ _ he hv kk => th_get (ci := 11) (C := RX11) (T := TX11) (N := 66) hx hb hts inX11 hown hK hH he rfl 2 (by decide) fl3 hv dX11_readThing_202 kk) ?_
                refine lv_iload hx hb dX11_readThing_205 (lv_at hl 0 rfl) ?_
                refine lv_iconst (v := I 3) hx hb dX11_readThing_207 (by decide) ?_
                refine m_iast hx hb hK hH hS h00 hO h_a k13_2 isA1 (by decide) ef_285 ⟨by omega, by omega⟩ (by omega) (by omega) (show rng 3 from ⟨by decide, by decide⟩) el1 dX11_readThing_208 (fun σ_s_325 H locs hO hF9 hM9 ha9 hH hS => ?_)
                replace hM := hM.tu hM9 (by decide)
                replace hF := hF.tu hF9 (by decide)
                have e_326 : gI σ_s_325 a 11 = a110 := (hM9.i (by decide)).trans e_278
                have e_327 : gI σ_s_325 a 13 = a130 := (hM9.i (by decide)).trans e_279
                have e_328 : gI σ_s_325 a 14 = a140 := (hM9.i (by decide)).trans e_280
                have e_329 : gI σ_s_325 a 17 = a170 := (hM9.i (by decide)).trans e_281
                have e_330 : gI σ_s_325 a 19 = z_257 := (hM9.i (by decide)).trans e_282
                have e_331 : gI σ_s_325 a 22 = a220 + 1 := (hM9.i (by decide)).trans e_283
                replace hsr := hsr.mv hM9 (by decide) (by decide) (by decide) (by decide) (by decide)
                obtain ⟨g_332, dg_332⟩ : ∃ g9, g9 = upd g_284 (4 * a220).toNat (I 3) := ⟨_, rfl⟩
                rw [← dg_332] at ha9
                have ef_333 := ha9
                refine lv_aload_n hx hb dX11_readThing_209 rfl (lv_at hl 1 rfl) ?_
                refine lv_iload hx hb dX11_readThing_210 (lv_at hl 0 rfl) ?_
                refine lv_iload_n hx hb dX11_readThing_212 rfl (lv_at hl 3 rfl) ?_
                refine lv_bipush (v := I 125) hx hb dX11_readThing_213 (by decide) ?_
                obtain ⟨_, hc_334⟩ := hO.cell h_a (by decide) (ci := 11) rfl
                refine th_callv (va_runV (As := [.int (I (4 * a220)), .int (I dp), .int (I 125)]) (rest := []) ⟨hx, hb, hml, hown, hts⟩ (m_readMany n ih l G y b0 σ_s_325 E hO a h_a (4 * a220) (show rng (4 * a220) from ⟨by omega, by omega⟩) (by omega) (by omega) dp (show rng dp from rdp) (by omega) (by omega) 125 (show rng 125 from (show rng 125 from ⟨by decide, by decide⟩)) g_332 ef_333 Bf hsr (by omega) (by omega) (by omega) (by omega)) (cwV 3 hts gX11_readThing_X11_readMany rfl rfl rfl (by decide +kernel) ⟨(by first | (simp only [headSpec]; omega) | omega | (dsimp only; omega)), (by first | (simp only [headSpec]; omega) | omega | (dsimp only; omega))⟩) (th_PV hK hH rfl hc_334) rfl rfl hl.1 rfl (lv_room (Nat.le_of_ble_eq_true rfl)) dX11_readThing_215 ⟨(by first | (simp only [headSpec]; omega) | omega | (dsimp only; omega)), (by first | (simp only [headSpec]; omega) | omega | (dsimp only; omega))⟩) hS (fun σ_s_336 H locs hw_335 hH hS => ?_)
                obtain ⟨hO9, hF9, hM9, hw_335⟩ := hw_335
                replace hM := hM.tu hM9 (by decide)
                replace hF := hF.tu hF9 (by decide)
                have e_337 : gI σ_s_336 a 11 = a110 := (hM9.i (by decide)).trans e_326
                replace hsr := hsr.mv hM9 (by decide) (by decide) (by decide) (by decide) (by decide)
                replace hO := hO9
                generalize ef_339 : aF σ_s_336 (ad E a 2) = g_338 at hw_335
                have hw_335 : ((gI σ_s_325 a 13 ≤ gI σ_s_336 a 13 ∧ gI σ_s_336 a 13 ≤ gI σ_s_325 a 11 ∧ 0 ≤ gI σ_s_336 a 17 ∧ gI σ_s_336 a 17 ≤ gI σ_s_336 a 13) ∧ pgo (gI σ_s_336 a 19) (gI σ_s_336 a 14) (gI σ_s_325 a 13) (gI σ_s_336 a 13)) ∧ gI σ_s_325 a 22 ≤ gI σ_s_336 a 22 ∧ (¬ gI σ_s_336 a 19 = 0 ∨ rdF g_332 g_338 ((4 * a220) / 4) (gI σ_s_336 a 22) dp) := hw_335
                simp only [pgo, bdo] at hw_335
                refine lv_goto (tgt := 242) hx hb dX11_readThing_218 (by decide) ?_
                refine lv_aload_n hx hb dX11_readThing_242 rfl (lv_at hl 1 rfl) ?_
                refine ok.getR hO h_a (by decide) k13_2 (by decide) (fun _ _ he hv kk => th_get (ci := 11) (C := RX11) (T := TX11) (N := 66) hx hb hts inX11 hown hK hH he rfl 2 (by decide) fl3 hv dX11_readThing_243 kk) ?_
                refine lv_iload hx hb dX11_readThing_246 (lv_at hl 0 rfl) ?_
                refine lv_iconst (v := I 3) hx hb dX11_readThing_248 (by decide) ?_
                refine lv_iadd hx hb dX11_readThing_249 ?_
                refine nq_top (I_add _ _) ?_
                refine lv_aload_n hx hb dX11_readThing_250 rfl (lv_at hl 1 rfl) ?_
                refine ok.getI hO h_a (by decide) k13_22 (fun _ _ he hv kk => th_get (ci := 11) (C := RX11) (T := TX11) (N := 66) hx hb hts inX11 hown hK hH he rfl 22 (by decide) fl2 hv dX11_readThing_251 kk) (fun z_340 e_341 rz_340 lz_340 uz_340 => ?_)
                refine lv_iload hx hb dX11_readThing_254 (lv_at hl 0 rfl) ?_
                refine lv_iconst (v := I 4) hx hb dX11_readThing_256 (by decide) ?_
                refine lv_idiv hx hb dX11_readThing_257 (by decide) ?_
                refine th_div (n := 4) ⟨by omega, by omega⟩ (by omega) (by decide) (fun z_342 rz_342 hz_342 => ?_)
                refine lv_isub hx hb dX11_readThing_258 ?_
                refine th_subo (fun z_343 rz_343 hz_343 => ?_)
                refine m_iast hx hb hK hH hS h00 hO h_a k13_2 isA1 (by decide) ef_339 ⟨by omega, by omega⟩ (by omega) (by omega) rz_343 el1 dX11_readThing_259 (fun σ_s_344 H locs hO hF9 hM9 ha9 hH hS => ?_)
                replace hM := hM.tu hM9 (by decide)
                replace hF := hF.tu hF9 (by decide)
                have e_345 : gI σ_s_344 a 11 = a110 := (hM9.i (by decide)).trans e_337
                have e_346 : gI σ_s_344 a 22 = z_340 := (hM9.i (by decide)).trans e_341
                replace hsr := hsr.mv hM9 (by decide) (by decide) (by decide) (by decide) (by decide)
                obtain ⟨g_347, dg_347⟩ : ∃ g9, g9 = upd g_338 (4 * a220 + 3).toNat (I z_343) := ⟨_, rfl⟩
                rw [← dg_347] at ha9
                have ef_348 := ha9
                exact th_vret hx hb hr hlocks hH hS ⟨hO, hF, hM, ⟨⟨by omega, pgo.of (by omega)⟩, by omega, hw_335.2.2.elim (fun h9 => Or.inl (by omega)) (fun h9 => Or.inr (by rw [show 4 * a220 / 4 = a220 by omega] at h9; rw [show gI σ a 22 = a220 by omega, show gI σ_s_344 a 22 = gI σ_s_336 a 22 by omega, show aF σ_s_344 (ad E a 2) = g_347 from ef_348]; exact h9.node (by omega) dg_347 (by omega) ⟨by omega, by omega⟩ (by omega) ((((same.rf).up1 dg_275 (by omega)).up1 dg_284 (by omega)).up1 dg_332 (by omega)) ((mY_up dg_332 (by omega) (by omega)).trans ((mY_up dg_284 (by omega) (by omega)).trans (mY_at dg_275 rky)))))⟩⟩ dX11_readThing_260
            · replace c_291 := mt (I_eq (a := z_290) (b := 0) rz_290 (show rng 0 from ⟨by decide, by decide⟩)).mpr c_291
              replace hw_288 := (hw_288.resolve_left c_291).2
              refine lv_aload_n hx hb dX11_readThing_172 rfl (lv_at hl 1 rfl) ?_
              refine ok.getR hO h_a (by decide) k13_2 (by decide) (fun _ _ he hv kk => th_get (ci := 11) (C := RX11) (T := TX11) (N := 66) hx hb hts inX11 hown hK hH he rfl 2 (by decide) fl3 hv dX11_readThing_173 kk) ?_
              refine lv_iload hx hb dX11_readThing_176 (lv_at hl 0 rfl) ?_
              refine lv_iconst (v := I 2) hx hb dX11_readThing_178 (by decide) ?_
              refine m_iast hx hb hK hH hS h00 hO h_a k13_2 isA1 (by decide) ef_285 ⟨by omega, by omega⟩ (by omega) (by omega) (show rng 2 from ⟨by decide, by decide⟩) el1 dX11_readThing_179 (fun σ_s_349 H locs hO hF9 hM9 ha9 hH hS => ?_)
              replace hM := hM.tu hM9 (by decide)
              replace hF := hF.tu hF9 (by decide)
              have e_350 : gI σ_s_349 a 11 = a110 := (hM9.i (by decide)).trans e_278
              have e_351 : gI σ_s_349 a 13 = a130 := (hM9.i (by decide)).trans e_279
              have e_352 : gI σ_s_349 a 14 = a140 := (hM9.i (by decide)).trans e_280
              have e_353 : gI σ_s_349 a 17 = a170 := (hM9.i (by decide)).trans e_281
              have e_354 : gI σ_s_349 a 19 = z_257 := (hM9.i (by decide)).trans e_282
              have e_355 : gI σ_s_349 a 22 = a220 + 1 := (hM9.i (by decide)).trans e_283
              replace hsr := hsr.mv hM9 (by decide) (by decide) (by decide) (by decide) (by decide)
              obtain ⟨g_356, dg_356⟩ : ∃ g9, g9 = upd g_284 (4 * a220).toNat (I 2) := ⟨_, rfl⟩
              rw [← dg_356] at ha9
              have ef_357 := ha9
              refine lv_aload_n hx hb dX11_readThing_180 rfl (lv_at hl 1 rfl) ?_
              refine lv_iload hx hb dX11_readThing_181 (lv_at hl 0 rfl) ?_
              refine lv_iload_n hx hb dX11_readThing_183 rfl (lv_at hl 3 rfl) ?_
              refine lv_bipush (v := I 93) hx hb dX11_readThing_184 (by decide) ?_
              obtain ⟨_, hc_358⟩ := hO.cell h_a (by decide) (ci := 11) rfl
              refine th_callv (va_runV (As := [.int (I (4 * a220)), .int (I dp), .int (I 93)]) (rest := []) ⟨hx, hb, hml, hown, hts⟩ (m_readMany n ih l G y b0 σ_s_349 E hO a h_a (4 * a220) (show rng (4 * a220) from ⟨by omega, by omega⟩) (by omega) (by omega) dp (show rng dp from rdp) (by omega) (by omega) 93 (show rng 93 from (show rng 93 from ⟨by decide, by decide⟩)) g_356 ef_357 Bf hsr (by omega) (by omega) (by omega) (by omega)) (cwV 3 hts gX11_readThing_X11_readMany rfl rfl rfl (by decide +kernel) ⟨(by first | (simp only [headSpec]; omega) | omega | (dsimp only; omega)), (by first | (simp only [headSpec]; omega) | omega | (dsimp only; omega))⟩) (th_PV hK hH rfl hc_358) rfl rfl hl.1 rfl (lv_room (Nat.le_of_ble_eq_true rfl)) dX11_readThing_186 ⟨(by first | (simp only [headSpec]; omega) | omega | (dsimp only; omega)), (by first | (simp only [headSpec]; omega) | omega | (dsimp only; omega))⟩) hS (fun σ_s_360 H locs hw_359 hH hS => ?_)
              obtain ⟨hO9, hF9, hM9, hw_359⟩ := hw_359
              replace hM := hM.tu hM9 (by decide)
              replace hF := hF.tu hF9 (by decide)
              have e_361 : gI σ_s_360 a 11 = a110 := (hM9.i (by decide)).trans e_350
              replace hsr := hsr.mv hM9 (by decide) (by decide) (by decide) (by decide) (by decide)
              replace hO := hO9
              generalize ef_363 : aF σ_s_360 (ad E a 2) = g_362 at hw_359
              have hw_359 : ((gI σ_s_349 a 13 ≤ gI σ_s_360 a 13 ∧ gI σ_s_360 a 13 ≤ gI σ_s_349 a 11 ∧ 0 ≤ gI σ_s_360 a 17 ∧ gI σ_s_360 a 17 ≤ gI σ_s_360 a 13) ∧ pgo (gI σ_s_360 a 19) (gI σ_s_360 a 14) (gI σ_s_349 a 13) (gI σ_s_360 a 13)) ∧ gI σ_s_349 a 22 ≤ gI σ_s_360 a 22 ∧ (¬ gI σ_s_360 a 19 = 0 ∨ rdF g_356 g_362 ((4 * a220) / 4) (gI σ_s_360 a 22) dp) := hw_359
              simp only [pgo, bdo] at hw_359
              refine lv_goto (tgt := 242) hx hb dX11_readThing_189 (by decide) ?_
              refine lv_aload_n hx hb dX11_readThing_242 rfl (lv_at hl 1 rfl) ?_
              refine ok.getR hO h_a (by decide) k13_2 (by decide) (fun _ _ he hv kk => th_get (ci := 11) (C := RX11) (T := TX11) (N := 66) hx hb hts inX11 hown hK hH he rfl 2 (by decide) fl3 hv dX11_readThing_243 kk) ?_
              refine lv_iload hx hb dX11_readThing_246 (lv_at hl 0 rfl) ?_
              refine lv_iconst (v := I 3) hx hb dX11_readThing_248 (by decide) ?_
              refine lv_iadd hx hb dX11_readThing_249 ?_
              refine nq_top (I_add _ _) ?_
              refine lv_aload_n hx hb dX11_readThing_250 rfl (lv_at hl 1 rfl) ?_
              refine ok.getI hO h_a (by decide) k13_22 (fun _ _ he hv kk => th_get (ci := 11) (C := RX11) (T := TX11) (N := 66) hx hb hts inX11 hown hK hH he rfl 22 (by decide) fl2 hv dX11_readThing_251 kk) (fun z_364 e_365 rz_364 lz_364 uz_364 => ?_)
              refine lv_iload hx hb dX11_readThing_254 (lv_at hl 0 rfl) ?_
              refine lv_iconst (v := I 4) hx hb dX11_readThing_256 (by decide) ?_
              refine lv_idiv hx hb dX11_readThing_257 (by decide) ?_
              refine th_div (n := 4) ⟨by omega, by omega⟩ (by omega) (by decide) (fun z_366 rz_366 hz_366 => ?_)
              refine lv_isub hx hb dX11_readThing_258 ?_
              refine th_subo (fun z_367 rz_367 hz_367 => ?_)
              refine m_iast hx hb hK hH hS h00 hO h_a k13_2 isA1 (by decide) ef_363 ⟨by omega, by omega⟩ (by omega) (by omega) rz_367 el1 dX11_readThing_259 (fun σ_s_368 H locs hO hF9 hM9 ha9 hH hS => ?_)
              replace hM := hM.tu hM9 (by decide)
              replace hF := hF.tu hF9 (by decide)
              have e_369 : gI σ_s_368 a 11 = a110 := (hM9.i (by decide)).trans e_361
              have e_370 : gI σ_s_368 a 22 = z_364 := (hM9.i (by decide)).trans e_365
              replace hsr := hsr.mv hM9 (by decide) (by decide) (by decide) (by decide) (by decide)
              obtain ⟨g_371, dg_371⟩ : ∃ g9, g9 = upd g_362 (4 * a220 + 3).toNat (I z_367) := ⟨_, rfl⟩
              rw [← dg_371] at ha9
              have ef_372 := ha9
              exact th_vret hx hb hr hlocks hH hS ⟨hO, hF, hM, ⟨⟨by omega, pgo.of (by omega)⟩, by omega, hw_359.2.2.elim (fun h9 => Or.inl (by omega)) (fun h9 => Or.inr (by rw [show 4 * a220 / 4 = a220 by omega] at h9; rw [show gI σ a 22 = a220 by omega, show gI σ_s_368 a 22 = gI σ_s_360 a 22 by omega, show aF σ_s_368 (ad E a 2) = g_371 from ef_372]; exact h9.node (by omega) dg_371 (by omega) ⟨by omega, by omega⟩ (by omega) ((((same.rf).up1 dg_275 (by omega)).up1 dg_284 (by omega)).up1 dg_356 (by omega)) ((mY_up dg_356 (by omega) (by omega)).trans ((mY_up dg_284 (by omega) (by omega)).trans (mY_at dg_275 rky)))))⟩⟩ dX11_readThing_260
          · replace c_286 := (I_eq (a := a140) (b := 1) ra140 (show rng 1 from ⟨by decide, by decide⟩)).mp c_286
            refine lv_aload_n hx hb dX11_readThing_139 rfl (lv_at hl 1 rfl) ?_
            refine ok.getR hO h_a (by decide) k13_2 (by decide) (fun _ _ he hv kk => th_get (ci := 11) (C := RX11) (T := TX11) (N := 66) hx hb hts inX11 hown hK hH he rfl 2 (by decide) fl3 hv dX11_readThing_140 kk) ?_
            refine lv_iload hx hb dX11_readThing_143 (lv_at hl 0 rfl) ?_
            refine lv_iconst (v := I 1) hx hb dX11_readThing_145 (by decide) ?_
            refine m_iast hx hb hK hH hS h00 hO h_a k13_2 isA1 (by decide) ef_285 ⟨by omega, by omega⟩ (by omega) (by omega) (show rng 1 from ⟨by decide, by decide⟩) el1 dX11_readThing_146 (fun σ_s_373 H locs hO hF9 hM9 ha9 hH hS => ?_)
            replace hM := hM.tu hM9 (by decide)
            replace hF := hF.tu hF9 (by decide)
            have e_374 : gI σ_s_373 a 11 = a110 := (hM9.i (by decide)).trans e_278
            have e_375 : gI σ_s_373 a 13 = a130 := (hM9.i (by decide)).trans e_279
            have e_376 : gI σ_s_373 a 14 = a140 := (hM9.i (by decide)).trans e_280
            have e_377 : gI σ_s_373 a 17 = a170 := (hM9.i (by decide)).trans e_281
            have e_378 : gI σ_s_373 a 19 = z_257 := (hM9.i (by decide)).trans e_282
            have e_379 : gI σ_s_373 a 22 = a220 + 1 := (hM9.i (by decide)).trans e_283
            replace hsr := hsr.mv hM9 (by decide) (by decide) (by decide) (by decide) (by decide)
            obtain ⟨g_380, dg_380⟩ : ∃ g9, g9 = upd g_284 (4 * a220).toNat (I 1) := ⟨_, rfl⟩
            rw [← dg_380] at ha9
            have ef_381 := ha9
            refine lv_aload_n hx hb dX11_readThing_147 rfl (lv_at hl 1 rfl) ?_
            refine ok.getR hO h_a (by decide) k13_2 (by decide) (fun _ _ he hv kk => th_get (ci := 11) (C := RX11) (T := TX11) (N := 66) hx hb hts inX11 hown hK hH he rfl 2 (by decide) fl3 hv dX11_readThing_148 kk) ?_
            refine lv_iload hx hb dX11_readThing_151 (lv_at hl 0 rfl) ?_
            refine lv_iconst (v := I 1) hx hb dX11_readThing_153 (by decide) ?_
            refine lv_iadd hx hb dX11_readThing_154 ?_
            refine nq_top (I_add _ _) ?_
            refine lv_aload_n hx hb dX11_readThing_155 rfl (lv_at hl 1 rfl) ?_
            obtain ⟨_, hc_382⟩ := hO.cell h_a (by decide) (ci := 11) rfl
            refine th_calli (va_runV (As := []) (rest := [.int (I (4 * a220 + 1)), .ref (ad E a 2)]) ⟨hx, hb, hml, hown, hts⟩ (m_readWord l G y b0 σ_s_373 E hO a h_a Bf hsr (by omega)) (cwV 0 hts gX11_readThing_X11_readWord rfl rfl rfl (by decide +kernel) ⟨(by first | (simp only [headSpec]; omega) | omega | (dsimp only; omega)), (by first | (simp only [headSpec]; omega) | omega | (dsimp only; omega))⟩) (th_PV hK hH rfl hc_382) rfl rfl hl.1 rfl (lv_room (Nat.le_of_ble_eq_true rfl)) dX11_readThing_156 ⟨(by first | (simp only [headSpec]; omega) | omega | (dsimp only; omega)), (by first | (simp only [headSpec]; omega) | omega | (dsimp only; omega))⟩) hS (fun z_385 σ_s_384 H locs rz_385 hw_383 hH hS => ?_)
            obtain ⟨hO9, hF9, hM9, hw_383⟩ := hw_383
            replace hM := hM.tu hM9 (by decide)
            replace hF := hF.tu hF9 (by decide)
            have e_386 : gI σ_s_384 a 11 = a110 := (hM9.i (by decide)).trans e_374
            have e_387 : gI σ_s_384 a 22 = a220 + 1 := (hM9.i (by decide)).trans e_379
            have e_388 : aF σ_s_384 (ad E a 2) = g_380 := (hM9.a (by decide) (by decide)).trans ef_381
            replace hsr := hsr.mv hM9 (by decide) (by decide) (by decide) (by decide) (by decide)
            replace hO := hO9
            have hw_383 : (gI σ_s_373 a 13 ≤ gI σ_s_384 a 13 ∧ gI σ_s_384 a 13 ≤ gI σ_s_373 a 11 ∧ 0 ≤ gI σ_s_384 a 17 ∧ gI σ_s_384 a 17 ≤ gI σ_s_384 a 13) ∧ pgo (gI σ_s_384 a 19) (gI σ_s_384 a 14) (gI σ_s_373 a 13) (gI σ_s_384 a 13) ∧ bdo (gI σ_s_373 a 19) (gI σ_s_384 a 19) := hw_383
            simp only [pgo, bdo] at hw_383
            refine m_iast hx hb hK hH hS h00 hO h_a k13_2 isA1 (by decide) e_388 ⟨by omega, by omega⟩ (by omega) (by omega) rz_385 el1 dX11_readThing_159 (fun σ_s_389 H locs hO hF9 hM9 ha9 hH hS => ?_)
            replace hM := hM.tu hM9 (by decide)
            replace hF := hF.tu hF9 (by decide)
            have e_390 : gI σ_s_389 a 11 = a110 := (hM9.i (by decide)).trans e_386
            have e_391 : gI σ_s_389 a 22 = a220 + 1 := (hM9.i (by decide)).trans e_387
            replace hsr := hsr.mv hM9 (by decide) (by decide) (by decide) (by decide) (by decide)
            obtain ⟨g_392, dg_392⟩ : ∃ g9, g9 = upd g_380 (4 * a220 + 1).toNat (I z_385) := ⟨_, rfl⟩
            rw [← dg_392] at ha9
            have ef_393 := ha9
            refine lv_goto (tgt := 242) hx hb dX11_readThing_160 (by decide) ?_
            refine lv_aload_n hx hb dX11_readThing_242 rfl (lv_at hl 1 rfl) ?_
            refine ok.getR hO h_a (by decide) k13_2 (by decide) (fun _ _ he hv kk => th_get (ci := 11) (C := RX11) (T := TX11) (N := 66) hx hb hts inX11 hown hK hH he rfl 2 (by decide) fl3 hv dX11_readThing_243 kk) ?_
            refine lv_iload hx hb dX11_readThing_246 (lv_at hl 0 rfl) ?_
            refine lv_iconst (v := I 3) hx hb dX11_readThing_248 (by decide) ?_
            refine lv_iadd hx hb dX11_readThing_249 ?_
            refine nq_top (I_add _ _) ?_
            refine lv_aload_n hx hb dX11_readThing_250 rfl (lv_at hl 1 rfl) ?_
            refine ok.getIc hO h_a (by decide) k13_22 e_391 (fun _ _ he hv kk => th_get (ci := 11) (C := RX11) (T := TX11) (N := 66) hx hb hts inX11 hown hK hH he rfl 22 (by decide) fl2 hv dX11_readThing_251 kk) ?_
            refine lv_iload hx hb dX11_readThing_254 (lv_at hl 0 rfl) ?_
            refine lv_iconst (v := I 4) hx hb dX11_readThing_256 (by decide) ?_
            refine lv_idiv hx hb dX11_readThing_257 (by decide) ?_
            refine th_div (n := 4) ⟨by omega, by omega⟩ (by omega) (by decide) (fun z_394 rz_394 hz_394 => ?_)
            refine lv_isub hx hb dX11_readThing_258 ?_
            refine th_subo (fun z_395 rz_395 hz_395 => ?_)
            refine m_iast hx hb hK hH hS h00 hO h_a k13_2 isA1 (by decide) ef_393 ⟨by omega, by omega⟩ (by omega) (by omega) rz_395 el1 dX11_readThing_259 (fun σ_s_396 H locs hO hF9 hM9 ha9 hH hS => ?_)
            replace hM := hM.tu hM9 (by decide)
            replace hF := hF.tu hF9 (by decide)
            have e_397 : gI σ_s_396 a 11 = a110 := (hM9.i (by decide)).trans e_390
            have e_398 : gI σ_s_396 a 22 = a220 + 1 := (hM9.i (by decide)).trans e_391
            replace hsr := hsr.mv hM9 (by decide) (by decide) (by decide) (by decide) (by decide)
            obtain ⟨g_399, dg_399⟩ : ∃ g9, g9 = upd g_392 (4 * a220 + 3).toNat (I z_395) := ⟨_, rfl⟩
            rw [← dg_399] at ha9
            have ef_400 := ha9
            exact th_vret hx hb hr hlocks hH hS ⟨hO, hF, hM, ⟨⟨by omega, pgo.of (by omega)⟩, by omega, by rw [show gI σ a 22 = a220 by omega, show gI σ_s_396 a 22 = a220 + 1 by omega, show aF σ_s_396 (ad E a 2) = g_399 from ef_400]; exact Or.inr ((rdF.zero (f := g_392) same.rf).node (by omega) dg_399 (by omega) ⟨by omega, by omega⟩ (by omega) (((((same.rf).up1 dg_275 (by omega)).up1 dg_284 (by omega)).up1 dg_380 (by omega)).up1 dg_392 (by omega)) ((mY_up dg_392 (by omega) (by omega)).trans ((mY_up dg_380 (by omega) (by omega)).trans ((mY_up dg_284 (by omega) (by omega)).trans (mY_at dg_275 rky)))))⟩⟩ dX11_readThing_260
        · replace c_259 := mt (I_eq (a := z_257) (b := 0) rz_257 (show rng 0 from ⟨by decide, by decide⟩)).mpr c_259
          exact th_vret hx hb hr hlocks hH hS ⟨hO, hF, hM, ⟨⟨by omega, pgo.of (by omega)⟩, by omega, Or.inl (by omega)⟩⟩ dX11_readThing_92
      · refine lv_if_ne (tgt := 85) hx hb dX11_readThing_62 (by decide) (fun c_401 => ?_) (fun c_401 => ?_)
        · replace c_401 := mt (I_eq (a := a190) (b := 0) ra190 (show rng 0 from ⟨by decide, by decide⟩)).mpr c_401
          replace hl : lv_has ls 5 [(0, .ref a), (1, .int (I ky)), (2, .int (I dp))] := lv_sub hl [1, 2, 3] rfl
          exact jK_256 () σ _ _ _ ⟨hO, hF, hM, hsr, hH, hS, lv_sub hl [0, 1, 2] rfl, by first | (dsimp only; omega) | omega, ea110, ea130, ea140, ea170, ea220, ef2⟩
        · replace c_401 := (I_eq (a := a190) (b := 0) ra190 (show rng 0 from ⟨by decide, by decide⟩)).mp c_401
          refine lv_aload_n hx hb dX11_readThing_65 rfl (lv_at hl 1 rfl) ?_
          refine ok.getIc hO h_a (by decide) k13_22 ea220 (fun _ _ he hv kk => th_get (ci := 11) (C := RX11) (T := TX11) (N := 66) hx hb hts inX11 hown hK hH he rfl 22 (by decide) fl2 hv dX11_readThing_66 kk) ?_
          refine lv_bipush (v := I 60) hx hb dX11_readThing_69 (by decide) ?_
          refine th_join (α := Unit) (J := 80) (stk := fun x9 => []) (fun x9 σ9 H9 l9 ls9 => σ9 = σ ∧ th_H G b0 σ9 H9 ∧ va_S (th_A b0) s.heap H9 l9 ∧ lv_has ls9 5 [(0, .ref a), (1, .int (I ky)), (2, .int (I dp))]) ?_ (fun jK_405 => ?_)
          · intro x9 σ_K_405 H locs ls hI9
            obtain ⟨eK_405, hH, hS, hl⟩ := hI9
            replace eK_405 := eK_405.symm
            subst eK_405
            have hl : lv_has ls 5 [(0, .ref a), (1, .int (I ky)), (2, .int (I dp))] := hl
            refine lv_aload_n hx hb dX11_readThing_80 rfl (lv_at hl 0 rfl) ?_
            refine lv_iconst (v := I 2) hx hb dX11_readThing_81 (by decide) ?_
            obtain ⟨_, hc_406⟩ := hO.cell h_a (by decide) (ci := 11) rfl
            refine th_callv (va_runV (As := [.int (I 2)]) (rest := []) ⟨hx, hb, hml, hown, hts⟩ (m_wrong l G y b0 σ E hO a h_a 2 (show rng 2 from (show rng 2 from ⟨by decide, by decide⟩)) (by omega) (by omega)) (cwV 1 hts gX11_readThing_X11_wrong rfl rfl rfl (by decide +kernel) ⟨(by first | (simp only [headSpec]; omega) | omega | (dsimp only; omega)), (by first | (simp only [headSpec]; omega) | omega | (dsimp only; omega))⟩) (th_PV hK hH rfl hc_406) rfl rfl hl.1 rfl (lv_room (Nat.le_of_ble_eq_true rfl)) dX11_readThing_82 ⟨(by first | (simp only [headSpec]; omega) | omega | (dsimp only; omega)), (by first | (simp only [headSpec]; omega) | omega | (dsimp only; omega))⟩) hS (fun σ_s_408 H locs hw_407 hH hS => ?_)
            obtain ⟨hO9, hF9, hM9, hw_407⟩ := hw_407
            replace hM := hM.tu hM9 (by decide)
            replace hF := hF.tu hF9 (by decide)
            have e_409 : aF σ_s_408 (ad E a 2) = f2 := (hM9.a (by decide) (by decide)).trans ef2
            have e_410 : gI σ_s_408 a 11 = a110 := (hM9.i (by decide)).trans ea110
            have e_411 : gI σ_s_408 a 13 = a130 := (hM9.i (by decide)).trans ea130
            have e_412 : gI σ_s_408 a 14 = a140 := (hM9.i (by decide)).trans ea140
            have e_413 : gI σ_s_408 a 17 = a170 := (hM9.i (by decide)).trans ea170
            have e_414 : gI σ_s_408 a 22 = a220 := (hM9.i (by decide)).trans ea220
            replace hsr := hsr.mv hM9 (by decide) (by decide) (by decide) (by decide) (by decide)
            replace hO := hO9
            have hw_407 : ¬ gI σ_s_408 a 19 = 0 ∧ (gI σ a 19 = 0 ∨ gI σ_s_408 a 19 = gI σ a 19) := hw_407
            exact jK_256 () σ_s_408 _ _ _ ⟨hO, hF, hM, hsr, hH, hS, lv_sub hl [0, 1, 2] rfl, by first | (dsimp only; omega) | omega, e_410, e_411, e_412, e_413, e_414, e_409⟩
          · refine lv_icmp_eq (tgt := 80) hx hb dX11_readThing_71 (by decide) (fun c_415 => ?_) (fun c_415 => ?_)
            · replace c_415 := (I_eq (a := a220) (b := 60) ra220 (show rng 60 from ⟨by decide, by decide⟩)).mp c_415
              replace hl : lv_has ls 5 [(0, .ref a), (1, .int (I ky)), (2, .int (I dp))] := lv_sub hl [1, 2, 3] rfl
              exact jK_405 () σ _ _ _ ⟨rfl, hH, hS, lv_sub hl [0, 1, 2] rfl⟩
            · replace c_415 := mt (I_eq (a := a220) (b := 60) ra220 (show rng 60 from ⟨by decide, by decide⟩)).mpr c_415
              refine lv_iload_n hx hb dX11_readThing_74 rfl (lv_at hl 3 rfl) ?_
              refine lv_bipush (v := I 7) hx hb dX11_readThing_75 (by decide) ?_
              refine lv_icmp_le (tgt := 85) hx hb dX11_readThing_77 (by decide) (fun c_416 => ?_) (fun c_416 => ?_)
              · replace c_416 := (I_le (a := dp) (b := 7) rdp (show rng 7 from ⟨by decide, by decide⟩)).mp c_416
                replace hl : lv_has ls 5 [(0, .ref a), (1, .int (I ky)), (2, .int (I dp))] := lv_sub hl [1, 2, 3] rfl
                exact jK_256 () σ _ _ _ ⟨hO, hF, hM, hsr, hH, hS, lv_sub hl [0, 1, 2] rfl, by first | (dsimp only; omega) | omega, ea110, ea130, ea140, ea170, ea220, ef2⟩
              · replace c_416 := mt (I_le (a := dp) (b := 7) rdp (show rng 7 from ⟨by decide, by decide⟩)).mpr c_416
                replace hl : lv_has ls 5 [(0, .ref a), (1, .int (I ky)), (2, .int (I dp))] := lv_sub hl [1, 2, 3] rfl
                exact jK_405 () σ _ _ _ ⟨rfl, hH, hS, lv_sub hl [0, 1, 2] rfl⟩
    · refine lv_icmp_eq (tgt := 43) hx hb dX11_readThing_5 (by decide) (fun c_434 => ?_) (fun c_434 => ?_)
      · replace c_434 := (I_eq (a := a140) (b := 2) ra140 (show rng 2 from ⟨by decide, by decide⟩)).mp c_434
        exact jK_236 () σ _ _ _ ⟨rfl, hH, hS, lv_sub hl [0, 1, 2] rfl⟩
      · replace c_434 := mt (I_eq (a := a140) (b := 2) ra140 (show rng 2 from ⟨by decide, by decide⟩)).mpr c_434
        refine lv_aload_n hx hb dX11_readThing_8 rfl (lv_at hl 0 rfl) ?_
        refine ok.getIc hO h_a (by decide) k13_14 ea140 (fun _ _ he hv kk => th_get (ci := 11) (C := RX11) (T := TX11) (N := 66) hx hb hts inX11 hown hK hH he rfl 14 (by decide) fl0 hv dX11_readThing_9 kk) ?_
        refine lv_iconst (v := I 1) hx hb dX11_readThing_12 (by decide) ?_
        refine lv_icmp_eq (tgt := 43) hx hb dX11_readThing_13 (by decide) (fun c_435 => ?_) (fun c_435 => ?_)
        · replace c_435 := (I_eq (a := a140) (b := 1) ra140 (show rng 1 from ⟨by decide, by decide⟩)).mp c_435
          exact jK_236 () σ _ _ _ ⟨rfl, hH, hS, lv_sub hl [0, 1, 2] rfl⟩
        · replace c_435 := mt (I_eq (a := a140) (b := 1) ra140 (show rng 1 from ⟨by decide, by decide⟩)).mpr c_435
          refine lv_aload_n hx hb dX11_readThing_16 rfl (lv_at hl 0 rfl) ?_
          refine lv_bipush (v := I 45) hx hb dX11_readThing_17 (by decide) ?_
          obtain ⟨_, hc_436⟩ := hO.cell h_a (by decide) (ci := 11) rfl
          refine th_calli (va_runV (As := [.int (I 45)]) (rest := []) ⟨hx, hb, hml, hown, hts⟩ (m_isMarked l G y b0 σ E hO a h_a 45 (show rng 45 from (show rng 45 from ⟨by decide, by decide⟩)) Bf hsr (by omega)) (cwV 1 hts gX11_readThing_X11_isMarked rfl rfl rfl (by decide +kernel) ⟨(by first | (simp only [headSpec]; omega) | omega | (dsimp only; omega)), (by first | (simp only [headSpec]; omega) | omega | (dsimp only; omega))⟩) (th_PV hK hH rfl hc_436) rfl rfl hl.1 rfl (lv_room (Nat.le_of_ble_eq_true rfl)) dX11_readThing_19 ⟨(by first | (simp only [headSpec]; omega) | omega | (dsimp only; omega)), (by first | (simp only [headSpec]; omega) | omega | (dsimp only; omega))⟩) hS (fun z_439 σ_s_438 H locs rz_439 hw_437 hH hS => ?_)
          obtain ⟨e9, bhw_437, hw_437⟩ := hw_437
          replace e9 := e9.symm
          subst e9
          have hw_437 : z_439 = 0 ∨ (z_439 = 1 ∧ gI σ a 19 = 0 ∧ gI σ a 14 = 3 ∧ Bf (gI σ a 17) = 45) := hw_437
          refine lv_if_ne (tgt := 43) hx hb dX11_readThing_22 (by decide) (fun c_440 => ?_) (fun c_440 => ?_)
          · replace c_440 := mt (I_eq (a := z_439) (b := 0) rz_439 (show rng 0 from ⟨by decide, by decide⟩)).mpr c_440
            replace hw_437 := (hw_437.resolve_left c_440).2
            exact jK_236 () σ _ _ _ ⟨rfl, hH, hS, lv_sub hl [0, 1, 2] rfl⟩
          · replace c_440 := (I_eq (a := z_439) (b := 0) rz_439 (show rng 0 from ⟨by decide, by decide⟩)).mp c_440
            clear hw_437
            refine lv_aload_n hx hb dX11_readThing_25 rfl (lv_at hl 0 rfl) ?_
            refine lv_bipush (v := I 91) hx hb dX11_readThing_26 (by decide) ?_
            obtain ⟨_, hc_441⟩ := hO.cell h_a (by decide) (ci := 11) rfl
            refine th_calli (va_runV (As := [.int (I 91)]) (rest := []) ⟨hx, hb, hml, hown, hts⟩ (m_isMarked l G y b0 σ E hO a h_a 91 (show rng 91 from (show rng 91 from ⟨by decide, by decide⟩)) Bf hsr (by omega)) (cwV 1 hts gX11_readThing_X11_isMarked rfl rfl rfl (by decide +kernel) ⟨(by first | (simp only [headSpec]; omega) | omega | (dsimp only; omega)), (by first | (simp only [headSpec]; omega) | omega | (dsimp only; omega))⟩) (th_PV hK hH rfl hc_441) rfl rfl hl.1 rfl (lv_room (Nat.le_of_ble_eq_true rfl)) dX11_readThing_28 ⟨(by first | (simp only [headSpec]; omega) | omega | (dsimp only; omega)), (by first | (simp only [headSpec]; omega) | omega | (dsimp only; omega))⟩) hS (fun z_444 σ_s_443 H locs rz_444 hw_442 hH hS => ?_)
            obtain ⟨e9, bhw_442, hw_442⟩ := hw_442
            replace e9 := e9.symm
            subst e9
            have hw_442 : z_444 = 0 ∨ (z_444 = 1 ∧ gI σ a 19 = 0 ∧ gI σ a 14 = 3 ∧ Bf (gI σ a 17) = 91) := hw_442
            refine lv_if_ne (tgt := 43) hx hb dX11_readThing_31 (by decide) (fun c_445 => ?_) (fun c_445 => ?_)
            · replace c_445 := mt (I_eq (a := z_444) (b := 0) rz_444 (show rng 0 from ⟨by decide, by decide⟩)).mpr c_445
              replace hw_442 := (hw_442.resolve_left c_445).2
              exact jK_236 () σ _ _ _ ⟨rfl, hH, hS, lv_sub hl [0, 1, 2] rfl⟩
            · replace c_445 := (I_eq (a := z_444) (b := 0) rz_444 (show rng 0 from ⟨by decide, by decide⟩)).mp c_445
              clear hw_442
              refine lv_aload_n hx hb dX11_readThing_34 rfl (lv_at hl 0 rfl) ?_
              refine lv_bipush (v := I 123) hx hb dX11_readThing_35 (by decide) ?_
              obtain ⟨_, hc_446⟩ := hO.cell h_a (by decide) (ci := 11) rfl
              refine th_calli (va_runV (As := [.int (I 123)]) (rest := []) ⟨hx, hb, hml, hown, hts⟩ (m_isMarked l G y b0 σ E hO a h_a 123 (show rng 123 from (show rng 123 from ⟨by decide, by decide⟩)) Bf hsr (by omega)) (cwV 1 hts gX11_readThing_X11_isMarked rfl rfl rfl (by decide +kernel) ⟨(by first | (simp only [headSpec]; omega) | omega | (dsimp only; omega)), (by first | (simp only [headSpec]; omega) | omega | (dsimp only; omega))⟩) (th_PV hK hH rfl hc_446) rfl rfl hl.1 rfl (lv_room (Nat.le_of_ble_eq_true rfl)) dX11_readThing_37 ⟨(by first | (simp only [headSpec]; omega) | omega | (dsimp only; omega)), (by first | (simp only [headSpec]; omega) | omega | (dsimp only; omega))⟩) hS (fun z_449 σ_s_448 H locs rz_449 hw_447 hH hS => ?_)
              obtain ⟨e9, bhw_447, hw_447⟩ := hw_447
              replace e9 := e9.symm
              subst e9
              have hw_447 : z_449 = 0 ∨ (z_449 = 1 ∧ gI σ a 19 = 0 ∧ gI σ a 14 = 3 ∧ Bf (gI σ a 17) = 123) := hw_447
              refine lv_if_eq (tgt := 47) hx hb dX11_readThing_40 (by decide) (fun c_450 => ?_) (fun c_450 => ?_)
              · replace c_450 := (I_eq (a := z_449) (b := 0) rz_449 (show rng 0 from ⟨by decide, by decide⟩)).mp c_450
                clear hw_447
                refine lv_iconst (v := I 0) hx hb dX11_readThing_47 (by decide) ?_
                refine lv_istore_n (lv' := [(3, .int (I 0)), (0, .ref a), (1, .int (I ky)), (2, .int (I dp))]) hx hb dX11_readThing_48 rfl hl (by decide) rfl (fun ls hl => ?_)
                refine lv_iload_n hx hb dX11_readThing_49 rfl (lv_at hl 0 rfl) ?_
                refine lv_if_ne (tgt := 58) hx hb dX11_readThing_50 (by decide) (fun c_461 => absurd c_461 (by decide)) (fun _ => ?_)
                refine lv_aload_n hx hb dX11_readThing_53 rfl (lv_at hl 1 rfl) ?_
                refine lv_iconst (v := I 1) hx hb dX11_readThing_54 (by decide) ?_
                obtain ⟨_, hc_462⟩ := hO.cell h_a (by decide) (ci := 11) rfl
                refine th_callv (va_runV (As := [.int (I 1)]) (rest := []) ⟨hx, hb, hml, hown, hts⟩ (m_wrong l G y b0 σ E hO a h_a 1 (show rng 1 from (show rng 1 from ⟨by decide, by decide⟩)) (by omega) (by omega)) (cwV 1 hts gX11_readThing_X11_wrong rfl rfl rfl (by decide +kernel) ⟨(by first | (simp only [headSpec]; omega) | omega | (dsimp only; omega)), (by first | (simp only [headSpec]; omega) | omega | (dsimp only; omega))⟩) (th_PV hK hH rfl hc_462) rfl rfl hl.1 rfl (lv_room (Nat.le_of_ble_eq_true rfl)) dX11_readThing_55 ⟨(by first | (simp only [headSpec]; omega) | omega | (dsimp only; omega)), (by first | (simp only [headSpec]; omega) | omega | (dsimp only; omega))⟩) hS (fun σ_s_464 H locs hw_463 hH hS => ?_)
                obtain ⟨hO9, hF9, hM9, hw_463⟩ := hw_463
                replace hM := hM.tu hM9 (by decide)
                replace hF := hF.tu hF9 (by decide)
                have e_465 : aF σ_s_464 (ad E a 2) = f2 := (hM9.a (by decide) (by decide)).trans ef2
                have e_466 : gI σ_s_464 a 11 = a110 := (hM9.i (by decide)).trans ea110
                have e_467 : gI σ_s_464 a 13 = a130 := (hM9.i (by decide)).trans ea130
                have e_468 : gI σ_s_464 a 14 = a140 := (hM9.i (by decide)).trans ea140
                have e_469 : gI σ_s_464 a 17 = a170 := (hM9.i (by decide)).trans ea170
                have e_470 : gI σ_s_464 a 22 = a220 := (hM9.i (by decide)).trans ea220
                replace hsr := hsr.mv hM9 (by decide) (by decide) (by decide) (by decide) (by decide)
                replace hO := hO9
                have hw_463 : ¬ gI σ_s_464 a 19 = 0 ∧ (gI σ a 19 = 0 ∨ gI σ_s_464 a 19 = gI σ a 19) := hw_463
                refine lv_aload_n hx hb dX11_readThing_58 rfl (lv_at hl 1 rfl) ?_
                refine ok.getI hO h_a (by decide) k13_19 (fun _ _ he hv kk => th_get (ci := 11) (C := RX11) (T := TX11) (N := 66) hx hb hts inX11 hown hK hH he rfl 19 (by decide) fl1 hv dX11_readThing_59 kk) (fun z_471 e_472 rz_471 lz_471 uz_471 => ?_)
                refine th_join (α := Unit) (J := 85) (stk := fun x9 => []) (fun x9 σ9 H9 l9 ls9 => ok y E σ9 ∧ fr [13] E σ σ9 ∧ fm [13, 14, 15, 16, 17, 18, 19, 20, 2, 22] E σ σ9 a ∧ sr E σ9 a Bf ∧ th_H G b0 σ9 H9 ∧ va_S (th_A b0) s.heap H9 l9 ∧ lv_has ls9 5 [(0, .ref a), (1, .int (I ky)), (2, .int (I dp))] ∧ (¬ gI σ9 a 19 = 0 ∨ (a220 < 60 ∧ dp ≤ 7)) ∧ (gI σ9 a 11 = a110) ∧ (gI σ9 a 13 = a130) ∧ (gI σ9 a 14 = a140) ∧ (gI σ9 a 17 = a170) ∧ (gI σ9 a 22 = a220) ∧ (aF σ9 (ad E a 2) = f2)) ?_ (fun jK_490 => ?_)
                · intro x9 σ_K_490 H locs ls hI9
                  obtain ⟨hO, hF, hM, hsr, hH, hS, hl, K_490_0, K_490_1, K_490_2, K_490_3, K_490_4, K_490_5, K_490_6⟩ := hI9
                  have hl : lv_has ls 5 [(0, .ref a), (1, .int (I ky)), (2, .int (I dp))] := hl
                  have K_490_0 : ¬ gI σ_K_490 a 19 = 0 ∨ (a220 < 60 ∧ dp ≤ 7) := K_490_0
                  have K_490_1 : gI σ_K_490 a 11 = a110 := K_490_1
                  have K_490_2 : gI σ_K_490 a 13 = a130 := K_490_2
                  have K_490_3 : gI σ_K_490 a 14 = a140 := K_490_3
                  have K_490_4 : gI σ_K_490 a 17 = a170 := K_490_4
                  have K_490_5 : gI σ_K_490 a 22 = a220 := K_490_5
                  have K_490_6 : aF σ_K_490 (ad E a 2) = f2 := K_490_6
                  refine lv_aload_n hx hb dX11_readThing_85 rfl (lv_at hl 0 rfl) ?_
                  refine ok.getI hO h_a (by decide) k13_19 (fun _ _ he hv kk => th_get (ci := 11) (C := RX11) (T := TX11) (N := 66) hx hb hts inX11 hown hK hH he rfl 19 (by decide) fl1 hv dX11_readThing_86 kk) (fun z_491 e_492 rz_491 lz_491 uz_491 => ?_)
                  refine lv_if_eq (tgt := 93) hx hb dX11_readThing_89 (by decide) (fun c_493 => ?_) (fun c_493 => ?_)
                  · replace c_493 := (I_eq (a := z_491) (b := 0) rz_491 (show rng 0 from ⟨by decide, by decide⟩)).mp c_493
                    refine lv_iconst (v := I 4) hx hb dX11_readThing_93 (by decide) ?_
                    refine lv_aload_n hx hb dX11_readThing_94 rfl (lv_at hl 0 rfl) ?_
                    refine ok.getIc hO h_a (by decide) k13_22 K_490_5 (fun _ _ he hv kk => th_get (ci := 11) (C := RX11) (T := TX11) (N := 66) hx hb hts inX11 hown hK hH he rfl 22 (by decide) fl2 hv dX11_readThing_95 kk) ?_
                    refine lv_imul hx hb dX11_readThing_98 ?_
                    refine nq_top (I_mul _ _) ?_
                    refine lv_istore (lv' := [(4, .int (I (4 * a220))), (0, .ref a), (1, .int (I ky)), (2, .int (I dp))]) hx hb dX11_readThing_99 hl (by decide) rfl (fun ls hl => ?_)
                    refine lv_aload_n hx hb dX11_readThing_101 rfl (lv_at hl 1 rfl) ?_
                    refine lv_dup hx hb dX11_readThing_102 rfl ?_
                    refine ok.getIc hO h_a (by decide) k13_22 K_490_5 (fun _ _ he hv kk => th_get (ci := 11) (C := RX11) (T := TX11) (N := 66) hx hb hts inX11 hown hK hH he rfl 22 (by decide) fl2 hv dX11_readThing_103 kk) ?_
                    refine lv_iconst (v := I 1) hx hb dX11_readThing_106 (by decide) ?_
                    refine lv_iadd hx hb dX11_readThing_107 ?_
                    refine nq_top (I_add _ _) ?_
                    refine ok.putJ hO h_a k13_22 ⟨by omega, by omega⟩ (by omega) (by omega) (fun _ he hl9 kk => th_put (ci := 11) (v := .int (I (a220 + 1))) (ty := .int) (C := RX11) (T := TX11) (N := 66) hx hb hts inX11 tyX11 tyX11_ok nmX11 hown hK hH hS h00 he rfl 22 (by decide) fl2 rfl (by decide +kernel) rfl rfl hl9 dX11_readThing_108 kk) (fun σ_s_494 H locs hO hF9 hM9 hg9 ha9 hH hS => ?_)
                    replace hM := hM.tu hM9 (by decide)
                    replace hF := hF.tu hF9 (by decide)
                    have e_495 : gI σ_s_494 a 11 = a110 := (hM9.i (by decide)).trans K_490_1
                    have e_496 : gI σ_s_494 a 13 = a130 := (hM9.i (by decide)).trans K_490_2
                    have e_497 : gI σ_s_494 a 14 = a140 := (hM9.i (by decide)).trans K_490_3
                    have e_498 : gI σ_s_494 a 17 = a170 := (hM9.i (by decide)).trans K_490_4
                    have e_499 : aF σ_s_494 (ad E a 2) = f2 := (hM9.a (by decide) (by decide)).trans K_490_6
                    have e_500 : gI σ_s_494 a 19 = z_491 := (hM9.i (by decide)).trans e_492
                    replace hsr := hsr.mv hM9 (by decide) (by decide) (by decide) (by decide) (by decide)
                    have e_501 := hg9
                    refine lv_aload_n hx hb dX11_readThing_111 rfl (lv_at hl 1 rfl) ?_
                    refine ok.getR hO h_a (by decide) k13_2 (by decide) (fun _ _ he hv kk => th_get (ci := 11) (C := RX11) (T := TX11) (N := 66) hx hb hts inX11 hown hK hH he rfl 2 (by decide) fl3 hv dX11_readThing_112 kk) ?_
                    refine lv_iload hx hb dX11_readThing_115 (lv_at hl 0 rfl) ?_
                    refine lv_iconst (v := I 2) hx hb dX11_readThing_117 (by decide) ?_
                    refine lv_iadd hx hb dX11_readThing_118 ?_
                    refine nq_top (I_add _ _) ?_
                    refine lv_iload_n hx hb dX11_readThing_119 rfl (lv_at hl 2 rfl) ?_
                    refine m_iast hx hb hK hH hS h00 hO h_a k13_2 isA1 (by decide) e_499 ⟨by omega, by omega⟩ (by omega) (by omega) rky el1 dX11_readThing_120 (fun σ_s_502 H locs hO hF9 hM9 ha9 hH hS => ?_)
                    replace hM := hM.tu hM9 (by decide)
                    replace hF := hF.tu hF9 (by decide)
                    have e_503 : gI σ_s_502 a 11 = a110 := (hM9.i (by decide)).trans e_495
                    have e_504 : gI σ_s_502 a 13 = a130 := (hM9.i (by decide)).trans e_496
                    have e_505 : gI σ_s_502 a 14 = a140 := (hM9.i (by decide)).trans e_497
                    have e_506 : gI σ_s_502 a 17 = a170 := (hM9.i (by decide)).trans e_498
                    have e_507 : gI σ_s_502 a 19 = z_491 := (hM9.i (by decide)).trans e_500
                    have e_508 : gI σ_s_502 a 22 = a220 + 1 := (hM9.i (by decide)).trans e_501
                    replace hsr := hsr.mv hM9 (by decide) (by decide) (by decide) (by decide) (by decide)
                    obtain ⟨g_509, dg_509⟩ : ∃ g9, g9 = upd f2 (4 * a220 + 2).toNat (I ky) := ⟨_, rfl⟩
                    rw [← dg_509] at ha9
                    have ef_510 := ha9
                    refine lv_aload_n hx hb dX11_readThing_121 rfl (lv_at hl 1 rfl) ?_
                    refine ok.getR hO h_a (by decide) k13_2 (by decide) (fun _ _ he hv kk => th_get (ci := 11) (C := RX11) (T := TX11) (N := 66) hx hb hts inX11 hown hK hH he rfl 2 (by decide) fl3 hv dX11_readThing_122 kk) ?_
                    refine lv_iload hx hb dX11_readThing_125 (lv_at hl 0 rfl) ?_
                    refine lv_iconst (v := I 1) hx hb dX11_readThing_127 (by decide) ?_
                    refine lv_iadd hx hb dX11_readThing_128 ?_
                    refine nq_top (I_add _ _) ?_
                    refine lv_iconst (v := I 0) hx hb dX11_readThing_129 (by decide) ?_
                    refine m_iast hx hb hK hH hS h00 hO h_a k13_2 isA1 (by decide) ef_510 ⟨by omega, by omega⟩ (by omega) (by omega) (show rng 0 from ⟨by decide, by decide⟩) el1 dX11_readThing_130 (fun σ_s_511 H locs hO hF9 hM9 ha9 hH hS => ?_)
                    replace hM := hM.tu hM9 (by decide)
                    replace hF := hF.tu hF9 (by decide)
                    have e_512 : gI σ_s_511 a 11 = a110 := (hM9.i (by decide)).trans e_503
                    have e_513 : gI σ_s_511 a 13 = a130 := (hM9.i (by decide)).trans e_504
                    have e_514 : gI σ_s_511 a 14 = a140 := (hM9.i (by decide)).trans e_505
                    have e_515 : gI σ_s_511 a 17 = a170 := (hM9.i (by decide)).trans e_506
                    have e_516 : gI σ_s_511 a 19 = z_491 := (hM9.i (by decide)).trans e_507
                    have e_517 : gI σ_s_511 a 22 = a220 + 1 := (hM9.i (by decide)).trans e_508
                    replace hsr := hsr.mv hM9 (by decide) (by decide) (by decide) (by decide) (by decide)
                    obtain ⟨g_518, dg_518⟩ : ∃ g9, g9 = upd g_509 (4 * a220 + 1).toNat (I 0) := ⟨_, rfl⟩
                    rw [← dg_518] at ha9
                    have ef_519 := ha9
                    refine lv_aload_n hx hb dX11_readThing_131 rfl (lv_at hl 1 rfl) ?_
                    refine ok.getIc hO h_a (by decide) k13_14 e_514 (fun _ _ he hv kk => th_get (ci := 11) (C := RX11) (T := TX11) (N := 66) hx hb hts inX11 hown hK hH he rfl 14 (by decide) fl0 hv dX11_readThing_132 kk) ?_
                    refine lv_iconst (v := I 1) hx hb dX11_readThing_135 (by decide) ?_
                    refine lv_icmp_ne (tgt := 163) hx hb dX11_readThing_136 (by decide) (fun c_520 => ?_) (fun c_520 => ?_)
                    · replace c_520 := mt (I_eq (a := a140) (b := 1) ra140 (show rng 1 from ⟨by decide, by decide⟩)).mpr c_520
                      refine lv_aload_n hx hb dX11_readThing_163 rfl (lv_at hl 1 rfl) ?_
                      refine lv_bipush (v := I 91) hx hb dX11_readThing_164 (by decide) ?_
                      obtain ⟨_, hc_521⟩ := hO.cell h_a (by decide) (ci := 11) rfl
                      refine th_calli (va_runV (As := [.int (I 91)]) (rest := []) ⟨hx, hb, hml, hown, hts⟩ (m_isMarked l G y b0 σ_s_511 E hO a h_a 91 (show rng 91 from (show rng 91 from ⟨by decide, by decide⟩)) Bf hsr (by omega)) (cwV 1 hts gX11_readThing_X11_isMarked rfl rfl rfl (by decide +kernel) ⟨(by first | (simp only [headSpec]; omega) | omega | (dsimp only; omega)), (by first | (simp only [headSpec]; omega) | omega | (dsimp only; omega))⟩) (th_PV hK hH rfl hc_521) rfl rfl hl.1 rfl (lv_room (Nat.le_of_ble_eq_true rfl)) dX11_readThing_166 ⟨(by first | (simp only [headSpec]; omega) | omega | (dsimp only; omega)), (by first | (simp only [headSpec]; omega) | omega | (dsimp only; omega))⟩) hS (fun z_524 σ_s_523 H locs rz_524 hw_522 hH hS => ?_)
                      obtain ⟨e9, bhw_522, hw_522⟩ := hw_522
                      replace e9 := e9.symm
                      subst e9
                      have hw_522 : z_524 = 0 ∨ (z_524 = 1 ∧ gI σ_s_511 a 19 = 0 ∧ gI σ_s_511 a 14 = 3 ∧ Bf (gI σ_s_511 a 17) = 91) := hw_522
                      refine lv_if_eq (tgt := 192) hx hb dX11_readThing_169 (by decide) (fun c_525 => ?_) (fun c_525 => ?_)
                      · replace c_525 := (I_eq (a := z_524) (b := 0) rz_524 (show rng 0 from ⟨by decide, by decide⟩)).mp c_525
                        clear hw_522
                        refine lv_aload_n hx hb dX11_readThing_192 rfl (lv_at hl 1 rfl) ?_
                        refine lv_bipush (v := I 123) hx hb dX11_readThing_193 (by decide) ?_
                        obtain ⟨_, hc_526⟩ := hO.cell h_a (by decide) (ci := 11) rfl
                        refine th_calli (va_runV (As := [.int (I 123)]) (rest := []) ⟨hx, hb, hml, hown, hts⟩ (m_isMarked l G y b0 σ_s_511 E hO a h_a 123 (show rng 123 from (show rng 123 from ⟨by decide, by decide⟩)) Bf hsr (by omega)) (cwV 1 hts gX11_readThing_X11_isMarked rfl rfl rfl (by decide +kernel) ⟨(by first | (simp only [headSpec]; omega) | omega | (dsimp only; omega)), (by first | (simp only [headSpec]; omega) | omega | (dsimp only; omega))⟩) (th_PV hK hH rfl hc_526) rfl rfl hl.1 rfl (lv_room (Nat.le_of_ble_eq_true rfl)) dX11_readThing_195 ⟨(by first | (simp only [headSpec]; omega) | omega | (dsimp only; omega)), (by first | (simp only [headSpec]; omega) | omega | (dsimp only; omega))⟩) hS (fun z_529 σ_s_528 H locs rz_529 hw_527 hH hS => ?_)
                        obtain ⟨e9, bhw_527, hw_527⟩ := hw_527
                        replace e9 := e9.symm
                        subst e9
                        have hw_527 : z_529 = 0 ∨ (z_529 = 1 ∧ gI σ_s_511 a 19 = 0 ∧ gI σ_s_511 a 14 = 3 ∧ Bf (gI σ_s_511 a 17) = 123) := hw_527
                        refine lv_if_eq (tgt := 221) hx hb dX11_readThing_198 (by decide) (fun c_530 => ?_) (fun c_530 => ?_)
                        · replace c_530 := (I_eq (a := z_529) (b := 0) rz_529 (show rng 0 from ⟨by decide, by decide⟩)).mp c_530
                          clear hw_527
                          refine lv_aload_n hx hb dX11_readThing_221 rfl (lv_at hl 1 rfl) ?_
                          refine ok.getR hO h_a (by decide) k13_2 (by decide) (fun _ _ he hv kk => th_get (ci := 11) (C := RX11) (T := TX11) (N := 66) hx hb hts inX11 hown hK hH he rfl 2 (by decide) fl3 hv dX11_readThing_222 kk) ?_
                          refine lv_iload hx hb dX11_readThing_225 (lv_at hl 0 rfl) ?_
                          refine lv_iconst (v := I 0) hx hb dX11_readThing_227 (by decide) ?_
                          refine m_iast hx hb hK hH hS h00 hO h_a k13_2 isA1 (by decide) ef_519 ⟨by omega, by omega⟩ (by omega) (by omega) (show rng 0 from ⟨by decide, by decide⟩) el1 dX11_readThing_228 (fun σ_s_531 H locs hO hF9 hM9 ha9 hH hS => ?_)
                          replace hM := hM.tu hM9 (by decide)
                          replace hF := hF.tu hF9 (by decide)
                          have e_532 : gI σ_s_531 a 11 = a110 := (hM9.i (by decide)).trans e_512
                          have e_533 : gI σ_s_531 a 13 = a130 := (hM9.i (by decide)).trans e_513
                          have e_534 : gI σ_s_531 a 14 = a140 := (hM9.i (by decide)).trans e_514
                          have e_535 : gI σ_s_531 a 17 = a170 := (hM9.i (by decide)).trans e_515
                          have e_536 : gI σ_s_531 a 19 = z_491 := (hM9.i (by decide)).trans e_516
                          have e_537 : gI σ_s_531 a 22 = a220 + 1 := (hM9.i (by decide)).trans e_517
                          replace hsr := hsr.mv hM9 (by decide) (by decide) (by decide) (by decide) (by decide)
                          obtain ⟨g_538, dg_538⟩ : ∃ g9, g9 = upd g_518 (4 * a220).toNat (I 0) := ⟨_, rfl⟩
                          rw [← dg_538] at ha9
                          have ef_539 := ha9
                          refine lv_aload_n hx hb dX11_readThing_229 rfl (lv_at hl 1 rfl) ?_
                          refine ok.getR hO h_a (by decide) k13_2 (by decide) (fun _ _ he hv kk => th_get (ci := 11) (C := RX11) (T := TX11) (N := 66) hx hb hts inX11 hown hK hH he rfl 2 (by decide) fl3 hv dX11_readThing_230 kk) ?_
                          refine lv_iload hx hb dX11_readThing_233 (lv_at hl 0 rfl) ?_
                          refine lv_iconst (v := I 1) hx hb dX11_readThing_235 (by decide) ?_
                          refine lv_iadd hx hb dX11_readThing_236 ?_
                          refine nq_top (I_add _ _) ?_
                          refine lv_aload_n hx hb dX11_readThing_237 rfl (lv_at hl 1 rfl) ?_
                          obtain ⟨_, hc_540⟩ := hO.cell h_a (by decide) (ci := 11) rfl
                          refine th_calli (va_runV (As := []) (rest := [.int (I (4 * a220 + 1)), .ref (ad E a 2)]) ⟨hx, hb, hml, hown, hts⟩ (m_readNumber l G y b0 σ_s_531 E hO a h_a Bf hsr (by omega)) (cwV 0 hts gX11_readThing_X11_readNumber rfl rfl rfl (by decide +kernel) ⟨(by first | (simp only [headSpec]; omega) | omega | (dsimp only; omega)), (by first | (simp only [headSpec]; omega) | omega | (dsimp only; omega))⟩) (th_PV hK hH rfl hc_540) rfl rfl hl.1 rfl (lv_room (Nat.le_of_ble_eq_true rfl)) dX11_readThing_238 ⟨(by first | (simp only [headSpec]; omega) | omega | (dsimp only; omega)), (by first | (simp only [headSpec]; omega) | omega | (dsimp only; omega))⟩) hS (fun z_543 σ_s_542 H locs rz_543 hw_541 hH hS => ?_)
                          obtain ⟨hO9, hF9, hM9, hw_541⟩ := hw_541
                          replace hM := hM.tu hM9 (by decide)
                          replace hF := hF.tu hF9 (by decide)
                          have e_544 : gI σ_s_542 a 11 = a110 := (hM9.i (by decide)).trans e_532
                          have e_545 : gI σ_s_542 a 22 = a220 + 1 := (hM9.i (by decide)).trans e_537
                          have e_546 : aF σ_s_542 (ad E a 2) = g_538 := (hM9.a (by decide) (by decide)).trans ef_539
                          replace hsr := hsr.mv hM9 (by decide) (by decide) (by decide) (by decide) (by decide)
                          replace hO := hO9
                          have hw_541 : (gI σ_s_531 a 13 ≤ gI σ_s_542 a 13 ∧ gI σ_s_542 a 13 ≤ gI σ_s_531 a 11 ∧ 0 ≤ gI σ_s_542 a 17 ∧ gI σ_s_542 a 17 ≤ gI σ_s_542 a 13) ∧ pgo (gI σ_s_542 a 19) (gI σ_s_542 a 14) (gI σ_s_531 a 13) (gI σ_s_542 a 13) ∧ bdo (gI σ_s_531 a 19) (gI σ_s_542 a 19) := hw_541
                          simp only [pgo, bdo] at hw_541
                          refine m_iast hx hb hK hH hS h00 hO h_a k13_2 isA1 (by decide) e_546 ⟨by omega, by omega⟩ (by omega) (by omega) rz_543 el1 dX11_readThing_241 (fun σ_s_547 H locs hO hF9 hM9 ha9 hH hS => ?_)
                          replace hM := hM.tu hM9 (by decide)
                          replace hF := hF.tu hF9 (by decide)
                          have e_548 : gI σ_s_547 a 11 = a110 := (hM9.i (by decide)).trans e_544
                          have e_549 : gI σ_s_547 a 22 = a220 + 1 := (hM9.i (by decide)).trans e_545
                          replace hsr := hsr.mv hM9 (by decide) (by decide) (by decide) (by decide) (by decide)
                          obtain ⟨g_550, dg_550⟩ : ∃ g9, g9 = upd g_538 (4 * a220 + 1).toNat (I z_543) := ⟨_, rfl⟩
                          rw [← dg_550] at ha9
                          have ef_551 := ha9
                          refine lv_aload_n hx hb dX11_readThing_242 rfl (lv_at hl 1 rfl) ?_
                          refine ok.getR hO h_a (by decide) k13_2 (by decide) (fun _ _ he hv kk => th_get (ci := 11) (C := RX11) (T := TX11) (N := 66) hx hb hts inX11 hown hK hH he rfl 2 (by decide) fl3 hv dX11_readThing_243 kk) ?_
                          refine lv_iload hx hb dX11_readThing_246 (lv_at hl 0 rfl) ?_
                          refine lv_iconst (v := I 3) hx hb dX11_readThing_248 (by decide) ?_
                          refine lv_iadd hx hb dX11_readThing_249 ?_
                          refine nq_top (I_add _ _) ?_
                          refine lv_aload_n hx hb dX11_readThing_250 rfl (lv_at hl 1 rfl) ?_
                          refine ok.getIc hO h_a (by decide) k13_22 e_549 (fun _ _ he hv kk => th_get (ci := 11) (C := RX11) (T := TX11) (N := 66) hx hb hts inX11 hown hK hH he rfl 22 (by decide) fl2 hv dX11_readThing_251 kk) ?_
                          refine lv_iload hx hb dX11_readThing_254 (lv_at hl 0 rfl) ?_
                          refine lv_iconst (v := I 4) hx hb dX11_readThing_256 (by decide) ?_
                          refine lv_idiv hx hb dX11_readThing_257 (by decide) ?_
                          refine th_div (n := 4) ⟨by omega, by omega⟩ (by omega) (by decide) (fun z_552 rz_552 hz_552 => ?_)
                          refine lv_isub hx hb dX11_readThing_258 ?_
                          refine th_subo (fun z_553 rz_553 hz_553 => ?_)
                          refine m_iast hx hb hK hH hS h00 hO h_a k13_2 isA1 (by decide) ef_551 ⟨by omega, by omega⟩ (by omega) (by omega) rz_553 el1 dX11_readThing_259 (fun σ_s_554 H locs hO hF9 hM9 ha9 hH hS => ?_)
                          replace hM := hM.tu hM9 (by decide)
                          replace hF := hF.tu hF9 (by decide)
                          have e_555 : gI σ_s_554 a 11 = a110 := (hM9.i (by decide)).trans e_548
                          have e_556 : gI σ_s_554 a 22 = a220 + 1 := (hM9.i (by decide)).trans e_549
                          replace hsr := hsr.mv hM9 (by decide) (by decide) (by decide) (by decide) (by decide)
                          obtain ⟨g_557, dg_557⟩ : ∃ g9, g9 = upd g_550 (4 * a220 + 3).toNat (I z_553) := ⟨_, rfl⟩
                          rw [← dg_557] at ha9
                          have ef_558 := ha9
                          exact th_vret hx hb hr hlocks hH hS ⟨hO, hF, hM, ⟨⟨by omega, pgo.of (by omega)⟩, by omega, by rw [show gI σ a 22 = a220 by omega, show gI σ_s_554 a 22 = a220 + 1 by omega, show aF σ_s_554 (ad E a 2) = g_557 from ef_558]; exact Or.inr ((rdF.zero (f := g_550) same.rf).node (by omega) dg_557 (by omega) ⟨by omega, by omega⟩ (by omega) (((((same.rf).up1 dg_509 (by omega)).up1 dg_518 (by omega)).up1 dg_538 (by omega)).up1 dg_550 (by omega)) ((mY_up dg_550 (by omega) (by omega)).trans ((mY_up dg_538 (by omega) (by omega)).trans ((mY_up dg_518 (by omega) (by omega)).trans (mY_at dg_509 rky)))))⟩⟩ dX11_readThing_260
                        · replace c_530 := mt (I_eq (a := z_529) (b := 0) rz_529 (show rng 0 from ⟨by decide, by decide⟩)).mpr c_530
                          replace hw_527 := (hw_527.resolve_left c_530).2
                          refine lv_aload_n hx hb dX11_readThing_201 rfl (lv_at hl 1 rfl) ?_
                          refine ok.getR hO h_a (by decide) k13_2 (by decide) (fun _ _ he hv kk => th_get (ci := 11) (C := RX11) (T := TX11) (N := 66) hx hb hts inX11 hown hK hH he rfl 2 (by decide) fl3 hv dX11_readThing_202 kk) ?_
                          refine lv_iload hx hb dX11_readThing_205 (lv_at hl 0 rfl) ?_
                          refine lv_iconst (v := I 3) hx hb dX11_readThing_207 (by decide) ?_
                          refine m_iast hx hb hK hH hS h00 hO h_a k13_2 isA1 (by decide) ef_519 ⟨by omega, by omega⟩ (by omega) (by omega) (show rng 3 from ⟨by decide, by decide⟩) el1 dX11_readThing_208 (fun σ_s_559 H locs hO hF9 hM9 ha9 hH hS => ?_)
                          replace hM := hM.tu hM9 (by decide)
                          replace hF := hF.tu hF9 (by decide)
                          have e_560 : gI σ_s_559 a 11 = a110 := (hM9.i (by decide)).trans e_512
                          have e_561 : gI σ_s_559 a 13 = a130 := (hM9.i (by decide)).trans e_513
                          have e_562 : gI σ_s_559 a 14 = a140 := (hM9.i (by decide)).trans e_514
                          have e_563 : gI σ_s_559 a 17 = a170 := (hM9.i (by decide)).trans e_515
                          have e_564 : gI σ_s_559 a 19 = z_491 := (hM9.i (by decide)).trans e_516
                          have e_565 : gI σ_s_559 a 22 = a220 + 1 := (hM9.i (by decide)).trans e_517
                          replace hsr := hsr.mv hM9 (by decide) (by decide) (by decide) (by decide) (by decide)
                          obtain ⟨g_566, dg_566⟩ : ∃ g9, g9 = upd g_518 (4 * a220).toNat (I 3) := ⟨_, rfl⟩
                          rw [← dg_566] at ha9
                          have ef_567 := ha9
                          refine lv_aload_n hx hb dX11_readThing_209 rfl (lv_at hl 1 rfl) ?_
                          refine lv_iload hx hb dX11_readThing_210 (lv_at hl 0 rfl) ?_
                          refine lv_iload_n hx hb dX11_readThing_212 rfl (lv_at hl 3 rfl) ?_
                          refine lv_bipush (v := I 125) hx hb dX11_readThing_213 (by decide) ?_
                          obtain ⟨_, hc_568⟩ := hO.cell h_a (by decide) (ci := 11) rfl
                          refine th_callv (va_runV (As := [.int (I (4 * a220)), .int (I dp), .int (I 125)]) (rest := []) ⟨hx, hb, hml, hown, hts⟩ (m_readMany n ih l G y b0 σ_s_559 E hO a h_a (4 * a220) (show rng (4 * a220) from ⟨by omega, by omega⟩) (by omega) (by omega) dp (show rng dp from rdp) (by omega) (by omega) 125 (show rng 125 from (show rng 125 from ⟨by decide, by decide⟩)) g_566 ef_567 Bf hsr (by omega) (by omega) (by omega) (by omega)) (cwV 3 hts gX11_readThing_X11_readMany rfl rfl rfl (by decide +kernel) ⟨(by first | (simp only [headSpec]; omega) | omega | (dsimp only; omega)), (by first | (simp only [headSpec]; omega) | omega | (dsimp only; omega))⟩) (th_PV hK hH rfl hc_568) rfl rfl hl.1 rfl (lv_room (Nat.le_of_ble_eq_true rfl)) dX11_readThing_215 ⟨(by first | (simp only [headSpec]; omega) | omega | (dsimp only; omega)), (by first | (simp only [headSpec]; omega) | omega | (dsimp only; omega))⟩) hS (fun σ_s_570 H locs hw_569 hH hS => ?_)
                          obtain ⟨hO9, hF9, hM9, hw_569⟩ := hw_569
                          replace hM := hM.tu hM9 (by decide)
                          replace hF := hF.tu hF9 (by decide)
                          have e_571 : gI σ_s_570 a 11 = a110 := (hM9.i (by decide)).trans e_560
                          replace hsr := hsr.mv hM9 (by decide) (by decide) (by decide) (by decide) (by decide)
                          replace hO := hO9
                          generalize ef_573 : aF σ_s_570 (ad E a 2) = g_572 at hw_569
                          have hw_569 : ((gI σ_s_559 a 13 ≤ gI σ_s_570 a 13 ∧ gI σ_s_570 a 13 ≤ gI σ_s_559 a 11 ∧ 0 ≤ gI σ_s_570 a 17 ∧ gI σ_s_570 a 17 ≤ gI σ_s_570 a 13) ∧ pgo (gI σ_s_570 a 19) (gI σ_s_570 a 14) (gI σ_s_559 a 13) (gI σ_s_570 a 13)) ∧ gI σ_s_559 a 22 ≤ gI σ_s_570 a 22 ∧ (¬ gI σ_s_570 a 19 = 0 ∨ rdF g_566 g_572 ((4 * a220) / 4) (gI σ_s_570 a 22) dp) := hw_569
                          simp only [pgo, bdo] at hw_569
                          refine lv_goto (tgt := 242) hx hb dX11_readThing_218 (by decide) ?_
                          refine lv_aload_n hx hb dX11_readThing_242 rfl (lv_at hl 1 rfl) ?_
                          refine ok.getR hO h_a (by decide) k13_2 (by decide) (fun _ _ he hv kk => th_get (ci := 11) (C := RX11) (T := TX11) (N := 66) hx hb hts inX11 hown hK hH he rfl 2 (by decide) fl3 hv dX11_readThing_243 kk) ?_
                          refine lv_iload hx hb dX11_readThing_246 (lv_at hl 0 rfl) ?_
                          refine lv_iconst (v := I 3) hx hb dX11_readThing_248 (by decide) ?_
                          refine lv_iadd hx hb dX11_readThing_249 ?_
                          refine nq_top (I_add _ _) ?_
                          refine lv_aload_n hx hb dX11_readThing_250 rfl (lv_at hl 1 rfl) ?_
                          refine ok.getI hO h_a (by decide) k13_22 (fun _ _ he hv kk => th_get (ci := 11) (C := RX11) (T := TX11) (N := 66) hx hb hts inX11 hown hK hH he rfl 22 (by decide) fl2 hv dX11_readThing_251 kk) (fun z_574 e_575 rz_574 lz_574 uz_574 => ?_)
                          refine lv_iload hx hb dX11_readThing_254 (lv_at hl 0 rfl) ?_
                          refine lv_iconst (v := I 4) hx hb dX11_readThing_256 (by decide) ?_
                          refine lv_idiv hx hb dX11_readThing_257 (by decide) ?_
                          refine th_div (n := 4) ⟨by omega, by omega⟩ (by omega) (by decide) (fun z_576 rz_576 hz_576 => ?_)
                          refine lv_isub hx hb dX11_readThing_258 ?_
                          refine th_subo (fun z_577 rz_577 hz_577 => ?_)
                          refine m_iast hx hb hK hH hS h00 hO h_a k13_2 isA1 (by decide) ef_573 ⟨by omega, by omega⟩ (by omega) (by omega) rz_577 el1 dX11_readThing_259 (fun σ_s_578 H locs hO hF9 hM9 ha9 hH hS => ?_)
                          replace hM := hM.tu hM9 (by decide)
                          replace hF := hF.tu hF9 (by decide)
                          have e_579 : gI σ_s_578 a 11 = a110 := (hM9.i (by decide)).trans e_571
                          have e_580 : gI σ_s_578 a 22 = z_574 := (hM9.i (by decide)).trans e_575
                          replace hsr := hsr.mv hM9 (by decide) (by decide) (by decide) (by decide) (by decide)
                          obtain ⟨g_581, dg_581⟩ : ∃ g9, g9 = upd g_572 (4 * a220 + 3).toNat (I z_577) := ⟨_, rfl⟩
                          rw [← dg_581] at ha9
                          have ef_582 := ha9
                          exact th_vret hx hb hr hlocks hH hS ⟨hO, hF, hM, ⟨⟨by omega, pgo.of (by omega)⟩, by omega, hw_569.2.2.elim (fun h9 => Or.inl (by omega)) (fun h9 => Or.inr (by rw [show 4 * a220 / 4 = a220 by omega] at h9; rw [show gI σ a 22 = a220 by omega, show gI σ_s_578 a 22 = gI σ_s_570 a 22 by omega, show aF σ_s_578 (ad E a 2) = g_581 from ef_582]; exact h9.node (by omega) dg_581 (by omega) ⟨by omega, by omega⟩ (by omega) ((((same.rf).up1 dg_509 (by omega)).up1 dg_518 (by omega)).up1 dg_566 (by omega)) ((mY_up dg_566 (by omega) (by omega)).trans ((mY_up dg_518 (by omega) (by omega)).trans (mY_at dg_509 rky)))))⟩⟩ dX11_readThing_260
                      · replace c_525 := mt (I_eq (a := z_524) (b := 0) rz_524 (show rng 0 from ⟨by decide, by decide⟩)).mpr c_525
                        replace hw_522 := (hw_522.resolve_left c_525).2
                        refine lv_aload_n hx hb dX11_readThing_172 rfl (lv_at hl 1 rfl) ?_
                        refine ok.getR hO h_a (by decide) k13_2 (by decide) (fun _ _ he hv kk => th_get (ci := 11) (C := RX11) (T := TX11) (N := 66) hx hb hts inX11 hown hK hH he rfl 2 (by decide) fl3 hv dX11_readThing_173 kk) ?_
                        refine lv_iload hx hb dX11_readThing_176 (lv_at hl 0 rfl) ?_
                        refine lv_iconst (v := I 2) hx hb dX11_readThing_178 (by decide) ?_
                        refine m_iast hx hb hK hH hS h00 hO h_a k13_2 isA1 (by decide) ef_519 ⟨by omega, by omega⟩ (by omega) (by omega) (show rng 2 from ⟨by decide, by decide⟩) el1 dX11_readThing_179 (fun σ_s_583 H locs hO hF9 hM9 ha9 hH hS => ?_)
                        replace hM := hM.tu hM9 (by decide)
                        replace hF := hF.tu hF9 (by decide)
                        have e_584 : gI σ_s_583 a 11 = a110 := (hM9.i (by decide)).trans e_512
                        have e_585 : gI σ_s_583 a 13 = a130 := (hM9.i (by decide)).trans e_513
                        have e_586 : gI σ_s_583 a 14 = a140 := (hM9.i (by decide)).trans e_514
                        have e_587 : gI σ_s_583 a 17 = a170 := (hM9.i (by decide)).trans e_515
                        have e_588 : gI σ_s_583 a 19 = z_491 := (hM9.i (by decide)).trans e_516
                        have e_589 : gI σ_s_583 a 22 = a220 + 1 := (hM9.i (by decide)).trans e_517
                        replace hsr := hsr.mv hM9 (by decide) (by decide) (by decide) (by decide) (by decide)
                        obtain ⟨g_590, dg_590⟩ : ∃ g9, g9 = upd g_518 (4 * a220).toNat (I 2) := ⟨_, rfl⟩
                        rw [← dg_590] at ha9
                        have ef_591 := ha9
                        refine lv_aload_n hx hb dX11_readThing_180 rfl (lv_at hl 1 rfl) ?_
                        refine lv_iload hx hb dX11_readThing_181 (lv_at hl 0 rfl) ?_
                        refine lv_iload_n hx hb dX11_readThing_183 rfl (lv_at hl 3 rfl) ?_
                        refine lv_bipush (v := I 93) hx hb dX11_readThing_184 (by decide) ?_
                        obtain ⟨_, hc_592⟩ := hO.cell h_a (by decide) (ci := 11) rfl
                        refine th_callv (va_runV (As := [.int (I (4 * a220)), .int (I dp), .int (I 93)]) (rest := []) ⟨hx, hb, hml, hown, hts⟩ (m_readMany n ih l G y b0 σ_s_583 E hO a h_a (4 * a220) (show rng (4 * a220) from ⟨by omega, by omega⟩) (by omega) (by omega) dp (show rng dp from rdp) (by omega) (by omega) 93 (show rng 93 from (show rng 93 from ⟨by decide, by decide⟩)) g_590 ef_591 Bf hsr (by omega) (by omega) (by omega) (by omega)) (cwV 3 hts gX11_readThing_X11_readMany rfl rfl rfl (by decide +kernel) ⟨(by first | (simp only [headSpec]; omega) | omega | (dsimp only; omega)), (by first | (simp only [headSpec]; omega) | omega | (dsimp only; omega))⟩) (th_PV hK hH rfl hc_592) rfl rfl hl.1 rfl (lv_room (Nat.le_of_ble_eq_true rfl)) dX11_readThing_186 ⟨(by first | (simp only [headSpec]; omega) | omega | (dsimp only; omega)), (by first | (simp only [headSpec]; omega) | omega | (dsimp only; omega))⟩) hS (fun σ_s_594 H locs hw_593 hH hS => ?_)
                        obtain ⟨hO9, hF9, hM9, hw_593⟩ := hw_593
                        replace hM := hM.tu hM9 (by decide)
                        replace hF := hF.tu hF9 (by decide)
                        have e_595 : gI σ_s_594 a 11 = a110 := (hM9.i (by decide)).trans e_584
                        replace hsr := hsr.mv hM9 (by decide) (by decide) (by decide) (by decide) (by decide)
                        replace hO := hO9
                        generalize ef_597 : aF σ_s_594 (ad E a 2) = g_596 at hw_593
                        have hw_593 : ((gI σ_s_583 a 13 ≤ gI σ_s_594 a 13 ∧ gI σ_s_594 a 13 ≤ gI σ_s_583 a 11 ∧ 0 ≤ gI σ_s_594 a 17 ∧ gI σ_s_594 a 17 ≤ gI σ_s_594 a 13) ∧ pgo (gI σ_s_594 a 19) (gI σ_s_594 a 14) (gI σ_s_583 a 13) (gI σ_s_594 a 13)) ∧ gI σ_s_583 a 22 ≤ gI σ_s_594 a 22 ∧ (¬ gI σ_s_594 a 19 = 0 ∨ rdF g_590 g_596 ((4 * a220) / 4) (gI σ_s_594 a 22) dp) := hw_593
                        simp only [pgo, bdo] at hw_593
                        refine lv_goto (tgt := 242) hx hb dX11_readThing_189 (by decide) ?_
                        refine lv_aload_n hx hb dX11_readThing_242 rfl (lv_at hl 1 rfl) ?_
                        refine ok.getR hO h_a (by decide) k13_2 (by decide) (fun _ _ he hv kk => th_get (ci := 11) (C := RX11) (T := TX11) (N := 66) hx hb hts inX11 hown hK hH he rfl 2 (by decide) fl3 hv dX11_readThing_243 kk) ?_
                        refine lv_iload hx hb dX11_readThing_246 (lv_at hl 0 rfl) ?_
                        refine lv_iconst (v := I 3) hx hb dX11_readThing_248 (by decide) ?_
                        refine lv_iadd hx hb dX11_readThing_249 ?_
                        refine nq_top (I_add _ _) ?_
                        refine lv_aload_n hx hb dX11_readThing_250 rfl (lv_at hl 1 rfl) ?_
                        refine ok.getI hO h_a (by decide) k13_22 (fun _ _ he hv kk => th_get (ci := 11) (C := RX11) (T := TX11) (N := 66) hx hb hts inX11 hown hK hH he rfl 22 (by decide) fl2 hv dX11_readThing_251 kk) (fun z_598 e_599 rz_598 lz_598 uz_598 => ?_)
                        refine lv_iload hx hb dX11_readThing_254 (lv_at hl 0 rfl) ?_
                        refine lv_iconst (v := I 4) hx hb dX11_readThing_256 (by decide) ?_
                        refine lv_idiv hx hb dX11_readThing_257 (by decide) ?_
                        refine th_div (n := 4) ⟨by omega, by omega⟩ (by omega) (by decide) (fun z_600 rz_600 hz_600 => ?_)
                        refine lv_isub hx hb dX11_readThing_258 ?_
                        refine th_subo (fun z_601 rz_601 hz_601 => ?_)
                        refine m_iast hx hb hK hH hS h00 hO h_a k13_2 isA1 (by decide) ef_597 ⟨by omega, by omega⟩ (by omega) (by omega) rz_601 el1 dX11_readThing_259 (fun σ_s_602 H locs hO hF9 hM9 ha9 hH hS => ?_)
                        replace hM := hM.tu hM9 (by decide)
                        replace hF := hF.tu hF9 (by decide)
                        have e_603 : gI σ_s_602 a 11 = a110 := (hM9.i (by decide)).trans e_595
                        have e_604 : gI σ_s_602 a 22 = z_598 := (hM9.i (by decide)).trans e_599
                        replace hsr := hsr.mv hM9 (by decide) (by decide) (by decide) (by decide) (by decide)
                        obtain ⟨g_605, dg_605⟩ : ∃ g9, g9 = upd g_596 (4 * a220 + 3).toNat (I z_601) := ⟨_, rfl⟩
                        rw [← dg_605] at ha9
                        have ef_606 := ha9
                        exact th_vret hx hb hr hlocks hH hS ⟨hO, hF, hM, ⟨⟨by omega, pgo.of (by omega)⟩, by omega, hw_593.2.2.elim (fun h9 => Or.inl (by omega)) (fun h9 => Or.inr (by rw [show 4 * a220 / 4 = a220 by omega] at h9; rw [show gI σ a 22 = a220 by omega, show gI σ_s_602 a 22 = gI σ_s_594 a 22 by omega, show aF σ_s_602 (ad E a 2) = g_605 from ef_606]; exact h9.node (by omega) dg_605 (by omega) ⟨by omega, by omega⟩ (by omega) ((((same.rf).up1 dg_509 (by omega)).up1 dg_518 (by omega)).up1 dg_590 (by omega)) ((mY_up dg_590 (by omega) (by omega)).trans ((mY_up dg_518 (by omega) (by omega)).trans (mY_at dg_509 rky)))))⟩⟩ dX11_readThing_260
                    · replace c_520 := (I_eq (a := a140) (b := 1) ra140 (show rng 1 from ⟨by decide, by decide⟩)).mp c_520
                      refine lv_aload_n hx hb dX11_readThing_139 rfl (lv_at hl 1 rfl) ?_
                      refine ok.getR hO h_a (by decide) k13_2 (by decide) (fun _ _ he hv kk => th_get (ci := 11) (C := RX11) (T := TX11) (N := 66) hx hb hts inX11 hown hK hH he rfl 2 (by decide) fl3 hv dX11_readThing_140 kk) ?_
                      refine lv_iload hx hb dX11_readThing_143 (lv_at hl 0 rfl) ?_
                      refine lv_iconst (v := I 1) hx hb dX11_readThing_145 (by decide) ?_
                      refine m_iast hx hb hK hH hS h00 hO h_a k13_2 isA1 (by decide) ef_519 ⟨by omega, by omega⟩ (by omega) (by omega) (show rng 1 from ⟨by decide, by decide⟩) el1 dX11_readThing_146 (fun σ_s_607 H locs hO hF9 hM9 ha9 hH hS => ?_)
                      replace hM := hM.tu hM9 (by decide)
                      replace hF := hF.tu hF9 (by decide)
                      have e_608 : gI σ_s_607 a 11 = a110 := (hM9.i (by decide)).trans e_512
                      have e_609 : gI σ_s_607 a 13 = a130 := (hM9.i (by decide)).trans e_513
                      have e_610 : gI σ_s_607 a 14 = a140 := (hM9.i (by decide)).trans e_514
                      have e_611 : gI σ_s_607 a 17 = a170 := (hM9.i (by decide)).trans e_515
                      have e_612 : gI σ_s_607 a 19 = z_491 := (hM9.i (by decide)).trans e_516
                      have e_613 : gI σ_s_607 a 22 = a220 + 1 := (hM9.i (by decide)).trans e_517
                      replace hsr := hsr.mv hM9 (by decide) (by decide) (by decide) (by decide) (by decide)
                      obtain ⟨g_614, dg_614⟩ : ∃ g9, g9 = upd g_518 (4 * a220).toNat (I 1) := ⟨_, rfl⟩
                      rw [← dg_614] at ha9
                      have ef_615 := ha9
                      refine lv_aload_n hx hb dX11_readThing_147 rfl (lv_at hl 1 rfl) ?_
                      refine ok.getR hO h_a (by decide) k13_2 (by decide) (fun _ _ he hv kk => th_get (ci := 11) (C := RX11) (T := TX11) (N := 66) hx hb hts inX11 hown hK hH he rfl 2 (by decide) fl3 hv dX11_readThing_148 kk) ?_
                      refine lv_iload hx hb dX11_readThing_151 (lv_at hl 0 rfl) ?_
                      refine lv_iconst (v := I 1) hx hb dX11_readThing_153 (by decide) ?_
                      refine lv_iadd hx hb dX11_readThing_154 ?_
                      refine nq_top (I_add _ _) ?_
                      refine lv_aload_n hx hb dX11_readThing_155 rfl (lv_at hl 1 rfl) ?_
                      obtain ⟨_, hc_616⟩ := hO.cell h_a (by decide) (ci := 11) rfl
                      refine th_calli (va_runV (As := []) (rest := [.int (I (4 * a220 + 1)), .ref (ad E a 2)]) ⟨hx, hb, hml, hown, hts⟩ (m_readWord l G y b0 σ_s_607 E hO a h_a Bf hsr (by omega)) (cwV 0 hts gX11_readThing_X11_readWord rfl rfl rfl (by decide +kernel) ⟨(by first | (simp only [headSpec]; omega) | omega | (dsimp only; omega)), (by first | (simp only [headSpec]; omega) | omega | (dsimp only; omega))⟩) (th_PV hK hH rfl hc_616) rfl rfl hl.1 rfl (lv_room (Nat.le_of_ble_eq_true rfl)) dX11_readThing_156 ⟨(by first | (simp only [headSpec]; omega) | omega | (dsimp only; omega)), (by first | (simp only [headSpec]; omega) | omega | (dsimp only; omega))⟩) hS (fun z_619 σ_s_618 H locs rz_619 hw_617 hH hS => ?_)
                      obtain ⟨hO9, hF9, hM9, hw_617⟩ := hw_617
                      replace hM := hM.tu hM9 (by decide)
                      replace hF := hF.tu hF9 (by decide)
                      have e_620 : gI σ_s_618 a 11 = a110 := (hM9.i (by decide)).trans e_608
                      have e_621 : gI σ_s_618 a 22 = a220 + 1 := (hM9.i (by decide)).trans e_613
                      have e_622 : aF σ_s_618 (ad E a 2) = g_614 := (hM9.a (by decide) (by decide)).trans ef_615
                      replace hsr := hsr.mv hM9 (by decide) (by decide) (by decide) (by decide) (by decide)
                      replace hO := hO9
                      have hw_617 : (gI σ_s_607 a 13 ≤ gI σ_s_618 a 13 ∧ gI σ_s_618 a 13 ≤ gI σ_s_607 a 11 ∧ 0 ≤ gI σ_s_618 a 17 ∧ gI σ_s_618 a 17 ≤ gI σ_s_618 a 13) ∧ pgo (gI σ_s_618 a 19) (gI σ_s_618 a 14) (gI σ_s_607 a 13) (gI σ_s_618 a 13) ∧ bdo (gI σ_s_607 a 19) (gI σ_s_618 a 19) := hw_617
                      simp only [pgo, bdo] at hw_617
                      refine m_iast hx hb hK hH hS h00 hO h_a k13_2 isA1 (by decide) e_622 ⟨by omega, by omega⟩ (by omega) (by omega) rz_619 el1 dX11_readThing_159 (fun σ_s_623 H locs hO hF9 hM9 ha9 hH hS => ?_)
                      replace hM := hM.tu hM9 (by decide)
                      replace hF := hF.tu hF9 (by decide)
                      have e_624 : gI σ_s_623 a 11 = a110 := (hM9.i (by decide)).trans e_620
                      have e_625 : gI σ_s_623 a 22 = a220 + 1 := (hM9.i (by decide)).trans e_621
                      replace hsr := hsr.mv hM9 (by decide) (by decide) (by decide) (by decide) (by decide)
                      obtain ⟨g_626, dg_626⟩ : ∃ g9, g9 = upd g_614 (4 * a220 + 1).toNat (I z_619) := ⟨_, rfl⟩
                      rw [← dg_626] at ha9
                      have ef_627 := ha9
                      refine lv_goto (tgt := 242) hx hb dX11_readThing_160 (by decide) ?_
                      refine lv_aload_n hx hb dX11_readThing_242 rfl (lv_at hl 1 rfl) ?_
                      refine ok.getR hO h_a (by decide) k13_2 (by decide) (fun _ _ he hv kk => th_get (ci := 11) (C := RX11) (T := TX11) (N := 66) hx hb hts inX11 hown hK hH he rfl 2 (by decide) fl3 hv dX11_readThing_243 kk) ?_
                      refine lv_iload hx hb dX11_readThing_246 (lv_at hl 0 rfl) ?_
                      refine lv_iconst (v := I 3) hx hb dX11_readThing_248 (by decide) ?_
                      refine lv_iadd hx hb dX11_readThing_249 ?_
                      refine nq_top (I_add _ _) ?_
                      refine lv_aload_n hx hb dX11_readThing_250 rfl (lv_at hl 1 rfl) ?_
                      refine ok.getIc hO h_a (by decide) k13_22 e_625 (fun _ _ he hv kk => th_get (ci := 11) (C := RX11) (T := TX11) (N := 66) hx hb hts inX11 hown hK hH he rfl 22 (by decide) fl2 hv dX11_readThing_251 kk) ?_
                      refine lv_iload hx hb dX11_readThing_254 (lv_at hl 0 rfl) ?_
                      refine lv_iconst (v := I 4) hx hb dX11_readThing_256 (by decide) ?_
                      refine lv_idiv hx hb dX11_readThing_257 (by decide) ?_
                      refine th_div (n := 4) ⟨by omega, by omega⟩ (by omega) (by decide) (fun z_628 rz_628 hz_628 => ?_)
                      refine lv_isub hx hb dX11_readThing_258 ?_
                      refine th_subo (fun z_629 rz_629 hz_629 => ?_)
                      refine m_iast hx hb hK hH hS h00 hO h_a k13_2 isA1 (by decide) ef_627 ⟨by omega, by omega⟩ (by omega) (by omega) rz_629 el1 dX11_readThing_259 (fun σ_s_630 H locs hO hF9 hM9 ha9 hH hS => ?_)
                      replace hM := hM.tu hM9 (by decide)
                      replace hF := hF.tu hF9 (by decide)
                      have e_631 : gI σ_s_630 a 11 = a110 := (hM9.i (by decide)).trans e_624
                      have e_632 : gI σ_s_630 a 22 = a220 + 1 := (hM9.i (by decide)).trans e_625
                      replace hsr := hsr.mv hM9 (by decide) (by decide) (by decide) (by decide) (by decide)
                      obtain ⟨g_633, dg_633⟩ : ∃ g9, g9 = upd g_626 (4 * a220 + 3).toNat (I z_629) := ⟨_, rfl⟩
                      rw [← dg_633] at ha9
                      have ef_634 := ha9
                      exact th_vret hx hb hr hlocks hH hS ⟨hO, hF, hM, ⟨⟨by omega, pgo.of (by omega)⟩, by omega, by rw [show gI σ a 22 = a220 by omega, show gI σ_s_630 a 22 = a220 + 1 by omega, show aF σ_s_630 (ad E a 2) = g_633 from ef_634]; exact Or.inr ((rdF.zero (f := g_626) same.rf).node (by omega) dg_633 (by omega) ⟨by omega, by omega⟩ (by omega) (((((same.rf).up1 dg_509 (by omega)).up1 dg_518 (by omega)).up1 dg_614 (by omega)).up1 dg_626 (by omega)) ((mY_up dg_626 (by omega) (by omega)).trans ((mY_up dg_614 (by omega) (by omega)).trans ((mY_up dg_518 (by omega) (by omega)).trans (mY_at dg_509 rky)))))⟩⟩ dX11_readThing_260
                  · replace c_493 := mt (I_eq (a := z_491) (b := 0) rz_491 (show rng 0 from ⟨by decide, by decide⟩)).mpr c_493
                    exact th_vret hx hb hr hlocks hH hS ⟨hO, hF, hM, ⟨⟨by omega, pgo.of (by omega)⟩, by omega, Or.inl (by omega)⟩⟩ dX11_readThing_92
                · refine lv_if_ne (tgt := 85) hx hb dX11_readThing_62 (by decide) (fun c_635 => ?_) (fun c_635 => ?_)
                  · replace c_635 := mt (I_eq (a := z_471) (b := 0) rz_471 (show rng 0 from ⟨by decide, by decide⟩)).mpr c_635
                    replace hl : lv_has ls 5 [(0, .ref a), (1, .int (I ky)), (2, .int (I dp))] := lv_sub hl [1, 2, 3] rfl
                    exact jK_490 () σ_s_464 _ _ _ ⟨hO, hF, hM, hsr, hH, hS, lv_sub hl [0, 1, 2] rfl, by first | (dsimp only; omega) | omega, e_466, e_467, e_468, e_469, e_470, e_465⟩
                  · replace c_635 := (I_eq (a := z_471) (b := 0) rz_471 (show rng 0 from ⟨by decide, by decide⟩)).mp c_635
                    refine lv_aload_n hx hb dX11_readThing_65 rfl (lv_at hl 1 rfl) ?_
                    refine ok.getIc hO h_a (by decide) k13_22 e_470 (fun _ _ he hv kk => th_get (ci := 11) (C := RX11) (T := TX11) (N := 66) hx hb hts inX11 hown hK hH he rfl 22 (by decide) fl2 hv dX11_readThing_66 kk) ?_
                    refine lv_bipush (v := I 60) hx hb dX11_readThing_69 (by decide) ?_
                    refine th_join (α := Unit) (J := 80) (stk := fun x9 => []) (fun x9 σ9 H9 l9 ls9 => σ9 = σ_s_464 ∧ th_H G b0 σ9 H9 ∧ va_S (th_A b0) s.heap H9 l9 ∧ lv_has ls9 5 [(0, .ref a), (1, .int (I ky)), (2, .int (I dp))]) ?_ (fun jK_639 => ?_)
                    · intro x9 σ_K_639 H locs ls hI9
                      obtain ⟨eK_639, hH, hS, hl⟩ := hI9
                      replace eK_639 := eK_639.symm
                      subst eK_639
                      have hl : lv_has ls 5 [(0, .ref a), (1, .int (I ky)), (2, .int (I dp))] := hl
                      refine lv_aload_n hx hb dX11_readThing_80 rfl (lv_at hl 0 rfl) ?_
                      refine lv_iconst (v := I 2) hx hb dX11_readThing_81 (by decide) ?_
                      obtain ⟨_, hc_640⟩ := hO.cell h_a (by decide) (ci := 11) rfl
                      refine th_callv (va_runV (As := [.int (I 2)]) (rest := []) ⟨hx, hb, hml, hown, hts⟩ (m_wrong l G y b0 σ_s_464 E hO a h_a 2 (show rng 2 from (show rng 2 from ⟨by decide, by decide⟩)) (by omega) (by omega)) (cwV 1 hts gX11_readThing_X11_wrong rfl rfl rfl (by decide +kernel) ⟨(by first | (simp only [headSpec]; omega) | omega | (dsimp only; omega)), (by first | (simp only [headSpec]; omega) | omega | (dsimp only; omega))⟩) (th_PV hK hH rfl hc_640) rfl rfl hl.1 rfl (lv_room (Nat.le_of_ble_eq_true rfl)) dX11_readThing_82 ⟨(by first | (simp only [headSpec]; omega) | omega | (dsimp only; omega)), (by first | (simp only [headSpec]; omega) | omega | (dsimp only; omega))⟩) hS (fun σ_s_642 H locs hw_641 hH hS => ?_)
                      obtain ⟨hO9, hF9, hM9, hw_641⟩ := hw_641
                      replace hM := hM.tu hM9 (by decide)
                      replace hF := hF.tu hF9 (by decide)
                      have e_643 : aF σ_s_642 (ad E a 2) = f2 := (hM9.a (by decide) (by decide)).trans e_465
                      have e_644 : gI σ_s_642 a 11 = a110 := (hM9.i (by decide)).trans e_466
                      have e_645 : gI σ_s_642 a 13 = a130 := (hM9.i (by decide)).trans e_467
                      have e_646 : gI σ_s_642 a 14 = a140 := (hM9.i (by decide)).trans e_468
                      have e_647 : gI σ_s_642 a 17 = a170 := (hM9.i (by decide)).trans e_469
                      have e_648 : gI σ_s_642 a 22 = a220 := (hM9.i (by decide)).trans e_470
                      replace hsr := hsr.mv hM9 (by decide) (by decide) (by decide) (by decide) (by decide)
                      replace hO := hO9
                      have hw_641 : ¬ gI σ_s_642 a 19 = 0 ∧ (gI σ_s_464 a 19 = 0 ∨ gI σ_s_642 a 19 = gI σ_s_464 a 19) := hw_641
                      exact jK_490 () σ_s_642 _ _ _ ⟨hO, hF, hM, hsr, hH, hS, lv_sub hl [0, 1, 2] rfl, by first | (dsimp only; omega) | omega, e_644, e_645, e_646, e_647, e_648, e_643⟩
                    · refine lv_icmp_eq (tgt := 80) hx hb dX11_readThing_71 (by decide) (fun c_649 => ?_) (fun c_649 => ?_)
                      · replace c_649 := (I_eq (a := a220) (b := 60) ra220 (show rng 60 from ⟨by decide, by decide⟩)).mp c_649
                        replace hl : lv_has ls 5 [(0, .ref a), (1, .int (I ky)), (2, .int (I dp))] := lv_sub hl [1, 2, 3] rfl
                        exact jK_639 () σ_s_464 _ _ _ ⟨rfl, hH, hS, lv_sub hl [0, 1, 2] rfl⟩
                      · replace c_649 := mt (I_eq (a := a220) (b := 60) ra220 (show rng 60 from ⟨by decide, by decide⟩)).mpr c_649
                        refine lv_iload_n hx hb dX11_readThing_74 rfl (lv_at hl 3 rfl) ?_
                        refine lv_bipush (v := I 7) hx hb dX11_readThing_75 (by decide) ?_
                        refine lv_icmp_le (tgt := 85) hx hb dX11_readThing_77 (by decide) (fun c_650 => ?_) (fun c_650 => ?_)
                        · replace c_650 := (I_le (a := dp) (b := 7) rdp (show rng 7 from ⟨by decide, by decide⟩)).mp c_650
                          replace hl : lv_has ls 5 [(0, .ref a), (1, .int (I ky)), (2, .int (I dp))] := lv_sub hl [1, 2, 3] rfl
                          exact jK_490 () σ_s_464 _ _ _ ⟨hO, hF, hM, hsr, hH, hS, lv_sub hl [0, 1, 2] rfl, by first | (dsimp only; omega) | omega, e_466, e_467, e_468, e_469, e_470, e_465⟩
                        · replace c_650 := mt (I_le (a := dp) (b := 7) rdp (show rng 7 from ⟨by decide, by decide⟩)).mpr c_650
                          replace hl : lv_has ls 5 [(0, .ref a), (1, .int (I ky)), (2, .int (I dp))] := lv_sub hl [1, 2, 3] rfl
                          exact jK_639 () σ_s_464 _ _ _ ⟨rfl, hH, hS, lv_sub hl [0, 1, 2] rfl⟩
              · replace c_450 := mt (I_eq (a := z_449) (b := 0) rz_449 (show rng 0 from ⟨by decide, by decide⟩)).mpr c_450
                replace hw_447 := (hw_447.resolve_left c_450).2
                exact jK_236 () σ _ _ _ ⟨rfl, hH, hS, lv_sub hl [0, 1, 2] rfl⟩
