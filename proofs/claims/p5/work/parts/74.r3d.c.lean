set_option maxHeartbeats 4000000 in
set_option maxRecDepth 100000 in
theorem r6_readThing (n : Nat) : ∀ (l : Launch) (G : va_G) (y : Nat → ClassId) (b0 : Nat) (σ : th_M) (E : th_E) (hO : ok y E σ) (a : Nat) (h_a : kd E a = 10) (b : Nat) (h_b : kd E b = 1) (dp : Int) (rdp : rng dp) (l_dp : 0 ≤ dp) (u_dp : dp ≤ 8) (ky : Int) (rky : rng ky) (T : tkT) (fc jt : Int) (hT0 : TSt E σ (ad E a 0) T fc jt) (hn : (8 - dp).toNat < n), Met l yX1_readThing wsX1_readThing ({ frames := 4*n+8, cells := 0, slots := 0, locals := (120*n+600) }) (th_P G y b0 σ [.ref a, .ref b, .int (I dp), .int (I ky)]) (th_Qv G b0 (fun σ1 => ok y E σ1 ∧ fr [3, 1] E σ σ1 ∧ (∃ c1 j1, TSt E σ1 (ad E a 0) T c1 j1 ∧ (fc ≠ 0 → c1 = fc ∧ j1 = jt) ∧ (fc = 0 → PTh T dp jt (gI σ b 4) c1 j1 (gI σ1 b 4) ∧ (c1 = 0 → jt < j1 ∧ gr E σ σ1 b (gI σ b 4) dp ky))))) 0 0 (th_A b0) := by
  induction n with
  | zero => intro l G y b0 σ E hO a h_a b h_b dp rdp l_dp u_dp ky rky T fc jt hT0 hn; exact absurd hn (Nat.not_lt_zero _)
  | succ n ih =>
    intro l G y b0 σ E hO a h_a b h_b dp rdp l_dp u_dp ky rky T fc jt hT0 hn
    refine Met.ofW (cc := cX1_readThing) (maxL := 4) (ret := none) (by decide) rfl ?_
    intro p e s m args below meth c s₁ B hml hv
    obtain ⟨rfl, hH, hK⟩ := hv
    have hx := B.exec
    have hb := B.bytes
    have hr := B.returns
    have hts := atoms_spec (ws := wsX1_readThing) B.pre
    have hown : s.vm.findClass RX1 = some m.cls := findClass_of_methodNamed B.named
    have hlocks := B.notSynchronized
    have h00 : b0 ≤ s.heap.size := hH.1
    have hS : va_S (th_A b0) s.heap s.heap [] := va_S.rf
    have hF : fr [3, 1] E σ σ := fr.rf
    have inX1 : ∀ w ∈ wsX10, w ∈ wsX1_readThing := by decide +kernel
    have inX8 : ∀ w ∈ wsX80, w ∈ wsX1_readThing := by decide +kernel
    have inX9 : ∀ w ∈ wsX90, w ∈ wsX1_readThing := by decide +kernel
    have fl0 := hts (.fieldLink RX1 9 "NestQuery$DataReader" "tokens" "LNestQuery$Tokens;") (by decide +kernel)
    have fl1 := hts (.initialized RX10) (by decide +kernel)
    have fl2 := hts (.static yX10_firstLetterHighest) (by decide +kernel)
    have hl := lv_entry ([.ref a, .ref b, .int (I dp), .int (I ky)]) (n := 4) (Nat.le_of_ble_eq_true rfl)
    rw [lg_entry_eq]
    generalize (lg_sl ([.ref a, .ref b, .int (I dp), .int (I ky)]) ++ List.replicate (4 - (lg_sl ([.ref a, .ref b, .int (I dp), .int (I ky)])).length) Slot.unset).toArray = ls at hl ⊢
    have hl : lv_has ls 4 [(0, .ref a), (1, .ref b), (2, .int (I dp)), (3, .int (I ky))] := hl
    obtain ⟨b40, eb40, rb40, lb40, ub40⟩ := hO.gi h_b (by decide) k1_4
    have hU0 := hT0.2.2
    have hkt : kd E (ad E a 0) = 3 := ok.pk hO h_a (by decide) k10_0 rfl
    have hrb0 : True → rb E σ σ b := fun _ => rb.rf
    refine lv_aload_n hx hb dX1_readThing_0 rfl (lv_at hl 0 rfl) ?_
    have hp_1 : kd E (ad E a 0) = 3 := ok.pk hO h_a (by decide) k10_0 rfl
    refine ok.getR hO h_a (by decide) k10_0 (by decide) (fun _ _ he hv kk => th_get (ci := 1) (C := RX1) (T := TX1) (N := 1) hx hb hts inX1 hown hK hH he rfl 0 (by decide) fl0 hv dX1_readThing_1 kk) ?_
    refine ok.getI hO hp_1 (by decide) k3_6 (fun _ _ he hv kk => th_getN (ci := 8) (C := RX8) (T := TX8) (N := 9) hx hb hts inX8 hown hK hH he rfl 6 (by decide) (nl_4 hK) hv dX1_readThing_4 kk) (fun z_2 e_3 rz_2 lz_2 uz_2 => ?_)
    refine th_calli (va_runS (As := [.int (I z_2)]) (rest := []) ⟨hx, hb, hml, hown, hts⟩ (r6_canBegin l G y b0 σ E hO z_2 (show rng z_2 from rz_2)) (va_cwS 1 hts gX1_readThing_X1_canBegin rfl rfl rfl (by decide +kernel) ⟨(by first | (simp only [headSpec]; omega) | omega | (dsimp only; omega)), (by first | (simp only [headSpec]; omega) | omega | (dsimp only; omega))⟩) (th_PS hK hH) rfl rfl hl.1 rfl (lv_room (Nat.le_of_ble_eq_true rfl)) dX1_readThing_7 ⟨(by first | (simp only [headSpec]; omega) | omega | (dsimp only; omega)), (by first | (simp only [headSpec]; omega) | omega | (dsimp only; omega))⟩) hS (fun z_6 σ_s_5 H locs rz_6 hw_4 hH hS => ?_)
    obtain ⟨e9, bhw_4, hw_4⟩ := hw_4
    replace e9 := e9.symm
    subst e9
    replace hw_4 : (z_6 = 1 ∧ (z_2 = 45 ∨ z_2 = 257 ∨ z_2 = 256 ∨ z_2 = 91 ∨ z_2 = 123)) ∨ (z_6 = 0 ∧ ¬ (z_2 = 45 ∨ z_2 = 257 ∨ z_2 = 256 ∨ z_2 = 91 ∨ z_2 = 123)) := hw_4
    refine lv_if_ne (tgt := 24) hx hb dX1_readThing_10 (by decide) (fun c_7 => ?_) (fun c_7 => ?_)
    · replace c_7 := mt (I_eq (a := z_6) (b := 0) rz_6 (show rng 0 from ⟨by decide, by decide⟩)).mpr c_7
      have h0_8 : fc = 0 := by omega
      have hp_9 := hT0.2.2.2.2.2.2.1 h0_8
      have hp_9j := And.intro hT0.2.2.1 (And.intro hT0.2.2.2.1 (And.intro hT0.2.2.2.2.1 hT0.2.2.2.2.2.1))
      clear hU0
      refine lv_aload_n hx hb dX1_readThing_24 rfl (lv_at hl 1 rfl) ?_
      refine ok.getIc hO h_b (by decide) k1_4 eb40 (fun _ _ he hv kk => th_getN (ci := 9) (C := RX9) (T := TX9) (N := 5) hx hb hts inX9 hown hK hH he rfl 4 (by decide) (nl_10 hK) hv dX1_readThing_25 kk) ?_
      refine lv_bipush (v := I 60) hx hb dX1_readThing_28 (by decide) ?_
      refine lv_icmp_ge (tgt := 39) hx hb dX1_readThing_30 (by decide) (fun c_10 => ?_) (fun c_10 => ?_)
      · replace c_10 := (I_le (a := 60) (b := b40) (show rng 60 from ⟨by decide, by decide⟩) rb40).mp c_10
        refine lv_aload_n hx hb dX1_readThing_39 rfl (lv_at hl 0 rfl) ?_
        refine ok.getR hO h_a (by decide) k10_0 (by decide) (fun _ _ he hv kk => th_get (ci := 1) (C := RX1) (T := TX1) (N := 1) hx hb hts inX1 hown hK hH he rfl 0 (by decide) fl0 hv dX1_readThing_40 kk) ?_
        refine lv_iconst (v := I 2) hx hb dX1_readThing_43 (by decide) ?_
        obtain ⟨_, hc_11⟩ := hO.cell hp_1 (by decide) (ci := 8) rfl
        refine th_callv (va_runV (As := [.int (I 2)]) (rest := []) ⟨hx, hb, hml, hown, hts⟩ (f_fail l G y b0 σ E hO (ad E a 0) hp_1 2 (show rng 2 from (show rng 2 from ⟨by decide, by decide⟩)) T fc jt hT0 (by omega)) (cwV 1 hts gX1_readThing_X8_fail rfl rfl rfl (by decide +kernel) ⟨(by first | (simp only [headSpec]; omega) | omega | (dsimp only; omega)), (by first | (simp only [headSpec]; omega) | omega | (dsimp only; omega))⟩) (th_PV hK hH rfl hc_11) rfl rfl hl.1 rfl (lv_room (Nat.le_of_ble_eq_true rfl)) dX1_readThing_44 ⟨(by first | (simp only [headSpec]; omega) | omega | (dsimp only; omega)), (by first | (simp only [headSpec]; omega) | omega | (dsimp only; omega))⟩) hS (fun σ_s_13 H locs hw_12 hH hS => ?_)
        obtain ⟨hO9, hF9, hw_12⟩ := hw_12
        have e_14 : gI σ_s_13 b 4 = b40 := (fr.ki hO hF9 h_b (by decide) (by decide) _).trans eb40
        have hk_15 := fun (h9 : True) => rb.mv hO hF9 h_b (by decide) (hrb0 h9)
        replace hO := hO9
        replace hF := hF.tu hF9 (by decide)
        replace hw_12 : ∃ c1 j1, TSt E σ_s_13 (ad E a 0) T c1 j1 ∧ j1 = jt ∧ (fc = 0 → c1 = 2) ∧ (fc ≠ 0 → c1 = fc) := hw_12
        obtain ⟨cc_16, jj_17, hT_18, hw_12⟩ := hw_12
        have hUhT_18 := hT_18.2.2
        refine lv_goto (tgt := 143) hx hb dX1_readThing_47 (by decide) ?_
        exact th_vret hx hb hr hlocks hH hS ⟨hO, hF, ⟨cc_16, jj_17, hT_18, by omega, fun hc9 => ⟨(by first | exact PTh.no (by unfold beg; omega) (by omega) (by omega) | exact PTh.much (by unfold beg; omega) (by omega) (by omega) (by omega)), fun h9 => absurd h9 (by omega)⟩⟩⟩ dX1_readThing_143
      · replace c_10 := mt (I_le (a := 60) (b := b40) (show rng 60 from ⟨by decide, by decide⟩) rb40).mpr c_10
        refine lv_iload_n hx hb dX1_readThing_33 rfl (lv_at hl 2 rfl) ?_
        refine lv_bipush (v := I 7) hx hb dX1_readThing_34 (by decide) ?_
        refine lv_icmp_le (tgt := 50) hx hb dX1_readThing_36 (by decide) (fun c_19 => ?_) (fun c_19 => ?_)
        · replace c_19 := (I_le (a := dp) (b := 7) rdp (show rng 7 from ⟨by decide, by decide⟩)).mp c_19
          refine lv_aload_n hx hb dX1_readThing_50 rfl (lv_at hl 0 rfl) ?_
          refine ok.getR hO h_a (by decide) k10_0 (by decide) (fun _ _ he hv kk => th_get (ci := 1) (C := RX1) (T := TX1) (N := 1) hx hb hts inX1 hown hK hH he rfl 0 (by decide) fl0 hv dX1_readThing_51 kk) ?_
          refine ok.getIc hO hp_1 (by decide) k3_6 e_3 (fun _ _ he hv kk => th_getN (ci := 8) (C := RX8) (T := TX8) (N := 9) hx hb hts inX8 hown hK hH he rfl 6 (by decide) (nl_4 hK) hv dX1_readThing_54 kk) ?_
          refine lv_bipush (v := I 91) hx hb dX1_readThing_57 (by decide) ?_
          refine lv_icmp_ne (tgt := 72) hx hb dX1_readThing_59 (by decide) (fun c_20 => ?_) (fun c_20 => ?_)
          · replace c_20 := mt (I_eq (a := z_2) (b := 91) rz_2 (show rng 91 from ⟨by decide, by decide⟩)).mpr c_20
            refine lv_aload_n hx hb dX1_readThing_72 rfl (lv_at hl 0 rfl) ?_
            refine ok.getR hO h_a (by decide) k10_0 (by decide) (fun _ _ he hv kk => th_get (ci := 1) (C := RX1) (T := TX1) (N := 1) hx hb hts inX1 hown hK hH he rfl 0 (by decide) fl0 hv dX1_readThing_73 kk) ?_
            refine ok.getIc hO hp_1 (by decide) k3_6 e_3 (fun _ _ he hv kk => th_getN (ci := 8) (C := RX8) (T := TX8) (N := 9) hx hb hts inX8 hown hK hH he rfl 6 (by decide) (nl_4 hK) hv dX1_readThing_76 kk) ?_
            refine lv_bipush (v := I 123) hx hb dX1_readThing_79 (by decide) ?_
            refine lv_icmp_ne (tgt := 94) hx hb dX1_readThing_81 (by decide) (fun c_21 => ?_) (fun c_21 => ?_)
            · replace c_21 := mt (I_eq (a := z_2) (b := 123) rz_2 (show rng 123 from ⟨by decide, by decide⟩)).mpr c_21
              refine lv_aload_n hx hb dX1_readThing_94 rfl (lv_at hl 0 rfl) ?_
              refine ok.getR hO h_a (by decide) k10_0 (by decide) (fun _ _ he hv kk => th_get (ci := 1) (C := RX1) (T := TX1) (N := 1) hx hb hts inX1 hown hK hH he rfl 0 (by decide) fl0 hv dX1_readThing_95 kk) ?_
              refine ok.getIc hO hp_1 (by decide) k3_6 e_3 (fun _ _ he hv kk => th_getN (ci := 8) (C := RX8) (T := TX8) (N := 9) hx hb hts inX8 hown hK hH he rfl 6 (by decide) (nl_4 hK) hv dX1_readThing_98 kk) ?_
              refine lv_sipush (v := I 256) hx hb dX1_readThing_101 (by decide) ?_
              refine lv_icmp_ne (tgt := 128) hx hb dX1_readThing_104 (by decide) (fun c_22 => ?_) (fun c_22 => ?_)
              · replace c_22 := mt (I_eq (a := z_2) (b := 256) rz_2 (show rng 256 from ⟨by decide, by decide⟩)).mpr c_22
                refine lv_aload_n hx hb dX1_readThing_128 rfl (lv_at hl 1 rfl) ?_
                refine lv_iconst (v := I 0) hx hb dX1_readThing_129 (by decide) ?_
                refine lv_aload_n hx hb dX1_readThing_130 rfl (lv_at hl 0 rfl) ?_
                refine ok.getR hO h_a (by decide) k10_0 (by decide) (fun _ _ he hv kk => th_get (ci := 1) (C := RX1) (T := TX1) (N := 1) hx hb hts inX1 hown hK hH he rfl 0 (by decide) fl0 hv dX1_readThing_131 kk) ?_
                obtain ⟨_, hc_23⟩ := hO.cell hp_1 (by decide) (ci := 8) rfl
                refine th_calli (va_runV (As := []) (rest := [.int (I 0), .ref b]) ⟨hx, hb, hml, hown, hts⟩ (f_number l G y b0 σ E hO (ad E a 0) hp_1 T fc jt hT0) (cwV 0 hts gX1_readThing_X8_takeNumber rfl rfl rfl (by decide +kernel) ⟨(by first | (simp only [headSpec]; omega) | omega | (dsimp only; omega)), (by first | (simp only [headSpec]; omega) | omega | (dsimp only; omega))⟩) (th_PV hK hH rfl hc_23) rfl rfl hl.1 rfl (lv_room (Nat.le_of_ble_eq_true rfl)) dX1_readThing_134 ⟨(by first | (simp only [headSpec]; omega) | omega | (dsimp only; omega)), (by first | (simp only [headSpec]; omega) | omega | (dsimp only; omega))⟩) hS (fun z_26 σ_s_25 H locs rz_26 hw_24 hH hS => ?_)
                obtain ⟨hO9, hF9, hw_24⟩ := hw_24
                have e_27 : gI σ_s_25 b 4 = b40 := (fr.ki hO hF9 h_b (by decide) (by decide) _).trans eb40
                have hk_28 := fun (h9 : True) => rb.mv hO hF9 h_b (by decide) (hrb0 h9)
                replace hO := hO9
                replace hF := hF.tu hF9 (by decide)
                replace hw_24 : ∃ c1 j1, TSt E σ_s_25 (ad E a 0) T c1 j1 ∧ (fc ≠ 0 → c1 = fc ∧ j1 = jt) ∧ (fc = 0 → nuR T jt c1 j1) := hw_24
                obtain ⟨cc_29, jj_30, hT_31, hw_24⟩ := hw_24
                have hUhT_31 := hT_31.2.2
                refine lv_iload_n hx hb dX1_readThing_137 rfl (lv_at hl 3 rfl) ?_
                refine lv_iload_n hx hb dX1_readThing_138 rfl (lv_at hl 2 rfl) ?_
                obtain ⟨_, hc_32⟩ := hO.cell h_b (by decide) (ci := 9) rfl
                refine th_calli (va_runV (As := [.int (I 0), .int (I z_26), .int (I ky), .int (I dp)]) (rest := []) ⟨hx, hb, hml, hown, hts⟩ (t6_add l G y b0 σ_s_25 E hO b h_b 0 (show rng 0 from (show rng 0 from ⟨by decide, by decide⟩)) z_26 (show rng z_26 from rz_26) ky (show rng ky from rky) dp (show rng dp from rdp) (by omega) (by omega)) (cwV 4 hts gX1_readThing_X9_addThing rfl rfl rfl (by decide +kernel) ⟨(by first | (simp only [headSpec]; omega) | omega | (dsimp only; omega)), (by first | (simp only [headSpec]; omega) | omega | (dsimp only; omega))⟩) (th_PV hK hH rfl hc_32) rfl rfl hl.1 rfl (lv_room (Nat.le_of_ble_eq_true rfl)) dX1_readThing_139 ⟨(by first | (simp only [headSpec]; omega) | omega | (dsimp only; omega)), (by first | (simp only [headSpec]; omega) | omega | (dsimp only; omega))⟩) hS (fun z_35 σ_s_34 H locs rz_35 hw_33 hH hS => ?_)
                obtain ⟨hO9, hF9, hw_33⟩ := hw_33
                have hT_36 : TSt E σ_s_34 (ad E a 0) T cc_29 jj_30 := TSt.mv hO hF9 hkt (by decide) hT_31
                have hUhT_36 := hT_36.2.2
                replace hO := hO9
                replace hF := hF.tu hF9 (by decide)
                replace hw_33 : z_35 = gI σ_s_25 b 4 ∧ gI σ_s_34 b 4 = gI σ_s_25 b 4 + 1 ∧ gr E σ_s_25 σ_s_34 b (gI σ_s_25 b 4) dp ky ∧ nE E σ_s_34 b (gI σ_s_25 b 4) = 0 := hw_33
                refine lv_pop hx hb dX1_readThing_142 rfl ?_
                exact th_vret hx hb hr hlocks hH hS ⟨hO, hF, ⟨cc_29, jj_30, hT_36, fun h9 => absurd h9 (by omega), fun _ => ⟨PIt.numC (by omega) (by omega) (hw_24.2 (by omega)) (by omega), fun h9 => ⟨(nuR_lt (hw_24.2 (by omega)) (by omega)), gr.pre (hk_28 trivial) hw_33.2.2.1⟩⟩⟩⟩ dX1_readThing_143
              · replace c_22 := (I_eq (a := z_2) (b := 256) rz_2 (show rng 256 from ⟨by decide, by decide⟩)).mp c_22
                refine lv_aload_n hx hb dX1_readThing_107 rfl (lv_at hl 1 rfl) ?_
                refine lv_iconst (v := I 1) hx hb dX1_readThing_108 (by decide) ?_
                refine lv_aload_n hx hb dX1_readThing_109 rfl (lv_at hl 0 rfl) ?_
                refine ok.getR hO h_a (by decide) k10_0 (by decide) (fun _ _ he hv kk => th_get (ci := 1) (C := RX1) (T := TX1) (N := 1) hx hb hts inX1 hown hK hH he rfl 0 (by decide) fl0 hv dX1_readThing_110 kk) ?_
                obtain ⟨_, hc_37⟩ := hO.cell hp_1 (by decide) (ci := 8) rfl
                refine th_calli (va_runV (As := []) (rest := [.int (I 1), .ref b]) ⟨hx, hb, hml, hown, hts⟩ (f_letters l G y b0 σ E hO (ad E a 0) hp_1 T fc jt hT0) (cwV 0 hts gX1_readThing_X8_takeLetters rfl rfl rfl (by decide +kernel) ⟨(by first | (simp only [headSpec]; omega) | omega | (dsimp only; omega)), (by first | (simp only [headSpec]; omega) | omega | (dsimp only; omega))⟩) (th_PV hK hH rfl hc_37) rfl rfl hl.1 rfl (lv_room (Nat.le_of_ble_eq_true rfl)) dX1_readThing_113 ⟨(by first | (simp only [headSpec]; omega) | omega | (dsimp only; omega)), (by first | (simp only [headSpec]; omega) | omega | (dsimp only; omega))⟩) hS (fun z_40 σ_s_39 H locs rz_40 hw_38 hH hS => ?_)
                obtain ⟨hO9, hF9, hw_38⟩ := hw_38
                have e_41 : gI σ_s_39 b 4 = b40 := (fr.ki hO hF9 h_b (by decide) (by decide) _).trans eb40
                have hk_42 := fun (h9 : True) => rb.mv hO hF9 h_b (by decide) (hrb0 h9)
                replace hO := hO9
                replace hF := hF.tu hF9 (by decide)
                replace hw_38 : ∃ c1 j1, TSt E σ_s_39 (ad E a 0) T c1 j1 ∧ (fc ≠ 0 → c1 = fc ∧ j1 = jt) ∧ (fc = 0 → (tK T jt ≠ 256 ∧ c1 = 1 ∧ j1 = jt) ∨ (tK T jt = 256 ∧ 6 < tL T jt ∧ c1 = 2 ∧ j1 = jt) ∨ (tK T jt = 256 ∧ tL T jt ≤ 6 ∧ c1 = 0 ∧ j1 = jt + 1 ∧ z_40 = tV T jt)) := hw_38
                obtain ⟨cc_43, jj_44, hT_45, hw_38⟩ := hw_38
                have hUhT_45 := hT_45.2.2
                refine th_calli (va_runSN (As := [.int (I z_40)]) (rest := [.int (I 1), .ref b]) ⟨hx, hb, hml, hown, hts⟩ (n_first l G y b0 σ_s_39 E hO z_40 (show rng z_40 from rz_40)) ⟨(va_cnB 1 hts gX1_readThing_X10_firstLetterHighest_n58 rfl rfl rfl (ml_11 hK) fl1 (by decide +kernel) ⟨(by first | (simp only [headSpec]; omega) | omega | (dsimp only; omega)), (by first | (simp only [headSpec]; omega) | omega | (dsimp only; omega))⟩), fl2, trivial⟩ (th_PS hK hH) rfl rfl hl.1 rfl (lv_room (Nat.le_of_ble_eq_true rfl)) dX1_readThing_116 ⟨(by first | (simp only [headSpec]; omega) | omega | (dsimp only; omega)), (by first | (simp only [headSpec]; omega) | omega | (dsimp only; omega))⟩) hS (fun z_48 σ_s_47 H locs rz_48 hw_46 hH hS => ?_)
                obtain ⟨e9, hw_46⟩ := hw_46
                replace e9 := e9.symm
                subst e9
                refine lv_iload_n hx hb dX1_readThing_119 rfl (lv_at hl 3 rfl) ?_
                refine lv_iload_n hx hb dX1_readThing_120 rfl (lv_at hl 2 rfl) ?_
                obtain ⟨_, hc_49⟩ := hO.cell h_b (by decide) (ci := 9) rfl
                refine th_calli (va_runV (As := [.int (I 1), .int (I z_48), .int (I ky), .int (I dp)]) (rest := []) ⟨hx, hb, hml, hown, hts⟩ (t6_add l G y b0 σ_s_39 E hO b h_b 1 (show rng 1 from (show rng 1 from ⟨by decide, by decide⟩)) z_48 (show rng z_48 from rz_48) ky (show rng ky from rky) dp (show rng dp from rdp) (by omega) (by omega)) (cwV 4 hts gX1_readThing_X9_addThing rfl rfl rfl (by decide +kernel) ⟨(by first | (simp only [headSpec]; omega) | omega | (dsimp only; omega)), (by first | (simp only [headSpec]; omega) | omega | (dsimp only; omega))⟩) (th_PV hK hH rfl hc_49) rfl rfl hl.1 rfl (lv_room (Nat.le_of_ble_eq_true rfl)) dX1_readThing_121 ⟨(by first | (simp only [headSpec]; omega) | omega | (dsimp only; omega)), (by first | (simp only [headSpec]; omega) | omega | (dsimp only; omega))⟩) hS (fun z_52 σ_s_51 H locs rz_52 hw_50 hH hS => ?_)
                obtain ⟨hO9, hF9, hw_50⟩ := hw_50
                have hT_53 : TSt E σ_s_51 (ad E a 0) T cc_43 jj_44 := TSt.mv hO hF9 hkt (by decide) hT_45
                have hUhT_53 := hT_53.2.2
                replace hO := hO9
                replace hF := hF.tu hF9 (by decide)
                replace hw_50 : z_52 = gI σ_s_39 b 4 ∧ gI σ_s_51 b 4 = gI σ_s_39 b 4 + 1 ∧ gr E σ_s_39 σ_s_51 b (gI σ_s_39 b 4) dp ky ∧ nE E σ_s_51 b (gI σ_s_39 b 4) = 1 := hw_50
                refine lv_pop hx hb dX1_readThing_124 rfl ?_
                refine lv_goto (tgt := 143) hx hb dX1_readThing_125 (by decide) ?_
                exact th_vret hx hb hr hlocks hH hS ⟨hO, hF, ⟨cc_43, jj_44, hT_53, fun h9 => absurd h9 (by omega), fun _ => ⟨PIt.wordC (by omega) (by omega) (by omega) (by omega), fun h9 => ⟨(by omega), gr.pre (hk_42 trivial) hw_50.2.2.1⟩⟩⟩⟩ dX1_readThing_143
            · replace c_21 := (I_eq (a := z_2) (b := 123) rz_2 (show rng 123 from ⟨by decide, by decide⟩)).mp c_21
              refine lv_aload_n hx hb dX1_readThing_84 rfl (lv_at hl 0 rfl) ?_
              refine lv_aload_n hx hb dX1_readThing_85 rfl (lv_at hl 1 rfl) ?_
              refine lv_iload_n hx hb dX1_readThing_86 rfl (lv_at hl 2 rfl) ?_
              refine lv_iload_n hx hb dX1_readThing_87 rfl (lv_at hl 3 rfl) ?_
              obtain ⟨_, hc_54⟩ := hO.cell h_a (by decide) (ci := 1) rfl
              refine th_callv (va_runV (As := [.ref b, .int (I dp), .int (I ky)]) (rest := []) ⟨hx, hb, hml, hown, hts⟩ (r6_readMap n ih l G y b0 σ E hO a h_a b h_b dp (show rng dp from rdp) (by omega) (by omega) ky (show rng ky from rky) T fc jt hT0 (by omega) (by omega) (by omega) (by omega)) (cwV 3 hts gX1_readThing_X1_readMap rfl rfl rfl (by decide +kernel) ⟨(by first | (simp only [headSpec]; omega) | omega | (dsimp only; omega)), (by first | (simp only [headSpec]; omega) | omega | (dsimp only; omega))⟩) (th_PV hK hH rfl hc_54) rfl rfl hl.1 rfl (lv_room (Nat.le_of_ble_eq_true rfl)) dX1_readThing_88 ⟨(by first | (simp only [headSpec]; omega) | omega | (dsimp only; omega)), (by first | (simp only [headSpec]; omega) | omega | (dsimp only; omega))⟩) hS (fun σ_s_56 H locs hw_55 hH hS => ?_)
              obtain ⟨hO9, hF9, hw_55⟩ := hw_55
              replace hO := hO9
              replace hF := hF.tu hF9 (by decide)
              replace hw_55 : ∃ c1 j1, TSt E σ_s_56 (ad E a 0) T c1 j1 ∧ PTh T dp jt (gI σ b 4) c1 j1 (gI σ_s_56 b 4) ∧ (c1 = 0 → jt < j1 ∧ gr E σ σ_s_56 b (gI σ b 4) dp ky) := hw_55
              obtain ⟨cc_57, jj_58, hT_59, hw_55⟩ := hw_55
              have hUhT_59 := hT_59.2.2
              refine lv_goto (tgt := 143) hx hb dX1_readThing_91 (by decide) ?_
              exact th_vret hx hb hr hlocks hH hS ⟨hO, hF, ⟨cc_57, jj_58, hT_59, fun h9 => absurd h9 (by omega), fun _ => hw_55⟩⟩ dX1_readThing_143
          · replace c_20 := (I_eq (a := z_2) (b := 91) rz_2 (show rng 91 from ⟨by decide, by decide⟩)).mp c_20
            refine lv_aload_n hx hb dX1_readThing_62 rfl (lv_at hl 0 rfl) ?_
            refine lv_aload_n hx hb dX1_readThing_63 rfl (lv_at hl 1 rfl) ?_
            refine lv_iload_n hx hb dX1_readThing_64 rfl (lv_at hl 2 rfl) ?_
            refine lv_iload_n hx hb dX1_readThing_65 rfl (lv_at hl 3 rfl) ?_
            obtain ⟨_, hc_60⟩ := hO.cell h_a (by decide) (ci := 1) rfl
            refine th_callv (va_runV (As := [.ref b, .int (I dp), .int (I ky)]) (rest := []) ⟨hx, hb, hml, hown, hts⟩ (r6_readList n ih l G y b0 σ E hO a h_a b h_b dp (show rng dp from rdp) (by omega) (by omega) ky (show rng ky from rky) T fc jt hT0 (by omega) (by omega) (by omega) (by omega)) (cwV 3 hts gX1_readThing_X1_readList rfl rfl rfl (by decide +kernel) ⟨(by first | (simp only [headSpec]; omega) | omega | (dsimp only; omega)), (by first | (simp only [headSpec]; omega) | omega | (dsimp only; omega))⟩) (th_PV hK hH rfl hc_60) rfl rfl hl.1 rfl (lv_room (Nat.le_of_ble_eq_true rfl)) dX1_readThing_66 ⟨(by first | (simp only [headSpec]; omega) | omega | (dsimp only; omega)), (by first | (simp only [headSpec]; omega) | omega | (dsimp only; omega))⟩) hS (fun σ_s_62 H locs hw_61 hH hS => ?_)
            obtain ⟨hO9, hF9, hw_61⟩ := hw_61
            replace hO := hO9
            replace hF := hF.tu hF9 (by decide)
            replace hw_61 : ∃ c1 j1, TSt E σ_s_62 (ad E a 0) T c1 j1 ∧ PTh T dp jt (gI σ b 4) c1 j1 (gI σ_s_62 b 4) ∧ (c1 = 0 → jt < j1 ∧ gr E σ σ_s_62 b (gI σ b 4) dp ky) := hw_61
            obtain ⟨cc_63, jj_64, hT_65, hw_61⟩ := hw_61
            have hUhT_65 := hT_65.2.2
            refine lv_goto (tgt := 143) hx hb dX1_readThing_69 (by decide) ?_
            exact th_vret hx hb hr hlocks hH hS ⟨hO, hF, ⟨cc_63, jj_64, hT_65, fun h9 => absurd h9 (by omega), fun _ => hw_61⟩⟩ dX1_readThing_143
        · replace c_19 := mt (I_le (a := dp) (b := 7) rdp (show rng 7 from ⟨by decide, by decide⟩)).mpr c_19
          refine lv_aload_n hx hb dX1_readThing_39 rfl (lv_at hl 0 rfl) ?_
          refine ok.getR hO h_a (by decide) k10_0 (by decide) (fun _ _ he hv kk => th_get (ci := 1) (C := RX1) (T := TX1) (N := 1) hx hb hts inX1 hown hK hH he rfl 0 (by decide) fl0 hv dX1_readThing_40 kk) ?_
          refine lv_iconst (v := I 2) hx hb dX1_readThing_43 (by decide) ?_
          obtain ⟨_, hc_66⟩ := hO.cell hp_1 (by decide) (ci := 8) rfl
          refine th_callv (va_runV (As := [.int (I 2)]) (rest := []) ⟨hx, hb, hml, hown, hts⟩ (f_fail l G y b0 σ E hO (ad E a 0) hp_1 2 (show rng 2 from (show rng 2 from ⟨by decide, by decide⟩)) T fc jt hT0 (by omega)) (cwV 1 hts gX1_readThing_X8_fail rfl rfl rfl (by decide +kernel) ⟨(by first | (simp only [headSpec]; omega) | omega | (dsimp only; omega)), (by first | (simp only [headSpec]; omega) | omega | (dsimp only; omega))⟩) (th_PV hK hH rfl hc_66) rfl rfl hl.1 rfl (lv_room (Nat.le_of_ble_eq_true rfl)) dX1_readThing_44 ⟨(by first | (simp only [headSpec]; omega) | omega | (dsimp only; omega)), (by first | (simp only [headSpec]; omega) | omega | (dsimp only; omega))⟩) hS (fun σ_s_68 H locs hw_67 hH hS => ?_)
          obtain ⟨hO9, hF9, hw_67⟩ := hw_67
          have e_69 : gI σ_s_68 b 4 = b40 := (fr.ki hO hF9 h_b (by decide) (by decide) _).trans eb40
          have hk_70 := fun (h9 : True) => rb.mv hO hF9 h_b (by decide) (hrb0 h9)
          replace hO := hO9
          replace hF := hF.tu hF9 (by decide)
          replace hw_67 : ∃ c1 j1, TSt E σ_s_68 (ad E a 0) T c1 j1 ∧ j1 = jt ∧ (fc = 0 → c1 = 2) ∧ (fc ≠ 0 → c1 = fc) := hw_67
          obtain ⟨cc_71, jj_72, hT_73, hw_67⟩ := hw_67
          have hUhT_73 := hT_73.2.2
          refine lv_goto (tgt := 143) hx hb dX1_readThing_47 (by decide) ?_
          exact th_vret hx hb hr hlocks hH hS ⟨hO, hF, ⟨cc_71, jj_72, hT_73, by omega, fun hc9 => ⟨(by first | exact PTh.no (by unfold beg; omega) (by omega) (by omega) | exact PTh.much (by unfold beg; omega) (by omega) (by omega) (by omega)), fun h9 => absurd h9 (by omega)⟩⟩⟩ dX1_readThing_143
    · replace c_7 := (I_eq (a := z_6) (b := 0) rz_6 (show rng 0 from ⟨by decide, by decide⟩)).mp c_7
      refine lv_aload_n hx hb dX1_readThing_13 rfl (lv_at hl 0 rfl) ?_
      refine ok.getR hO h_a (by decide) k10_0 (by decide) (fun _ _ he hv kk => th_get (ci := 1) (C := RX1) (T := TX1) (N := 1) hx hb hts inX1 hown hK hH he rfl 0 (by decide) fl0 hv dX1_readThing_14 kk) ?_
      refine lv_iconst (v := I 1) hx hb dX1_readThing_17 (by decide) ?_
      obtain ⟨_, hc_74⟩ := hO.cell hp_1 (by decide) (ci := 8) rfl
      refine th_callv (va_runV (As := [.int (I 1)]) (rest := []) ⟨hx, hb, hml, hown, hts⟩ (f_fail l G y b0 σ E hO (ad E a 0) hp_1 1 (show rng 1 from (show rng 1 from ⟨by decide, by decide⟩)) T fc jt hT0 (by omega)) (cwV 1 hts gX1_readThing_X8_fail rfl rfl rfl (by decide +kernel) ⟨(by first | (simp only [headSpec]; omega) | omega | (dsimp only; omega)), (by first | (simp only [headSpec]; omega) | omega | (dsimp only; omega))⟩) (th_PV hK hH rfl hc_74) rfl rfl hl.1 rfl (lv_room (Nat.le_of_ble_eq_true rfl)) dX1_readThing_18 ⟨(by first | (simp only [headSpec]; omega) | omega | (dsimp only; omega)), (by first | (simp only [headSpec]; omega) | omega | (dsimp only; omega))⟩) hS (fun σ_s_76 H locs hw_75 hH hS => ?_)
      obtain ⟨hO9, hF9, hw_75⟩ := hw_75
      have e_77 : gI σ_s_76 b 4 = b40 := (fr.ki hO hF9 h_b (by decide) (by decide) _).trans eb40
      have hk_78 := fun (h9 : True) => rb.mv hO hF9 h_b (by decide) (hrb0 h9)
      replace hO := hO9
      replace hF := hF.tu hF9 (by decide)
      replace hw_75 : ∃ c1 j1, TSt E σ_s_76 (ad E a 0) T c1 j1 ∧ j1 = jt ∧ (fc = 0 → c1 = 1) ∧ (fc ≠ 0 → c1 = fc) := hw_75
      obtain ⟨cc_79, jj_80, hT_81, hw_75⟩ := hw_75
      have hUhT_81 := hT_81.2.2
      refine lv_goto (tgt := 143) hx hb dX1_readThing_21 (by decide) ?_
      exact th_vret hx hb hr hlocks hH hS ⟨hO, hF, ⟨cc_79, jj_80, hT_81, by omega, fun hc9 => ⟨(by first | exact PTh.no (by unfold beg; omega) (by omega) (by omega) | exact PTh.much (by unfold beg; omega) (by omega) (by omega) (by omega)), fun h9 => absurd h9 (by omega)⟩⟩⟩ dX1_readThing_143
