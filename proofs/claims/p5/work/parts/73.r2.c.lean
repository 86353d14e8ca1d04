set_option maxHeartbeats 4000000 in
set_option maxRecDepth 100000 in
theorem t6_add (l : Launch) (G : va_G) (y : Nat → ClassId) (b0 : Nat) (σ : th_M) (E : th_E) (hO : ok y E σ) (b : Nat) (h_b : kd E b = 1) (x : Int) (rx : rng x) (v : Int) (rv : rng v) (u : Int) (ru : rng u) (dp : Int) (rdp : rng dp) (u_dp : dp ≤ 7) (hy0 : gI σ b 4 < 60) : Met l yX9_addThing wsX9_addThing ({ frames := 0, cells := 0, slots := 0, locals := 0 }) (th_P G y b0 σ [.ref b, .int (I x), .int (I v), .int (I u), .int (I dp)]) (th_Qi G b0 (fun r σ1 => ok y E σ1 ∧ fr [1] E σ σ1 ∧ (r = gI σ b 4 ∧ gI σ1 b 4 = gI σ b 4 + 1 ∧ gr E σ σ1 b (gI σ b 4) dp u ∧ nE E σ1 b (gI σ b 4) = x))) 0 0 (th_A b0) := by
  refine Met.ofW (cc := cX9_addThing) (maxL := 5) (ret := (some .int)) (by decide) rfl ?_
  intro p e s m args below meth c s₁ B hml hv
  obtain ⟨rfl, hH, hK⟩ := hv
  have hx := B.exec
  have hb := B.bytes
  have hr := B.returns
  have hts := atoms_spec (ws := wsX9_addThing) B.pre
  have hown : s.vm.findClass RX9 = some m.cls := findClass_of_methodNamed B.named
  have hlocks := B.notSynchronized
  have h00 : b0 ≤ s.heap.size := hH.1
  have hS : va_S (th_A b0) s.heap s.heap [] := va_S.rf
  have hF : fr [1] E σ σ := fr.rf
  have inX9 : ∀ w ∈ wsX90, w ∈ wsX9_addThing := by decide +kernel
  have fl0 := hts (.fieldLink RX9 24 "NestQuery$Tree" "size" "I") (by decide +kernel)
  have fl1 := hts (.fieldLink RX9 9 "NestQuery$Tree" "kinds" "[I") (by decide +kernel)
  have fl2 := hts (.fieldLink RX9 15 "NestQuery$Tree" "values" "[I") (by decide +kernel)
  have fl3 := hts (.fieldLink RX9 18 "NestQuery$Tree" "keys" "[I") (by decide +kernel)
  have fl4 := hts (.fieldLink RX9 21 "NestQuery$Tree" "depths" "[I") (by decide +kernel)
  have hl := lv_entry ([.ref b, .int (I x), .int (I v), .int (I u), .int (I dp)]) (n := 5) (Nat.le_of_ble_eq_true rfl)
  rw [lg_entry_eq]
  generalize (lg_sl ([.ref b, .int (I x), .int (I v), .int (I u), .int (I dp)]) ++ List.replicate (5 - (lg_sl ([.ref b, .int (I x), .int (I v), .int (I u), .int (I dp)])).length) Slot.unset).toArray = ls at hl ⊢
  have hl : lv_has ls 5 [(0, .ref b), (1, .int (I x)), (2, .int (I v)), (3, .int (I u)), (4, .int (I dp))] := hl
  obtain ⟨b40, eb40, rb40, lb40, ub40⟩ := hO.gi h_b (by decide) k1_4
  obtain ⟨f_1, ef_2⟩ : ∃ f9, aF σ (ad E b 0) = f9 := ⟨_, rfl⟩
  have he0 := ef_2
  obtain ⟨f_3, ef_4⟩ : ∃ f9, aF σ (ad E b 2) = f9 := ⟨_, rfl⟩
  have he2 := ef_4
  obtain ⟨f_5, ef_6⟩ : ∃ f9, aF σ (ad E b 3) = f9 := ⟨_, rfl⟩
  have he3 := ef_6
  refine lv_aload_n hx hb dX9_addThing_0 rfl (lv_at hl 0 rfl) ?_
  refine ok.getIc hO h_b (by decide) k1_4 eb40 (fun _ _ he hv kk => th_get (ci := 9) (C := RX9) (T := TX9) (N := 5) hx hb hts inX9 hown hK hH he rfl 4 (by decide) fl0 hv dX9_addThing_1 kk) ?_
  refine lv_if_lt (tgt := 19) hx hb dX9_addThing_4 (by decide) (fun c_7 => ?_) (fun c_7 => ?_)
  · replace c_7 := (I_lt (a := b40) (b := 0) rb40 (show rng 0 from ⟨by decide, by decide⟩)).mp c_7
    refine lv_iconst (v := I (-1)) hx hb dX9_addThing_19 (by decide) ?_
    exact th_iret hx hb hr hlocks hH hS (z := (-1)) (show rng (-1) from ⟨by decide, by decide⟩) ⟨hO, hF, ⟨by omega, by omega, by omega, by omega⟩⟩ dX9_addThing_20
  · replace c_7 := mt (I_lt (a := b40) (b := 0) rb40 (show rng 0 from ⟨by decide, by decide⟩)).mpr c_7
    refine lv_aload_n hx hb dX9_addThing_7 rfl (lv_at hl 0 rfl) ?_
    refine ok.getIc hO h_b (by decide) k1_4 eb40 (fun _ _ he hv kk => th_get (ci := 9) (C := RX9) (T := TX9) (N := 5) hx hb hts inX9 hown hK hH he rfl 4 (by decide) fl0 hv dX9_addThing_8 kk) ?_
    refine lv_aload_n hx hb dX9_addThing_11 rfl (lv_at hl 0 rfl) ?_
    refine ok.getR hO h_b (by decide) k1_0 (by decide) (fun _ _ he hv kk => th_get (ci := 9) (C := RX9) (T := TX9) (N := 5) hx hb hts inX9 hown hK hH he rfl 0 (by decide) fl1 hv dX9_addThing_12 kk) ?_
    refine ok_alen hx hb hK hH hO h_b (by decide) k1_0 isA1 (by decide) dX9_addThing_15 ?_
    refine lv_icmp_lt (tgt := 21) hx hb dX9_addThing_16 (by decide) (fun c_8 => ?_) (fun c_8 => ?_)
    · replace c_8 := (I_lt (a := b40) (b := 60) rb40 (show rng 60 from ⟨by decide, by decide⟩)).mp c_8
      refine lv_aload_n hx hb dX9_addThing_21 rfl (lv_at hl 0 rfl) ?_
      refine ok.getR hO h_b (by decide) k1_0 (by decide) (fun _ _ he hv kk => th_get (ci := 9) (C := RX9) (T := TX9) (N := 5) hx hb hts inX9 hown hK hH he rfl 0 (by decide) fl1 hv dX9_addThing_22 kk) ?_
      refine lv_aload_n hx hb dX9_addThing_25 rfl (lv_at hl 0 rfl) ?_
      refine ok.getIc hO h_b (by decide) k1_4 eb40 (fun _ _ he hv kk => th_get (ci := 9) (C := RX9) (T := TX9) (N := 5) hx hb hts inX9 hown hK hH he rfl 4 (by decide) fl0 hv dX9_addThing_26 kk) ?_
      refine lv_iload_n hx hb dX9_addThing_29 rfl (lv_at hl 1 rfl) ?_
      refine ok_iast hx hb hK hH hS h00 hO h_b (by decide) k1_0 isA1 rb40 (by omega) (by omega) rx el1 dX9_addThing_30 (fun σ_s_9 H locs hO hF9 hi9 ha9 hH hS => ?_)
      replace hF := hF.tu hF9 (by decide)
      have e_10 : gI σ_s_9 b 4 = b40 := (hi9 _ _).trans eb40
      have ef_11 : aF σ_s_9 (ad E b 2) = f_3 := (ha9.2 _ (ok.adq hO h_b (by decide) k1_2 isA1 k1_0 isA1 (by decide))).trans ef_4
      have ef_12 : aF σ_s_9 (ad E b 3) = f_5 := (ha9.2 _ (ok.adq hO h_b (by decide) k1_3 isA7 k1_0 isA1 (by decide))).trans ef_6
      obtain ⟨g_13, dg_13⟩ : ∃ g9, g9 = upd f_1 (b40).toNat (I x) := ⟨_, rfl⟩
      have ef_14 : aF σ_s_9 (ad E b 0) = g_13 := by rw [ha9.1, ef_2, dg_13]
      refine lv_aload_n hx hb dX9_addThing_31 rfl (lv_at hl 0 rfl) ?_
      refine ok.getR hO h_b (by decide) k1_1 (by decide) (fun _ _ he hv kk => th_get (ci := 9) (C := RX9) (T := TX9) (N := 5) hx hb hts inX9 hown hK hH he rfl 1 (by decide) fl2 hv dX9_addThing_32 kk) ?_
      refine lv_aload_n hx hb dX9_addThing_35 rfl (lv_at hl 0 rfl) ?_
      refine ok.getIc hO h_b (by decide) k1_4 e_10 (fun _ _ he hv kk => th_get (ci := 9) (C := RX9) (T := TX9) (N := 5) hx hb hts inX9 hown hK hH he rfl 4 (by decide) fl0 hv dX9_addThing_36 kk) ?_
      refine lv_iload_n hx hb dX9_addThing_39 rfl (lv_at hl 2 rfl) ?_
      refine ok_iast hx hb hK hH hS h00 hO h_b (by decide) k1_1 isA1 rb40 (by omega) (by omega) rv el1 dX9_addThing_40 (fun σ_s_15 H locs hO hF9 hi9 ha9 hH hS => ?_)
      replace hF := hF.tu hF9 (by decide)
      have e_16 : gI σ_s_15 b 4 = b40 := (hi9 _ _).trans e_10
      have ef_17 : aF σ_s_15 (ad E b 2) = f_3 := (ha9.2 _ (ok.adq hO h_b (by decide) k1_2 isA1 k1_1 isA1 (by decide))).trans ef_11
      have ef_18 : aF σ_s_15 (ad E b 3) = f_5 := (ha9.2 _ (ok.adq hO h_b (by decide) k1_3 isA7 k1_1 isA1 (by decide))).trans ef_12
      have ef_19 : aF σ_s_15 (ad E b 0) = g_13 := (ha9.2 _ (ok.adq hO h_b (by decide) k1_0 isA1 k1_1 isA1 (by decide))).trans ef_14
      refine lv_aload_n hx hb dX9_addThing_41 rfl (lv_at hl 0 rfl) ?_
      refine ok.getR hO h_b (by decide) k1_2 (by decide) (fun _ _ he hv kk => th_get (ci := 9) (C := RX9) (T := TX9) (N := 5) hx hb hts inX9 hown hK hH he rfl 2 (by decide) fl3 hv dX9_addThing_42 kk) ?_
      refine lv_aload_n hx hb dX9_addThing_45 rfl (lv_at hl 0 rfl) ?_
      refine ok.getIc hO h_b (by decide) k1_4 e_16 (fun _ _ he hv kk => th_get (ci := 9) (C := RX9) (T := TX9) (N := 5) hx hb hts inX9 hown hK hH he rfl 4 (by decide) fl0 hv dX9_addThing_46 kk) ?_
      refine lv_iload_n hx hb dX9_addThing_49 rfl (lv_at hl 3 rfl) ?_
      refine ok_iast hx hb hK hH hS h00 hO h_b (by decide) k1_2 isA1 rb40 (by omega) (by omega) ru el1 dX9_addThing_50 (fun σ_s_20 H locs hO hF9 hi9 ha9 hH hS => ?_)
      replace hF := hF.tu hF9 (by decide)
      have e_21 : gI σ_s_20 b 4 = b40 := (hi9 _ _).trans e_16
      have ef_22 : aF σ_s_20 (ad E b 3) = f_5 := (ha9.2 _ (ok.adq hO h_b (by decide) k1_3 isA7 k1_2 isA1 (by decide))).trans ef_18
      have ef_23 : aF σ_s_20 (ad E b 0) = g_13 := (ha9.2 _ (ok.adq hO h_b (by decide) k1_0 isA1 k1_2 isA1 (by decide))).trans ef_19
      obtain ⟨g_24, dg_24⟩ : ∃ g9, g9 = upd f_3 (b40).toNat (I u) := ⟨_, rfl⟩
      have ef_25 : aF σ_s_20 (ad E b 2) = g_24 := by rw [ha9.1, ef_17, dg_24]
      refine lv_aload_n hx hb dX9_addThing_51 rfl (lv_at hl 0 rfl) ?_
      refine ok.getR hO h_b (by decide) k1_3 (by decide) (fun _ _ he hv kk => th_get (ci := 9) (C := RX9) (T := TX9) (N := 5) hx hb hts inX9 hown hK hH he rfl 3 (by decide) fl4 hv dX9_addThing_52 kk) ?_
      refine lv_aload_n hx hb dX9_addThing_55 rfl (lv_at hl 0 rfl) ?_
      refine ok.getIc hO h_b (by decide) k1_4 e_21 (fun _ _ he hv kk => th_get (ci := 9) (C := RX9) (T := TX9) (N := 5) hx hb hts inX9 hown hK hH he rfl 4 (by decide) fl0 hv dX9_addThing_56 kk) ?_
      refine lv_iload hx hb dX9_addThing_59 (lv_at hl 4 rfl) ?_
      refine ok_iast hx hb hK hH hS h00 hO h_b (by decide) k1_3 isA7 rb40 (by omega) (by omega) rdp (el7 (by omega)) dX9_addThing_61 (fun σ_s_26 H locs hO hF9 hi9 ha9 hH hS => ?_)
      replace hF := hF.tu hF9 (by decide)
      have e_27 : gI σ_s_26 b 4 = b40 := (hi9 _ _).trans e_21
      have ef_28 : aF σ_s_26 (ad E b 0) = g_13 := (ha9.2 _ (ok.adq hO h_b (by decide) k1_0 isA1 k1_3 isA7 (by decide))).trans ef_23
      have ef_29 : aF σ_s_26 (ad E b 2) = g_24 := (ha9.2 _ (ok.adq hO h_b (by decide) k1_2 isA1 k1_3 isA7 (by decide))).trans ef_25
      obtain ⟨g_30, dg_30⟩ : ∃ g9, g9 = upd f_5 (b40).toNat (I dp) := ⟨_, rfl⟩
      have ef_31 : aF σ_s_26 (ad E b 3) = g_30 := by rw [ha9.1, ef_22, dg_30]
      refine lv_aload_n hx hb dX9_addThing_62 rfl (lv_at hl 0 rfl) ?_
      refine lv_dup hx hb dX9_addThing_63 rfl ?_
      refine ok.getIc hO h_b (by decide) k1_4 e_27 (fun _ _ he hv kk => th_get (ci := 9) (C := RX9) (T := TX9) (N := 5) hx hb hts inX9 hown hK hH he rfl 4 (by decide) fl0 hv dX9_addThing_64 kk) ?_
      refine lv_iconst (v := I 1) hx hb dX9_addThing_67 (by decide) ?_
      refine lv_iadd hx hb dX9_addThing_68 ?_
      refine nq_top (I_add _ _) ?_
      refine ok.putI hO h_b (by decide) k1_4 ⟨by omega, by omega⟩ (by omega) (by omega) (fun _ he hl9 kk => th_put (ci := 9) (v := .int (I (b40 + 1))) (ty := .int) (C := RX9) (T := TX9) (N := 5) hx hb hts inX9 tyX9 tyX9_ok nmX9 hown hK hH hS h00 he rfl 4 (by decide) fl0 rfl (by decide +kernel) rfl rfl hl9 dX9_addThing_69 kk) (fun σ_s_32 H locs hO hF9 hg9 hi9 ha9 hH hS => ?_)
      replace hF := hF.tu hF9 (by decide)
      have ef_33 : aF σ_s_32 (ad E b 0) = g_13 := (ha9 _).trans ef_28
      have ef_34 : aF σ_s_32 (ad E b 2) = g_24 := (ha9 _).trans ef_29
      have ef_35 : aF σ_s_32 (ad E b 3) = g_30 := (ha9 _).trans ef_31
      have e_36 := hg9
      refine lv_aload_n hx hb dX9_addThing_72 rfl (lv_at hl 0 rfl) ?_
      refine ok.getIc hO h_b (by decide) k1_4 e_36 (fun _ _ he hv kk => th_get (ci := 9) (C := RX9) (T := TX9) (N := 5) hx hb hts inX9 hown hK hH he rfl 4 (by decide) fl0 hv dX9_addThing_73 kk) ?_
      refine lv_iconst (v := I 1) hx hb dX9_addThing_76 (by decide) ?_
      refine lv_isub hx hb dX9_addThing_77 ?_
      refine nq_top (I_sub _ _) ?_
      exact th_iret hx hb hr hlocks hH hS (z := (b40 + 1 - 1)) ⟨by omega, by omega⟩ ⟨hO, hF, ⟨by omega, by omega, gro_add (i := gI σ b 4) (by omega) (by omega) ru rdp he0 he2 he3 (ef_33.trans (dg_13.trans (by rw [show (b40 : Int) = gI σ b 4 by omega]))) (ef_34.trans (dg_24.trans (by rw [show (b40 : Int) = gI σ b 4 by omega]))) (ef_35.trans (dg_30.trans (by rw [show (b40 : Int) = gI σ b 4 by omega]))), nE_add (i := gI σ b 4) rx (ef_33.trans (dg_13.trans (by rw [show (b40 : Int) = gI σ b 4 by omega])))⟩⟩ dX9_addThing_78
    · replace c_8 := mt (I_lt (a := b40) (b := 60) rb40 (show rng 60 from ⟨by decide, by decide⟩)).mpr c_8
      refine lv_iconst (v := I (-1)) hx hb dX9_addThing_19 (by decide) ?_
      exact th_iret hx hb hr hlocks hH hS (z := (-1)) (show rng (-1) from ⟨by decide, by decide⟩) ⟨hO, hF, ⟨by omega, by omega, by omega, by omega⟩⟩ dX9_addThing_20

set_option maxHeartbeats 4000000 in
set_option maxRecDepth 100000 in
theorem t6_childBy (l : Launch) (G : va_G) (y : Nat → ClassId) (b0 : Nat) (σ : th_M) (E : th_E) (hO : ok y E σ) (b : Nat) (h_b : kd E b = 1) (i : Int) (ri : rng i) (ky : Int) (rky : rng ky) (dp : Int) (ks : List Int) (hy0 : mapst E σ b i dp ks) : Met l yX9_childBy wsX9_childBy ({ frames := 0, cells := 0, slots := 0, locals := 0 }) (th_P G y b0 σ [.ref b, .int (I i), .int (I ky)]) (th_Qi G b0 (fun r σ1 => σ1 = σ ∧ ((r = -1 ∧ ky ∉ ks) ∨ (r ≠ -1 ∧ ky ∈ ks)))) 0 0 (th_A b0) := by
  refine Met.ofW (cc := cX9_childBy) (maxL := 4) (ret := (some .int)) (by decide) rfl ?_
  intro p e s m args below meth c s₁ B hml hv
  obtain ⟨rfl, hH, hK⟩ := hv
  have hx := B.exec
  have hb := B.bytes
  have hr := B.returns
  have hts := atoms_spec (ws := wsX9_childBy) B.pre
  have hown : s.vm.findClass RX9 = some m.cls := findClass_of_methodNamed B.named
  have hlocks := B.notSynchronized
  have h00 : b0 ≤ s.heap.size := hH.1
  have hS : va_S (th_A b0) s.heap s.heap [] := va_S.rf
  obtain ⟨hm1, hm2, hm3, hm4, hm5, hm6⟩ := id hy0
  unfold nE at hm3
  unfold dE at hm4
  have inX9 : ∀ w ∈ wsX90, w ∈ wsX9_childBy := by decide +kernel
  have fl0 := hts (.fieldLink RX9 24 "NestQuery$Tree" "size" "I") (by decide +kernel)
  have fl1 := hts (.fieldLink RX9 9 "NestQuery$Tree" "kinds" "[I") (by decide +kernel)
  have fl2 := hts (.fieldLink RX9 21 "NestQuery$Tree" "depths" "[I") (by decide +kernel)
  have fl3 := hts (.fieldLink RX9 18 "NestQuery$Tree" "keys" "[I") (by decide +kernel)
  have hl := lv_entry ([.ref b, .int (I i), .int (I ky)]) (n := 4) (Nat.le_of_ble_eq_true rfl)
  rw [lg_entry_eq]
  generalize (lg_sl ([.ref b, .int (I i), .int (I ky)]) ++ List.replicate (4 - (lg_sl ([.ref b, .int (I i), .int (I ky)])).length) Slot.unset).toArray = ls at hl ⊢
  have hl : lv_has ls 4 [(0, .ref b), (1, .int (I i)), (2, .int (I ky))] := hl
  obtain ⟨b40, eb40, rb40, lb40, ub40⟩ := hO.gi h_b (by decide) k1_4
  refine lv_iload_n hx hb dX9_childBy_0 rfl (lv_at hl 1 rfl) ?_
  refine lv_if_lt (tgt := 22) hx hb dX9_childBy_1 (by decide) (fun c_1 => ?_) (fun c_1 => ?_)
  · replace c_1 := (I_lt (a := i) (b := 0) ri (show rng 0 from ⟨by decide, by decide⟩)).mp c_1
    refine lv_iconst (v := I (-1)) hx hb dX9_childBy_22 (by decide) ?_
    exact th_iret hx hb hr hlocks hH hS (z := (-1)) (show rng (-1) from ⟨by decide, by decide⟩) ⟨rfl, by exfalso; omega⟩ dX9_childBy_23
  · replace c_1 := mt (I_lt (a := i) (b := 0) ri (show rng 0 from ⟨by decide, by decide⟩)).mpr c_1
    refine lv_iload_n hx hb dX9_childBy_4 rfl (lv_at hl 1 rfl) ?_
    refine lv_aload_n hx hb dX9_childBy_5 rfl (lv_at hl 0 rfl) ?_
    refine ok.getIc hO h_b (by decide) k1_4 eb40 (fun _ _ he hv kk => th_get (ci := 9) (C := RX9) (T := TX9) (N := 5) hx hb hts inX9 hown hK hH he rfl 4 (by decide) fl0 hv dX9_childBy_6 kk) ?_
    refine lv_icmp_ge (tgt := 22) hx hb dX9_childBy_9 (by decide) (fun c_2 => ?_) (fun c_2 => ?_)
    · replace c_2 := (I_le (a := b40) (b := i) rb40 ri).mp c_2
      refine lv_iconst (v := I (-1)) hx hb dX9_childBy_22 (by decide) ?_
      exact th_iret hx hb hr hlocks hH hS (z := (-1)) (show rng (-1) from ⟨by decide, by decide⟩) ⟨rfl, by exfalso; omega⟩ dX9_childBy_23
    · replace c_2 := mt (I_le (a := b40) (b := i) rb40 ri).mpr c_2
      refine lv_aload_n hx hb dX9_childBy_12 rfl (lv_at hl 0 rfl) ?_
      refine ok.getR hO h_b (by decide) k1_0 (by decide) (fun _ _ he hv kk => th_get (ci := 9) (C := RX9) (T := TX9) (N := 5) hx hb hts inX9 hown hK hH he rfl 0 (by decide) fl1 hv dX9_childBy_13 kk) ?_
      refine lv_iload_n hx hb dX9_childBy_16 rfl (lv_at hl 1 rfl) ?_
      refine ok_iald hx hb hK hH hO h_b (by decide) k1_0 isA1 ri (by omega) (by omega) dX9_childBy_17 (fun z_3 ez_3 rz_3 el9 => ?_)
      refine lv_iconst (v := I 3) hx hb dX9_childBy_18 (by decide) ?_
      refine lv_icmp_eq (tgt := 24) hx hb dX9_childBy_19 (by decide) (fun c_4 => ?_) (fun c_4 => ?_)
      · replace c_4 := (I_eq (a := z_3) (b := 3) rz_3 (show rng 3 from ⟨by decide, by decide⟩)).mp c_4
        refine lv_iload_n hx hb dX9_childBy_24 rfl (lv_at hl 1 rfl) ?_
        refine lv_iconst (v := I 1) hx hb dX9_childBy_25 (by decide) ?_
        refine lv_iadd hx hb dX9_childBy_26 ?_
        refine th_addo (fun z_5 rz_5 hz_5 => ?_)
        refine lv_istore_n (lv' := [(3, .int (I z_5)), (0, .ref b), (1, .int (I i)), (2, .int (I ky))]) hx hb dX9_childBy_27 rfl hl (by decide) rfl (fun ls hl => ?_)
        refine th_loop (α := Int) (pc := 28) (fun x9 => (gI σ b 4 - x9).toNat) (fun x9 σ9 H9 l9 ls9 => σ9 = σ ∧ th_H G b0 σ9 H9 ∧ va_S (th_A b0) s.heap H9 l9 ∧ lv_has ls9 4 [(0, .ref b), (1, .int (I i)), (2, .int (I ky)), (3, .int (I x9))] ∧ rng x9 ∧ (i < x9) ∧ (x9 ≤ 60) ∧ (∀ q, i < q → q < x9 → ¬ (dE E σ b q = dp + 1 ∧ kE E σ b q = ky))) ?_ (z_5) σ _ _ _ ⟨rfl, hH, hS, lv_sub hl [1, 2, 3, 0] rfl, rz_5, by first | omega | (dsimp only; omega), by first | omega | (dsimp only; omega), (fun q h1 h2 => absurd h1 (by omega))⟩
        intro x9 σ_J_18 H locs ls hI9 ihJ_18
        obtain ⟨v3q17, ex9⟩ : ∃ z, z = x9 := ⟨_, rfl⟩
        subst ex9
        obtain ⟨eJ_18, hH, hS, hl, rv3q17, J_18_0, J_18_1, J_18_2⟩ := hI9
        replace eJ_18 := eJ_18.symm
        subst eJ_18
        have hl : lv_has ls 4 [(0, .ref b), (1, .int (I i)), (2, .int (I ky)), (3, .int (I v3q17))] := hl
        have rv3q17 : rng v3q17 := rv3q17
        replace J_18_0 : i < v3q17 := J_18_0
        replace J_18_1 : v3q17 ≤ 60 := J_18_1
        replace J_18_2 : ∀ q, i < q → q < v3q17 → ¬ (dE E σ b q = dp + 1 ∧ kE E σ b q = ky) := J_18_2
        refine lv_iload_n hx hb dX9_childBy_28 rfl (lv_at hl 3 rfl) ?_
        refine lv_aload_n hx hb dX9_childBy_29 rfl (lv_at hl 0 rfl) ?_
        refine ok.getIc hO h_b (by decide) k1_4 eb40 (fun _ _ he hv kk => th_get (ci := 9) (C := RX9) (T := TX9) (N := 5) hx hb hts inX9 hown hK hH he rfl 4 (by decide) fl0 hv dX9_childBy_30 kk) ?_
        refine lv_icmp_ge (tgt := 86) hx hb dX9_childBy_33 (by decide) (fun c_19 => ?_) (fun c_19 => ?_)
        · replace c_19 := (I_le (a := b40) (b := v3q17) rb40 rv3q17).mp c_19
          refine lv_iconst (v := I (-1)) hx hb dX9_childBy_86 (by decide) ?_
          exact th_iret hx hb hr hlocks hH hS (z := (-1)) (show rng (-1) from ⟨by decide, by decide⟩) ⟨rfl, by first | (exfalso; have h9 := hm5 v3q17 (by omega) (by omega); unfold dE at h9; omega) | exact Or.inl ⟨rfl, hy0.no (fun q h1 h2 => J_18_2 q h1 (by omega))⟩⟩ dX9_childBy_87
        · replace c_19 := mt (I_le (a := b40) (b := v3q17) rb40 rv3q17).mpr c_19
          refine lv_aload_n hx hb dX9_childBy_36 rfl (lv_at hl 0 rfl) ?_
          refine ok.getR hO h_b (by decide) k1_3 (by decide) (fun _ _ he hv kk => th_get (ci := 9) (C := RX9) (T := TX9) (N := 5) hx hb hts inX9 hown hK hH he rfl 3 (by decide) fl2 hv dX9_childBy_37 kk) ?_
          refine lv_iload_n hx hb dX9_childBy_40 rfl (lv_at hl 3 rfl) ?_
          refine ok_iald hx hb hK hH hO h_b (by decide) k1_3 isA7 rv3q17 (by omega) (by omega) dX9_childBy_41 (fun z_20 ez_20 rz_20 el9 => ?_)
          have uz_20 := el9.1 rfl
          refine lv_aload_n hx hb dX9_childBy_42 rfl (lv_at hl 0 rfl) ?_
          refine ok.getR hO h_b (by decide) k1_3 (by decide) (fun _ _ he hv kk => th_get (ci := 9) (C := RX9) (T := TX9) (N := 5) hx hb hts inX9 hown hK hH he rfl 3 (by decide) fl2 hv dX9_childBy_43 kk) ?_
          refine lv_iload_n hx hb dX9_childBy_46 rfl (lv_at hl 1 rfl) ?_
          refine ok_iald hx hb hK hH hO h_b (by decide) k1_3 isA7 ri (by omega) (by omega) dX9_childBy_47 (fun z_21 ez_21 rz_21 el9 => ?_)
          have uz_21 := el9.1 rfl
          refine lv_icmp_le (tgt := 86) hx hb dX9_childBy_48 (by decide) (fun c_22 => ?_) (fun c_22 => ?_)
          · replace c_22 := (I_le (a := z_20) (b := z_21) rz_20 rz_21).mp c_22
            refine lv_iconst (v := I (-1)) hx hb dX9_childBy_86 (by decide) ?_
            exact th_iret hx hb hr hlocks hH hS (z := (-1)) (show rng (-1) from ⟨by decide, by decide⟩) ⟨rfl, by first | (exfalso; have h9 := hm5 v3q17 (by omega) (by omega); unfold dE at h9; omega) | exact Or.inl ⟨rfl, hy0.no (fun q h1 h2 => J_18_2 q h1 (by omega))⟩⟩ dX9_childBy_87
          · replace c_22 := mt (I_le (a := z_20) (b := z_21) rz_20 rz_21).mpr c_22
            refine lv_aload_n hx hb dX9_childBy_51 rfl (lv_at hl 0 rfl) ?_
            refine ok.getR hO h_b (by decide) k1_3 (by decide) (fun _ _ he hv kk => th_get (ci := 9) (C := RX9) (T := TX9) (N := 5) hx hb hts inX9 hown hK hH he rfl 3 (by decide) fl2 hv dX9_childBy_52 kk) ?_
            refine lv_iload_n hx hb dX9_childBy_55 rfl (lv_at hl 3 rfl) ?_
            refine ok_iald hx hb hK hH hO h_b (by decide) k1_3 isA7 rv3q17 (by omega) (by omega) dX9_childBy_56 (fun z_23 ez_23 rz_23 el9 => ?_)
            have uz_23 := el9.1 rfl
            refine lv_aload_n hx hb dX9_childBy_57 rfl (lv_at hl 0 rfl) ?_
            refine ok.getR hO h_b (by decide) k1_3 (by decide) (fun _ _ he hv kk => th_get (ci := 9) (C := RX9) (T := TX9) (N := 5) hx hb hts inX9 hown hK hH he rfl 3 (by decide) fl2 hv dX9_childBy_58 kk) ?_
            refine lv_iload_n hx hb dX9_childBy_61 rfl (lv_at hl 1 rfl) ?_
            refine ok_iald hx hb hK hH hO h_b (by decide) k1_3 isA7 ri (by omega) (by omega) dX9_childBy_62 (fun z_24 ez_24 rz_24 el9 => ?_)
            have uz_24 := el9.1 rfl
            refine lv_iconst (v := I 1) hx hb dX9_childBy_63 (by decide) ?_
            refine lv_iadd hx hb dX9_childBy_64 ?_
            refine th_addo (fun z_25 rz_25 hz_25 => ?_)
            refine lv_icmp_ne (tgt := 80) hx hb dX9_childBy_65 (by decide) (fun c_26 => ?_) (fun c_26 => ?_)
            · replace c_26 := mt (I_eq (a := z_23) (b := z_25) rz_23 rz_25).mpr c_26
              refine lv_iinc (v := I (v3q17 + 1)) (lv' := [(3, .int (I (v3q17 + 1))), (0, .ref b), (1, .int (I i)), (2, .int (I ky))]) hx hb dX9_childBy_80 hl (k := 3) rfl (I_add _ _) (by decide) rfl (fun ls hl => ?_)
              refine lv_goto (tgt := 28) hx hb dX9_childBy_83 (by decide) ?_
              exact ihJ_18 (v3q17 + 1) σ _ _ _ (by first | omega | (dsimp only; omega)) ⟨rfl, hH, hS, lv_sub hl [1, 2, 3, 0] rfl, ⟨by first | omega | (dsimp only; omega), by first | omega | (dsimp only; omega)⟩, by first | omega | (dsimp only; omega), by first | omega | (dsimp only; omega), (fun q h1 h2 => by
                by_cases e9 : q = v3q17
                · subst e9; rintro ⟨u1, u2⟩; unfold dE at u1; unfold kE at u2; omega
                · exact J_18_2 q h1 (by omega))⟩
            · replace c_26 := (I_eq (a := z_23) (b := z_25) rz_23 rz_25).mp c_26
              refine lv_aload_n hx hb dX9_childBy_68 rfl (lv_at hl 0 rfl) ?_
              refine ok.getR hO h_b (by decide) k1_2 (by decide) (fun _ _ he hv kk => th_get (ci := 9) (C := RX9) (T := TX9) (N := 5) hx hb hts inX9 hown hK hH he rfl 2 (by decide) fl3 hv dX9_childBy_69 kk) ?_
              refine lv_iload_n hx hb dX9_childBy_72 rfl (lv_at hl 3 rfl) ?_
              refine ok_iald hx hb hK hH hO h_b (by decide) k1_2 isA1 rv3q17 (by omega) (by omega) dX9_childBy_73 (fun z_27 ez_27 rz_27 el9 => ?_)
              refine lv_iload_n hx hb dX9_childBy_74 rfl (lv_at hl 2 rfl) ?_
              refine lv_icmp_ne (tgt := 80) hx hb dX9_childBy_75 (by decide) (fun c_28 => ?_) (fun c_28 => ?_)
              · replace c_28 := mt (I_eq (a := z_27) (b := ky) rz_27 rky).mpr c_28
                refine lv_iinc (v := I (v3q17 + 1)) (lv' := [(3, .int (I (v3q17 + 1))), (0, .ref b), (1, .int (I i)), (2, .int (I ky))]) hx hb dX9_childBy_80 hl (k := 3) rfl (I_add _ _) (by decide) rfl (fun ls hl => ?_)
                refine lv_goto (tgt := 28) hx hb dX9_childBy_83 (by decide) ?_
                exact ihJ_18 (v3q17 + 1) σ _ _ _ (by first | omega | (dsimp only; omega)) ⟨rfl, hH, hS, lv_sub hl [1, 2, 3, 0] rfl, ⟨by first | omega | (dsimp only; omega), by first | omega | (dsimp only; omega)⟩, by first | omega | (dsimp only; omega), by first | omega | (dsimp only; omega), (fun q h1 h2 => by
                  by_cases e9 : q = v3q17
                  · subst e9; rintro ⟨u1, u2⟩; unfold dE at u1; unfold kE at u2; omega
                  · exact J_18_2 q h1 (by omega))⟩
              · replace c_28 := (I_eq (a := z_27) (b := ky) rz_27 rky).mp c_28
                refine lv_iload_n hx hb dX9_childBy_78 rfl (lv_at hl 3 rfl) ?_
                exact th_iret hx hb hr hlocks hH hS (z := v3q17) rv3q17 ⟨rfl, Or.inr ⟨by omega, hy0.yes (q := v3q17) (by omega) (by omega) (by unfold dE; omega) (by unfold kE; omega)⟩⟩ dX9_childBy_79
      · replace c_4 := mt (I_eq (a := z_3) (b := 3) rz_3 (show rng 3 from ⟨by decide, by decide⟩)).mpr c_4
        refine lv_iconst (v := I (-1)) hx hb dX9_childBy_22 (by decide) ?_
        exact th_iret hx hb hr hlocks hH hS (z := (-1)) (show rng (-1) from ⟨by decide, by decide⟩) ⟨rfl, by exfalso; omega⟩ dX9_childBy_23
