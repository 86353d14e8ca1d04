theorem dX9_clear_0 : decode cX9_clear 0 = .ok (.aload_n 0, 1) := by decide +kernel
theorem dX9_clear_1 : decode cX9_clear 1 = .ok (.iconst 0, 1) := by decide +kernel
theorem dX9_clear_2 : decode cX9_clear 2 = .ok (.putfield 24, 3) := by decide +kernel
theorem dX9_clear_5 : decode cX9_clear 5 = .ok (.return_, 1) := by decide +kernel
theorem dX9_addThing_0 : decode cX9_addThing 0 = .ok (.aload_n 0, 1) := by decide +kernel
theorem dX9_addThing_1 : decode cX9_addThing 1 = .ok (.getfield 24, 3) := by decide +kernel
theorem dX9_addThing_4 : decode cX9_addThing 4 = .ok (.ifCond .lt 15, 3) := by decide +kernel
theorem dX9_addThing_7 : decode cX9_addThing 7 = .ok (.aload_n 0, 1) := by decide +kernel
theorem dX9_addThing_8 : decode cX9_addThing 8 = .ok (.getfield 24, 3) := by decide +kernel
theorem dX9_addThing_11 : decode cX9_addThing 11 = .ok (.aload_n 0, 1) := by decide +kernel
theorem dX9_addThing_12 : decode cX9_addThing 12 = .ok (.getfield 9, 3) := by decide +kernel
theorem dX9_addThing_15 : decode cX9_addThing 15 = .ok (.arraylength, 1) := by decide +kernel
theorem dX9_addThing_16 : decode cX9_addThing 16 = .ok (.if_icmp .lt 5, 3) := by decide +kernel
theorem dX9_addThing_19 : decode cX9_addThing 19 = .ok (.iconst (-1), 1) := by decide +kernel
theorem dX9_addThing_20 : decode cX9_addThing 20 = .ok (.ireturn, 1) := by decide +kernel
theorem dX9_addThing_21 : decode cX9_addThing 21 = .ok (.aload_n 0, 1) := by decide +kernel
theorem dX9_addThing_22 : decode cX9_addThing 22 = .ok (.getfield 9, 3) := by decide +kernel
theorem dX9_addThing_25 : decode cX9_addThing 25 = .ok (.aload_n 0, 1) := by decide +kernel
theorem dX9_addThing_26 : decode cX9_addThing 26 = .ok (.getfield 24, 3) := by decide +kernel
theorem dX9_addThing_29 : decode cX9_addThing 29 = .ok (.iload_n 1, 1) := by decide +kernel
theorem dX9_addThing_30 : decode cX9_addThing 30 = .ok (.iastore, 1) := by decide +kernel
theorem dX9_addThing_31 : decode cX9_addThing 31 = .ok (.aload_n 0, 1) := by decide +kernel
theorem dX9_addThing_32 : decode cX9_addThing 32 = .ok (.getfield 15, 3) := by decide +kernel
theorem dX9_addThing_35 : decode cX9_addThing 35 = .ok (.aload_n 0, 1) := by decide +kernel
theorem dX9_addThing_36 : decode cX9_addThing 36 = .ok (.getfield 24, 3) := by decide +kernel
theorem dX9_addThing_39 : decode cX9_addThing 39 = .ok (.iload_n 2, 1) := by decide +kernel
theorem dX9_addThing_40 : decode cX9_addThing 40 = .ok (.iastore, 1) := by decide +kernel
theorem dX9_addThing_41 : decode cX9_addThing 41 = .ok (.aload_n 0, 1) := by decide +kernel
theorem dX9_addThing_42 : decode cX9_addThing 42 = .ok (.getfield 18, 3) := by decide +kernel
theorem dX9_addThing_45 : decode cX9_addThing 45 = .ok (.aload_n 0, 1) := by decide +kernel
theorem dX9_addThing_46 : decode cX9_addThing 46 = .ok (.getfield 24, 3) := by decide +kernel
theorem dX9_addThing_49 : decode cX9_addThing 49 = .ok (.iload_n 3, 1) := by decide +kernel
theorem dX9_addThing_50 : decode cX9_addThing 50 = .ok (.iastore, 1) := by decide +kernel
theorem dX9_addThing_51 : decode cX9_addThing 51 = .ok (.aload_n 0, 1) := by decide +kernel
theorem dX9_addThing_52 : decode cX9_addThing 52 = .ok (.getfield 21, 3) := by decide +kernel
theorem dX9_addThing_55 : decode cX9_addThing 55 = .ok (.aload_n 0, 1) := by decide +kernel
theorem dX9_addThing_56 : decode cX9_addThing 56 = .ok (.getfield 24, 3) := by decide +kernel
theorem dX9_addThing_59 : decode cX9_addThing 59 = .ok (.iload 4, 2) := by decide +kernel
theorem dX9_addThing_61 : decode cX9_addThing 61 = .ok (.iastore, 1) := by decide +kernel
theorem dX9_addThing_62 : decode cX9_addThing 62 = .ok (.aload_n 0, 1) := by decide +kernel
theorem dX9_addThing_63 : decode cX9_addThing 63 = .ok (.dup, 1) := by decide +kernel
theorem dX9_addThing_64 : decode cX9_addThing 64 = .ok (.getfield 24, 3) := by decide +kernel
theorem dX9_addThing_67 : decode cX9_addThing 67 = .ok (.iconst 1, 1) := by decide +kernel
theorem dX9_addThing_68 : decode cX9_addThing 68 = .ok (.iadd, 1) := by decide +kernel
theorem dX9_addThing_69 : decode cX9_addThing 69 = .ok (.putfield 24, 3) := by decide +kernel
theorem dX9_addThing_72 : decode cX9_addThing 72 = .ok (.aload_n 0, 1) := by decide +kernel
theorem dX9_addThing_73 : decode cX9_addThing 73 = .ok (.getfield 24, 3) := by decide +kernel
theorem dX9_addThing_76 : decode cX9_addThing 76 = .ok (.iconst 1, 1) := by decide +kernel
theorem dX9_addThing_77 : decode cX9_addThing 77 = .ok (.isub, 1) := by decide +kernel
theorem dX9_addThing_78 : decode cX9_addThing 78 = .ok (.ireturn, 1) := by decide +kernel
theorem dX9_setValue_0 : decode cX9_setValue 0 = .ok (.iload_n 1, 1) := by decide +kernel
theorem dX9_setValue_1 : decode cX9_setValue 1 = .ok (.ifCond .lt 18, 3) := by decide +kernel
theorem dX9_setValue_4 : decode cX9_setValue 4 = .ok (.iload_n 1, 1) := by decide +kernel
theorem dX9_setValue_5 : decode cX9_setValue 5 = .ok (.aload_n 0, 1) := by decide +kernel
theorem dX9_setValue_6 : decode cX9_setValue 6 = .ok (.getfield 24, 3) := by decide +kernel
theorem dX9_setValue_9 : decode cX9_setValue 9 = .ok (.if_icmp .ge 10, 3) := by decide +kernel
theorem dX9_setValue_12 : decode cX9_setValue 12 = .ok (.aload_n 0, 1) := by decide +kernel
theorem dX9_setValue_13 : decode cX9_setValue 13 = .ok (.getfield 15, 3) := by decide +kernel
theorem dX9_setValue_16 : decode cX9_setValue 16 = .ok (.iload_n 1, 1) := by decide +kernel
theorem dX9_setValue_17 : decode cX9_setValue 17 = .ok (.iload_n 2, 1) := by decide +kernel
theorem dX9_setValue_18 : decode cX9_setValue 18 = .ok (.iastore, 1) := by decide +kernel
theorem dX9_setValue_19 : decode cX9_setValue 19 = .ok (.return_, 1) := by decide +kernel
set_option maxHeartbeats 1000000 in
set_option maxRecDepth 100000 in
theorem tw1_clear (l : Launch) (G : va_G) (y : Nat → ClassId) (b0 : Nat) (σ : th_M) (E : th_E) (hO : ok y E σ) (a : Nat) (h_a : kd E a = 1) : Met l yX9_clear wsX9_clear ({ frames := 0, cells := 0, slots := 0, locals := 0 }) (th_P G y b0 σ [.ref a]) (th_Qv G b0 (fun σ1 => ok y E σ1 ∧ fr [1] E σ σ1 ∧ (gI σ1 a 4 = 0))) 0 0 (th_A b0) := by
  refine Met.ofW (cc := cX9_clear) (maxL := 1) (ret := none) (by decide) rfl ?_
  intro p e s m args below meth c s₁ B hml hv
  obtain ⟨rfl, hH, hK⟩ := hv
  have hx := B.exec
  have hb := B.bytes
  have hr := B.returns
  have hts := atoms_spec (ws := wsX9_clear) B.pre
  have hown : s.vm.findClass RX9 = some m.cls := findClass_of_methodNamed B.named
  have hlocks := B.notSynchronized
  have h00 : b0 ≤ s.heap.size := hH.1
  have hS : va_S (th_A b0) s.heap s.heap [] := va_S.rf
  have hF : fr [1] E σ σ := fr.rf
  have inX9 : ∀ w ∈ wsX90, w ∈ wsX9_clear := by decide +kernel
  have fl0 := hts (.fieldLink RX9 24 "NestQuery$Tree" "size" "I") (by decide +kernel)
  have hl := lv_entry ([.ref a]) (n := 1) (Nat.le_of_ble_eq_true rfl)
  rw [lg_entry_eq]
  generalize (lg_sl ([.ref a]) ++ List.replicate (1 - (lg_sl ([.ref a])).length) Slot.unset).toArray = ls at hl ⊢
  have hl : lv_has ls 1 [(0, .ref a)] := hl
  refine lv_aload_n hx hb dX9_clear_0 rfl (lv_at hl 0 rfl) ?_
  refine lv_iconst (v := I 0) hx hb dX9_clear_1 (by decide) ?_
  refine ok.putI hO h_a (by decide) k1_4 (show rng 0 from ⟨by decide, by decide⟩) (by omega) (by omega) (fun _ he hl9 kk => th_put (ci := 9) (v := .int (I 0)) (ty := .int) (C := RX9) (T := TX9) (N := 5) hx hb hts inX9 tyX9 tyX9_ok nmX9 hown hK hH hS h00 he rfl 4 (by decide) fl0 rfl (by decide +kernel) rfl rfl hl9 dX9_clear_2 kk) (fun σ_s_1 H locs hO hF9 hg9 hi9 ha9 hH hS => ?_)
  replace hF := hF.tu hF9 (by decide)
  have e_2 := hg9
  exact th_vret hx hb hr hlocks hH hS ⟨hO, hF, by omega⟩ dX9_clear_5

set_option maxHeartbeats 1000000 in
set_option maxRecDepth 100000 in
theorem tw2_clear (l : Launch) (G : va_G) (y : Nat → ClassId) (b0 : Nat) (σ : th_M) (E : th_E) (hO : ok y E σ) (a : Nat) (h_a : kd E a = 2) : Met l yX9_clear wsX9_clear ({ frames := 0, cells := 0, slots := 0, locals := 0 }) (th_P G y b0 σ [.ref a]) (th_Qv G b0 (fun σ1 => ok y E σ1 ∧ fr [2] E σ σ1 ∧ (gI σ1 a 4 = 0))) 0 0 (th_A b0) := by
  refine Met.ofW (cc := cX9_clear) (maxL := 1) (ret := none) (by decide) rfl ?_
  intro p e s m args below meth c s₁ B hml hv
  obtain ⟨rfl, hH, hK⟩ := hv
  have hx := B.exec
  have hb := B.bytes
  have hr := B.returns
  have hts := atoms_spec (ws := wsX9_clear) B.pre
  have hown : s.vm.findClass RX9 = some m.cls := findClass_of_methodNamed B.named
  have hlocks := B.notSynchronized
  have h00 : b0 ≤ s.heap.size := hH.1
  have hS : va_S (th_A b0) s.heap s.heap [] := va_S.rf
  have hF : fr [2] E σ σ := fr.rf
  have inX9 : ∀ w ∈ wsX90, w ∈ wsX9_clear := by decide +kernel
  have fl0 := hts (.fieldLink RX9 24 "NestQuery$Tree" "size" "I") (by decide +kernel)
  have hl := lv_entry ([.ref a]) (n := 1) (Nat.le_of_ble_eq_true rfl)
  rw [lg_entry_eq]
  generalize (lg_sl ([.ref a]) ++ List.replicate (1 - (lg_sl ([.ref a])).length) Slot.unset).toArray = ls at hl ⊢
  have hl : lv_has ls 1 [(0, .ref a)] := hl
  refine lv_aload_n hx hb dX9_clear_0 rfl (lv_at hl 0 rfl) ?_
  refine lv_iconst (v := I 0) hx hb dX9_clear_1 (by decide) ?_
  refine ok.putI hO h_a (by decide) k2_4 (show rng 0 from ⟨by decide, by decide⟩) (by omega) (by omega) (fun _ he hl9 kk => th_put (ci := 9) (v := .int (I 0)) (ty := .int) (C := RX9) (T := TX9) (N := 5) hx hb hts inX9 tyX9 tyX9_ok nmX9 hown hK hH hS h00 he rfl 4 (by decide) fl0 rfl (by decide +kernel) rfl rfl hl9 dX9_clear_2 kk) (fun σ_s_1 H locs hO hF9 hg9 hi9 ha9 hH hS => ?_)
  replace hF := hF.tu hF9 (by decide)
  have e_2 := hg9
  exact th_vret hx hb hr hlocks hH hS ⟨hO, hF, by omega⟩ dX9_clear_5

set_option maxHeartbeats 1000000 in
set_option maxRecDepth 100000 in
theorem tw1_add (l : Launch) (G : va_G) (y : Nat → ClassId) (b0 : Nat) (σ : th_M) (E : th_E) (hO : ok y E σ) (a : Nat) (h_a : kd E a = 1) (x : Int) (rx : rng x) (v : Int) (rv : rng v) (u : Int) (ru : rng u) (dp : Int) (rdp : rng dp) (u_dp : dp ≤ 7) : Met l yX9_addThing wsX9_addThing ({ frames := 0, cells := 0, slots := 0, locals := 0 }) (th_P G y b0 σ [.ref a, .int (I x), .int (I v), .int (I u), .int (I dp)]) (th_Qi G b0 (fun r σ1 => ok y E σ1 ∧ fr [1] E σ σ1 ∧ (True))) 0 0 (th_A b0) := by
  refine Met.ofW (cc := cX9_addThing) (maxL := 5) (ret := (some .int)) (by decide) rfl ?_
  intro p e s m args below meth c s₁ B hml hv
  obtain ⟨rfl, hH, hK⟩ := hv
  have hx := B.exec
  have hb := B.bytes
  have hr := B.returns
  have hts := atoms_spec (ws := wsX9_addThing) B.pre
  have hown : s.vm.findClass RX9 = some m.cls := findClass_of_methodNamed B.named
  have hlocks := B.notSynchronized
  have h00 : b0 ≤ s.heap.size := hH.1
  have hS : va_S (th_A b0) s.heap s.heap [] := va_S.rf
  have hF : fr [1] E σ σ := fr.rf
  have inX9 : ∀ w ∈ wsX90, w ∈ wsX9_addThing := by decide +kernel
  have fl0 := hts (.fieldLink RX9 24 "NestQuery$Tree" "size" "I") (by decide +kernel)
  have fl1 := hts (.fieldLink RX9 9 "NestQuery$Tree" "kinds" "[I") (by decide +kernel)
  have fl2 := hts (.fieldLink RX9 15 "NestQuery$Tree" "values" "[I") (by decide +kernel)
  have fl3 := hts (.fieldLink RX9 18 "NestQuery$Tree" "keys" "[I") (by decide +kernel)
  have fl4 := hts (.fieldLink RX9 21 "NestQuery$Tree" "depths" "[I") (by decide +kernel)
  have hl := lv_entry ([.ref a, .int (I x), .int (I v), .int (I u), .int (I dp)]) (n := 5) (Nat.le_of_ble_eq_true rfl)
  rw [lg_entry_eq]
  generalize (lg_sl ([.ref a, .int (I x), .int (I v), .int (I u), .int (I dp)]) ++ List.replicate (5 - (lg_sl ([.ref a, .int (I x), .int (I v), .int (I u), .int (I dp)])).length) Slot.unset).toArray = ls at hl ⊢
  have hl : lv_has ls 5 [(0, .ref a), (1, .int (I x)), (2, .int (I v)), (3, .int (I u)), (4, .int (I dp))] := hl
  refine lv_aload_n hx hb dX9_addThing_0 rfl (lv_at hl 0 rfl) ?_
  refine ok.getI hO h_a (by decide) k1_4 (fun _ _ he hv kk => th_get (ci := 9) (C := RX9) (T := TX9) (N := 5) hx hb hts inX9 hown hK hH he rfl 4 (by decide) fl0 hv dX9_addThing_1 kk) (fun z_1 e_2 rz_1 lz_1 uz_1 => ?_)
  refine lv_if_lt (tgt := 19) hx hb dX9_addThing_4 (by decide) (fun c_3 => ?_) (fun c_3 => ?_)
  · replace c_3 := (I_lt (a := z_1) (b := 0) rz_1 (show rng 0 from ⟨by decide, by decide⟩)).mp c_3
    refine lv_iconst (v := I (-1)) hx hb dX9_addThing_19 (by decide) ?_
    exact th_iret hx hb hr hlocks hH hS (z := (-1)) (show rng (-1) from ⟨by decide, by decide⟩) ⟨hO, hF, trivial⟩ dX9_addThing_20
  · replace c_3 := mt (I_lt (a := z_1) (b := 0) rz_1 (show rng 0 from ⟨by decide, by decide⟩)).mpr c_3
    refine lv_aload_n hx hb dX9_addThing_7 rfl (lv_at hl 0 rfl) ?_
    refine ok.getIc hO h_a (by decide) k1_4 e_2 (fun _ _ he hv kk => th_get (ci := 9) (C := RX9) (T := TX9) (N := 5) hx hb hts inX9 hown hK hH he rfl 4 (by decide) fl0 hv dX9_addThing_8 kk) ?_
    refine lv_aload_n hx hb dX9_addThing_11 rfl (lv_at hl 0 rfl) ?_
    refine ok.getR hO h_a (by decide) k1_0 (by decide) (fun _ _ he hv kk => th_get (ci := 9) (C := RX9) (T := TX9) (N := 5) hx hb hts inX9 hown hK hH he rfl 0 (by decide) fl1 hv dX9_addThing_12 kk) ?_
    refine ok_alen hx hb hK hH hO h_a (by decide) k1_0 isA1 (by decide) dX9_addThing_15 ?_
    refine lv_icmp_lt (tgt := 21) hx hb dX9_addThing_16 (by decide) (fun c_4 => ?_) (fun c_4 => ?_)
    · replace c_4 := (I_lt (a := z_1) (b := 60) rz_1 (show rng 60 from ⟨by decide, by decide⟩)).mp c_4
      refine lv_aload_n hx hb dX9_addThing_21 rfl (lv_at hl 0 rfl) ?_
      refine ok.getR hO h_a (by decide) k1_0 (by decide) (fun _ _ he hv kk => th_get (ci := 9) (C := RX9) (T := TX9) (N := 5) hx hb hts inX9 hown hK hH he rfl 0 (by decide) fl1 hv dX9_addThing_22 kk) ?_
      refine lv_aload_n hx hb dX9_addThing_25 rfl (lv_at hl 0 rfl) ?_
      refine ok.getIc hO h_a (by decide) k1_4 e_2 (fun _ _ he hv kk => th_get (ci := 9) (C := RX9) (T := TX9) (N := 5) hx hb hts inX9 hown hK hH he rfl 4 (by decide) fl0 hv dX9_addThing_26 kk) ?_
      refine lv_iload_n hx hb dX9_addThing_29 rfl (lv_at hl 1 rfl) ?_
      refine ok_iast hx hb hK hH hS h00 hO h_a (by decide) k1_0 isA1 rz_1 (by omega) (by omega) rx el1 dX9_addThing_30 (fun σ_s_5 H locs hO hF9 hi9 ha9 hH hS => ?_)
      replace hF := hF.tu hF9 (by decide)
      have e_6 : gI σ_s_5 a 4 = z_1 := (hi9 _ _).trans e_2
      refine lv_aload_n hx hb dX9_addThing_31 rfl (lv_at hl 0 rfl) ?_
      refine ok.getR hO h_a (by decide) k1_1 (by decide) (fun _ _ he hv kk => th_get (ci := 9) (C := RX9) (T := TX9) (N := 5) hx hb hts inX9 hown hK hH he rfl 1 (by decide) fl2 hv dX9_addThing_32 kk) ?_
      refine lv_aload_n hx hb dX9_addThing_35 rfl (lv_at hl 0 rfl) ?_
      refine ok.getIc hO h_a (by decide) k1_4 e_6 (fun _ _ he hv kk => th_get (ci := 9) (C := RX9) (T := TX9) (N := 5) hx hb hts inX9 hown hK hH he rfl 4 (by decide) fl0 hv dX9_addThing_36 kk) ?_
      refine lv_iload_n hx hb dX9_addThing_39 rfl (lv_at hl 2 rfl) ?_
      refine ok_iast hx hb hK hH hS h00 hO h_a (by decide) k1_1 isA1 rz_1 (by omega) (by omega) rv el1 dX9_addThing_40 (fun σ_s_7 H locs hO hF9 hi9 ha9 hH hS => ?_)
      replace hF := hF.tu hF9 (by decide)
      have e_8 : gI σ_s_7 a 4 = z_1 := (hi9 _ _).trans e_6
      refine lv_aload_n hx hb dX9_addThing_41 rfl (lv_at hl 0 rfl) ?_
      refine ok.getR hO h_a (by decide) k1_2 (by decide) (fun _ _ he hv kk => th_get (ci := 9) (C := RX9) (T := TX9) (N := 5) hx hb hts inX9 hown hK hH he rfl 2 (by decide) fl3 hv dX9_addThing_42 kk) ?_
      refine lv_aload_n hx hb dX9_addThing_45 rfl (lv_at hl 0 rfl) ?_
      refine ok.getIc hO h_a (by decide) k1_4 e_8 (fun _ _ he hv kk => th_get (ci := 9) (C := RX9) (T := TX9) (N := 5) hx hb hts inX9 hown hK hH he rfl 4 (by decide) fl0 hv dX9_addThing_46 kk) ?_
      refine lv_iload_n hx hb dX9_addThing_49 rfl (lv_at hl 3 rfl) ?_
      refine ok_iast hx hb hK hH hS h00 hO h_a (by decide) k1_2 isA1 rz_1 (by omega) (by omega) ru el1 dX9_addThing_50 (fun σ_s_9 H locs hO hF9 hi9 ha9 hH hS => ?_)
      replace hF := hF.tu hF9 (by decide)
      have e_10 : gI σ_s_9 a 4 = z_1 := (hi9 _ _).trans e_8
      refine lv_aload_n hx hb dX9_addThing_51 rfl (lv_at hl 0 rfl) ?_
      refine ok.getR hO h_a (by decide) k1_3 (by decide) (fun _ _ he hv kk => th_get (ci := 9) (C := RX9) (T := TX9) (N := 5) hx hb hts inX9 hown hK hH he rfl 3 (by decide) fl4 hv dX9_addThing_52 kk) ?_
      refine lv_aload_n hx hb dX9_addThing_55 rfl (lv_at hl 0 rfl) ?_
      refine ok.getIc hO h_a (by decide) k1_4 e_10 (fun _ _ he hv kk => th_get (ci := 9) (C := RX9) (T := TX9) (N := 5) hx hb hts inX9 hown hK hH he rfl 4 (by decide) fl0 hv dX9_addThing_56 kk) ?_
      refine lv_iload hx hb dX9_addThing_59 (lv_at hl 4 rfl) ?_
      refine ok_iast hx hb hK hH hS h00 hO h_a (by decide) k1_3 isA7 rz_1 (by omega) (by omega) rdp (el7 (by omega)) dX9_addThing_61 (fun σ_s_11 H locs hO hF9 hi9 ha9 hH hS => ?_)
      replace hF := hF.tu hF9 (by decide)
      have e_12 : gI σ_s_11 a 4 = z_1 := (hi9 _ _).trans e_10
      refine lv_aload_n hx hb dX9_addThing_62 rfl (lv_at hl 0 rfl) ?_
      refine lv_dup hx hb dX9_addThing_63 rfl ?_
      refine ok.getIc hO h_a (by decide) k1_4 e_12 (fun _ _ he hv kk => th_get (ci := 9) (C := RX9) (T := TX9) (N := 5) hx hb hts inX9 hown hK hH he rfl 4 (by decide) fl0 hv dX9_addThing_64 kk) ?_
      refine lv_iconst (v := I 1) hx hb dX9_addThing_67 (by decide) ?_
      refine lv_iadd hx hb dX9_addThing_68 ?_
      refine nq_top (I_add _ _) ?_
      refine ok.putI hO h_a (by decide) k1_4 ⟨by omega, by omega⟩ (by omega) (by omega) (fun _ he hl9 kk => th_put (ci := 9) (v := .int (I (z_1 + 1))) (ty := .int) (C := RX9) (T := TX9) (N := 5) hx hb hts inX9 tyX9 tyX9_ok nmX9 hown hK hH hS h00 he rfl 4 (by decide) fl0 rfl (by decide +kernel) rfl rfl hl9 dX9_addThing_69 kk) (fun σ_s_13 H locs hO hF9 hg9 hi9 ha9 hH hS => ?_)
      replace hF := hF.tu hF9 (by decide)
      have e_14 := hg9
      refine lv_aload_n hx hb dX9_addThing_72 rfl (lv_at hl 0 rfl) ?_
      refine ok.getIc hO h_a (by decide) k1_4 e_14 (fun _ _ he hv kk => th_get (ci := 9) (C := RX9) (T := TX9) (N := 5) hx hb hts inX9 hown hK hH he rfl 4 (by decide) fl0 hv dX9_addThing_73 kk) ?_
      refine lv_iconst (v := I 1) hx hb dX9_addThing_76 (by decide) ?_
      refine lv_isub hx hb dX9_addThing_77 ?_
      refine nq_top (I_sub _ _) ?_
      exact th_iret hx hb hr hlocks hH hS (z := (z_1 + 1 - 1)) ⟨by omega, by omega⟩ ⟨hO, hF, trivial⟩ dX9_addThing_78
    · replace c_4 := mt (I_lt (a := z_1) (b := 60) rz_1 (show rng 60 from ⟨by decide, by decide⟩)).mpr c_4
      refine lv_iconst (v := I (-1)) hx hb dX9_addThing_19 (by decide) ?_
      exact th_iret hx hb hr hlocks hH hS (z := (-1)) (show rng (-1) from ⟨by decide, by decide⟩) ⟨hO, hF, trivial⟩ dX9_addThing_20

set_option maxHeartbeats 1000000 in
set_option maxRecDepth 100000 in
theorem tw2_set (l : Launch) (G : va_G) (y : Nat → ClassId) (b0 : Nat) (σ : th_M) (E : th_E) (hO : ok y E σ) (a : Nat) (h_a : kd E a = 2) (i : Int) (ri : rng i) (v : Int) (rv : rng v) : Met l yX9_setValue wsX9_setValue ({ frames := 0, cells := 0, slots := 0, locals := 0 }) (th_P G y b0 σ [.ref a, .int (I i), .int (I v)]) (th_Qv G b0 (fun σ1 => ok y E σ1 ∧ fr [2] E σ σ1 ∧ (gI σ1 a 4 = gI σ a 4))) 0 0 (th_A b0) := by
  refine Met.ofW (cc := cX9_setValue) (maxL := 3) (ret := none) (by decide) rfl ?_
  intro p e s m args below meth c s₁ B hml hv
  obtain ⟨rfl, hH, hK⟩ := hv
  have hx := B.exec
  have hb := B.bytes
  have hr := B.returns
  have hts := atoms_spec (ws := wsX9_setValue) B.pre
  have hown : s.vm.findClass RX9 = some m.cls := findClass_of_methodNamed B.named
  have hlocks := B.notSynchronized
  have h00 : b0 ≤ s.heap.size := hH.1
  have hS : va_S (th_A b0) s.heap s.heap [] := va_S.rf
  have hF : fr [2] E σ σ := fr.rf
  have inX9 : ∀ w ∈ wsX90, w ∈ wsX9_setValue := by decide +kernel
  have fl0 := hts (.fieldLink RX9 24 "NestQuery$Tree" "size" "I") (by decide +kernel)
  have fl1 := hts (.fieldLink RX9 15 "NestQuery$Tree" "values" "[I") (by decide +kernel)
  have hl := lv_entry ([.ref a, .int (I i), .int (I v)]) (n := 3) (Nat.le_of_ble_eq_true rfl)
  rw [lg_entry_eq]
  generalize (lg_sl ([.ref a, .int (I i), .int (I v)]) ++ List.replicate (3 - (lg_sl ([.ref a, .int (I i), .int (I v)])).length) Slot.unset).toArray = ls at hl ⊢
  have hl : lv_has ls 3 [(0, .ref a), (1, .int (I i)), (2, .int (I v))] := hl
  refine lv_iload_n hx hb dX9_setValue_0 rfl (lv_at hl 1 rfl) ?_
  refine lv_if_lt (tgt := 19) hx hb dX9_setValue_1 (by decide) (fun c_1 => ?_) (fun c_1 => ?_)
  · replace c_1 := (I_lt (a := i) (b := 0) ri (show rng 0 from ⟨by decide, by decide⟩)).mp c_1
    exact th_vret hx hb hr hlocks hH hS ⟨hO, hF, by omega⟩ dX9_setValue_19
  · replace c_1 := mt (I_lt (a := i) (b := 0) ri (show rng 0 from ⟨by decide, by decide⟩)).mpr c_1
    refine lv_iload_n hx hb dX9_setValue_4 rfl (lv_at hl 1 rfl) ?_
    refine lv_aload_n hx hb dX9_setValue_5 rfl (lv_at hl 0 rfl) ?_
    refine ok.getI hO h_a (by decide) k2_4 (fun _ _ he hv kk => th_get (ci := 9) (C := RX9) (T := TX9) (N := 5) hx hb hts inX9 hown hK hH he rfl 4 (by decide) fl0 hv dX9_setValue_6 kk) (fun z_2 e_3 rz_2 lz_2 uz_2 => ?_)
    refine lv_icmp_ge (tgt := 19) hx hb dX9_setValue_9 (by decide) (fun c_4 => ?_) (fun c_4 => ?_)
    · replace c_4 := (I_le (a := z_2) (b := i) rz_2 ri).mp c_4
      exact th_vret hx hb hr hlocks hH hS ⟨hO, hF, by omega⟩ dX9_setValue_19
    · replace c_4 := mt (I_le (a := z_2) (b := i) rz_2 ri).mpr c_4
      refine lv_aload_n hx hb dX9_setValue_12 rfl (lv_at hl 0 rfl) ?_
      refine ok.getR hO h_a (by decide) k2_1 (by decide) (fun _ _ he hv kk => th_get (ci := 9) (C := RX9) (T := TX9) (N := 5) hx hb hts inX9 hown hK hH he rfl 1 (by decide) fl1 hv dX9_setValue_13 kk) ?_
      refine lv_iload_n hx hb dX9_setValue_16 rfl (lv_at hl 1 rfl) ?_
      refine lv_iload_n hx hb dX9_setValue_17 rfl (lv_at hl 2 rfl) ?_
      refine ok_iast hx hb hK hH hS h00 hO h_a (by decide) k2_1 isA1 ri (by omega) (by omega) rv el1 dX9_setValue_18 (fun σ_s_5 H locs hO hF9 hi9 ha9 hH hS => ?_)
      replace hF := hF.tu hF9 (by decide)
      have e_6 : gI σ_s_5 a 4 = z_2 := (hi9 _ _).trans e_3
      exact th_vret hx hb hr hlocks hH hS ⟨hO, hF, by omega⟩ dX9_setValue_19
