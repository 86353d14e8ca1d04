set_option maxHeartbeats 1000000 in
set_option maxRecDepth 100000 in
theorem m_fail (l : Launch) (G : va_G) (y : Nat → ClassId) (b0 : Nat) (σ : th_M) (E : th_E) (hO : ok y E σ) (a : Nat) (h_a : kd E a = 13) (i : Int) (ri : rng i) : Met l yX11_fail wsX11_fail ({ frames := 0, cells := 0, slots := 0, locals := 0 }) (th_P G y b0 σ [.ref a, .int (I i)]) (th_Qi G b0 (fun r σ1 => ok y E σ1 ∧ fr [13] E σ σ1 ∧ fm [0] E σ σ1 a ∧ (True))) 0 0 (th_A b0) := by
  refine Met.ofW (cc := cX11_fail) (maxL := 2) (ret := (some .int)) (by decide) rfl ?_
  intro p e s m args below meth c s₁ B hml hv
  obtain ⟨rfl, hH, hK⟩ := hv
  have hx := B.exec
  have hb := B.bytes
  have hr := B.returns
  have hts := atoms_spec (ws := wsX11_fail) B.pre
  have hown : s.vm.findClass RX11 = some m.cls := findClass_of_methodNamed B.named
  have hlocks := B.notSynchronized
  have h00 : b0 ≤ s.heap.size := hH.1
  have hS : va_S (th_A b0) s.heap s.heap [] := va_S.rf
  have hF : fr [13] E σ σ := fr.rf
  have hM : fm [0] E σ σ a := fm.rf
  have inX11 : ∀ w ∈ wsX110, w ∈ wsX11_fail := by decide +kernel
  have fl0 := hts (.fieldLink RX11 111 "NestQueryModel" "code" "I") (by decide +kernel)
  have hl := lv_entry ([.ref a, .int (I i)]) (n := 2) (Nat.le_of_ble_eq_true rfl)
  rw [lg_entry_eq]
  generalize (lg_sl ([.ref a, .int (I i)]) ++ List.replicate (2 - (lg_sl ([.ref a, .int (I i)])).length) Slot.unset).toArray = ls at hl ⊢
  have hl : lv_has ls 2 [(0, .ref a), (1, .int (I i))] := hl
  refine lv_aload_n hx hb dX11_fail_0 rfl (lv_at hl 0 rfl) ?_
  refine lv_iload_n hx hb dX11_fail_1 rfl (lv_at hl 1 rfl) ?_
  refine ok.putJ hO h_a k13_0 ri (by omega) (by omega) (fun _ he hl9 kk => th_put (ci := 11) (v := .int (I i)) (ty := .int) (C := RX11) (T := TX11) (N := 66) hx hb hts inX11 tyX11 tyX11_ok nmX11 hown hK hH hS h00 he rfl 0 (by decide) fl0 rfl (by decide +kernel) rfl rfl hl9 dX11_fail_2 kk) (fun σ_s_1 H locs hO hF9 hM9 hg9 ha9 hH hS => ?_)
  replace hM := hM.tu hM9 (by decide)
  replace hF := hF.tu hF9 (by decide)
  have e_2 := hg9
  refine lv_iconst (v := I 0) hx hb dX11_fail_5 (by decide) ?_
  exact th_iret hx hb hr hlocks hH hS (z := 0) (show rng 0 from ⟨by decide, by decide⟩) ⟨hO, hF, hM, trivial⟩ dX11_fail_6

set_option maxHeartbeats 1000000 in
set_option maxRecDepth 100000 in
theorem w_isLetter (l : Launch) (G : va_G) (y : Nat → ClassId) (b0 : Nat) (σ : th_M) (E : th_E) (hO : ok y E σ) (i : Int) (ri : rng i) : Met l yX11_isLetter wsX11_isLetter ({ frames := 0, cells := 0, slots := 0, locals := 0 }) (th_P G y b0 σ [.int (I i)]) (th_Qi G b0 (fun r σ1 => σ1 = σ ∧ (0 ≤ r ∧ r ≤ 1) ∧ ((r = 1 ∧ 97 ≤ i ∧ i ≤ 122) ∨ (r = 0 ∧ ¬ (97 ≤ i ∧ i ≤ 122))))) 0 0 (th_A b0) := by
  refine Met.ofW (cc := cX11_isLetter) (maxL := 1) (ret := (some .boolean)) (by decide) rfl ?_
  intro p e s m args below meth c s₁ B hml hv
  obtain ⟨rfl, hH, hK⟩ := hv
  have hx := B.exec
  have hb := B.bytes
  have hr := B.returns
  have hts := atoms_spec (ws := wsX11_isLetter) B.pre
  have hown : s.vm.findClass RX11 = some m.cls := findClass_of_methodNamed B.named
  have hlocks := B.notSynchronized
  have h00 : b0 ≤ s.heap.size := hH.1
  have hS : va_S (th_A b0) s.heap s.heap [] := va_S.rf
  have hl := lv_entry ([.int (I i)]) (n := 1) (Nat.le_of_ble_eq_true rfl)
  rw [lg_entry_eq]
  generalize (lg_sl ([.int (I i)]) ++ List.replicate (1 - (lg_sl ([.int (I i)])).length) Slot.unset).toArray = ls at hl ⊢
  have hl : lv_has ls 1 [(0, .int (I i))] := hl
  refine lv_iload_n hx hb dX11_isLetter_0 rfl (lv_at hl 0 rfl) ?_
  refine lv_bipush (v := I 97) hx hb dX11_isLetter_1 (by decide) ?_
  refine lv_icmp_lt (tgt := 16) hx hb dX11_isLetter_3 (by decide) (fun c_1 => ?_) (fun c_1 => ?_)
  · replace c_1 := (I_lt (a := i) (b := 97) ri (show rng 97 from ⟨by decide, by decide⟩)).mp c_1
    refine lv_iconst (v := I 0) hx hb dX11_isLetter_16 (by decide) ?_
    exact th_zret hx hb hr hlocks hH hS (z := 0) (by omega) ⟨rfl, ⟨by omega, by omega⟩, by omega⟩ dX11_isLetter_17
  · replace c_1 := mt (I_lt (a := i) (b := 97) ri (show rng 97 from ⟨by decide, by decide⟩)).mpr c_1
    refine lv_iload_n hx hb dX11_isLetter_6 rfl (lv_at hl 0 rfl) ?_
    refine lv_bipush (v := I 122) hx hb dX11_isLetter_7 (by decide) ?_
    refine lv_icmp_gt (tgt := 16) hx hb dX11_isLetter_9 (by decide) (fun c_2 => ?_) (fun c_2 => ?_)
    · replace c_2 := (I_lt (a := 122) (b := i) (show rng 122 from ⟨by decide, by decide⟩) ri).mp c_2
      refine lv_iconst (v := I 0) hx hb dX11_isLetter_16 (by decide) ?_
      exact th_zret hx hb hr hlocks hH hS (z := 0) (by omega) ⟨rfl, ⟨by omega, by omega⟩, by omega⟩ dX11_isLetter_17
    · replace c_2 := mt (I_lt (a := 122) (b := i) (show rng 122 from ⟨by decide, by decide⟩) ri).mpr c_2
      refine lv_iconst (v := I 1) hx hb dX11_isLetter_12 (by decide) ?_
      refine lv_goto (tgt := 17) hx hb dX11_isLetter_13 (by decide) ?_
      exact th_zret hx hb hr hlocks hH hS (z := 1) (by omega) ⟨rfl, ⟨by omega, by omega⟩, by omega⟩ dX11_isLetter_17

set_option maxHeartbeats 1000000 in
set_option maxRecDepth 100000 in
theorem w_isDigit (l : Launch) (G : va_G) (y : Nat → ClassId) (b0 : Nat) (σ : th_M) (E : th_E) (hO : ok y E σ) (i : Int) (ri : rng i) : Met l yX11_isDigit wsX11_isDigit ({ frames := 0, cells := 0, slots := 0, locals := 0 }) (th_P G y b0 σ [.int (I i)]) (th_Qi G b0 (fun r σ1 => σ1 = σ ∧ (0 ≤ r ∧ r ≤ 1) ∧ ((r = 1 ∧ 48 ≤ i ∧ i ≤ 57) ∨ (r = 0 ∧ ¬ (48 ≤ i ∧ i ≤ 57))))) 0 0 (th_A b0) := by
  refine Met.ofW (cc := cX11_isDigit) (maxL := 1) (ret := (some .boolean)) (by decide) rfl ?_
  intro p e s m args below meth c s₁ B hml hv
  obtain ⟨rfl, hH, hK⟩ := hv
  have hx := B.exec
  have hb := B.bytes
  have hr := B.returns
  have hts := atoms_spec (ws := wsX11_isDigit) B.pre
  have hown : s.vm.findClass RX11 = some m.cls := findClass_of_methodNamed B.named
  have hlocks := B.notSynchronized
  have h00 : b0 ≤ s.heap.size := hH.1
  have hS : va_S (th_A b0) s.heap s.heap [] := va_S.rf
  have hl := lv_entry ([.int (I i)]) (n := 1) (Nat.le_of_ble_eq_true rfl)
  rw [lg_entry_eq]
  generalize (lg_sl ([.int (I i)]) ++ List.replicate (1 - (lg_sl ([.int (I i)])).length) Slot.unset).toArray = ls at hl ⊢
  have hl : lv_has ls 1 [(0, .int (I i))] := hl
  refine lv_iload_n hx hb dX11_isDigit_0 rfl (lv_at hl 0 rfl) ?_
  refine lv_bipush (v := I 48) hx hb dX11_isDigit_1 (by decide) ?_
  refine lv_icmp_lt (tgt := 16) hx hb dX11_isDigit_3 (by decide) (fun c_1 => ?_) (fun c_1 => ?_)
  · replace c_1 := (I_lt (a := i) (b := 48) ri (show rng 48 from ⟨by decide, by decide⟩)).mp c_1
    refine lv_iconst (v := I 0) hx hb dX11_isDigit_16 (by decide) ?_
    exact th_zret hx hb hr hlocks hH hS (z := 0) (by omega) ⟨rfl, ⟨by omega, by omega⟩, by omega⟩ dX11_isDigit_17
  · replace c_1 := mt (I_lt (a := i) (b := 48) ri (show rng 48 from ⟨by decide, by decide⟩)).mpr c_1
    refine lv_iload_n hx hb dX11_isDigit_6 rfl (lv_at hl 0 rfl) ?_
    refine lv_bipush (v := I 57) hx hb dX11_isDigit_7 (by decide) ?_
    refine lv_icmp_gt (tgt := 16) hx hb dX11_isDigit_9 (by decide) (fun c_2 => ?_) (fun c_2 => ?_)
    · replace c_2 := (I_lt (a := 57) (b := i) (show rng 57 from ⟨by decide, by decide⟩) ri).mp c_2
      refine lv_iconst (v := I 0) hx hb dX11_isDigit_16 (by decide) ?_
      exact th_zret hx hb hr hlocks hH hS (z := 0) (by omega) ⟨rfl, ⟨by omega, by omega⟩, by omega⟩ dX11_isDigit_17
    · replace c_2 := mt (I_lt (a := 57) (b := i) (show rng 57 from ⟨by decide, by decide⟩) ri).mpr c_2
      refine lv_iconst (v := I 1) hx hb dX11_isDigit_12 (by decide) ?_
      refine lv_goto (tgt := 17) hx hb dX11_isDigit_13 (by decide) ?_
      exact th_zret hx hb hr hlocks hH hS (z := 1) (by omega) ⟨rfl, ⟨by omega, by omega⟩, by omega⟩ dX11_isDigit_17

set_option maxHeartbeats 1000000 in
set_option maxRecDepth 100000 in
theorem m_byteAt (l : Launch) (G : va_G) (y : Nat → ClassId) (b0 : Nat) (σ : th_M) (E : th_E) (hO : ok y E σ) (a : Nat) (h_a : kd E a = 13) (k : Int) (rk : rng k) (l_k : 0 ≤ k) (u_k : k ≤ 5000) (Bf : Int → Int) (hsr : sr E σ a Bf) : Met l yX11_byteAt wsX11_byteAt ({ frames := 0, cells := 0, slots := 0, locals := 0 }) (th_P G y b0 σ [.ref a, .int (I k)]) (th_Qi G b0 (fun r σ1 => σ1 = σ ∧ (r = Bf k ∧ (r = -1 ∨ k < gI σ a 11)))) 0 0 (th_A b0) := by
  refine Met.ofW (cc := cX11_byteAt) (maxL := 2) (ret := (some .int)) (by decide) rfl ?_
  intro p e s m args below meth c s₁ B hml hv
  obtain ⟨rfl, hH, hK⟩ := hv
  have hx := B.exec
  have hb := B.bytes
  have hr := B.returns
  have hts := atoms_spec (ws := wsX11_byteAt) B.pre
  have hown : s.vm.findClass RX11 = some m.cls := findClass_of_methodNamed B.named
  have hlocks := B.notSynchronized
  have h00 : b0 ≤ s.heap.size := hH.1
  have hS : va_S (th_A b0) s.heap s.heap [] := va_S.rf
  have inX11 : ∀ w ∈ wsX110, w ∈ wsX11_byteAt := by decide +kernel
  have fl0 := hts (.fieldLink RX11 117 "NestQueryModel" "textSize" "I") (by decide +kernel)
  have fl1 := hts (.fieldLink RX11 120 "NestQueryModel" "source" "[I") (by decide +kernel)
  have fl2 := hts (.fieldLink RX11 123 "NestQueryModel" "from" "I") (by decide +kernel)
  have hl := lv_entry ([.ref a, .int (I k)]) (n := 2) (Nat.le_of_ble_eq_true rfl)
  rw [lg_entry_eq]
  generalize (lg_sl ([.ref a, .int (I k)]) ++ List.replicate (2 - (lg_sl ([.ref a, .int (I k)])).length) Slot.unset).toArray = ls at hl ⊢
  have hl : lv_has ls 2 [(0, .ref a), (1, .int (I k))] := hl
  refine lv_iload_n hx hb dX11_byteAt_0 rfl (lv_at hl 1 rfl) ?_
  refine lv_aload_n hx hb dX11_byteAt_1 rfl (lv_at hl 0 rfl) ?_
  refine ok.getI hO h_a (by decide) k13_11 (fun _ _ he hv kk => th_get (ci := 11) (C := RX11) (T := TX11) (N := 66) hx hb hts inX11 hown hK hH he rfl 11 (by decide) fl0 hv dX11_byteAt_2 kk) (fun z_1 e_2 rz_1 lz_1 uz_1 => ?_)
  refine lv_icmp_ge (tgt := 22) hx hb dX11_byteAt_5 (by decide) (fun c_3 => ?_) (fun c_3 => ?_)
  · replace c_3 := (I_le (a := z_1) (b := k) rz_1 rk).mp c_3
    refine lv_iconst (v := I (-1)) hx hb dX11_byteAt_22 (by decide) ?_
    exact th_iret hx hb hr hlocks hH hS (z := (-1)) (show rng (-1) from ⟨by decide, by decide⟩) ⟨rfl, ⟨(hsr.2.2.2.1 k (by omega)).symm, Or.inl rfl⟩⟩ dX11_byteAt_23
  · replace c_3 := mt (I_le (a := z_1) (b := k) rz_1 rk).mpr c_3
    refine lv_aload_n hx hb dX11_byteAt_8 rfl (lv_at hl 0 rfl) ?_
    obtain ⟨hr10, hr11, hr12, hrB, ⟨hrs, hrl, hrb⟩ | ⟨hrs, hrl, hrb⟩⟩ := hsr
    · have hsr : sr E σ a Bf := ⟨hr10, hr11, hr12, hrB, Or.inl ⟨hrs, hrl, hrb⟩⟩
      refine ok.getS hO h_a hrs (fun _ _ he hv kk => th_get (ci := 11) (C := RX11) (T := TX11) (N := 66) hx hb hts inX11 hown hK hH he rfl 9 (by decide) fl1 hv dX11_byteAt_9 kk) ?_
      refine lv_aload_n hx hb dX11_byteAt_12 rfl (lv_at hl 0 rfl) ?_
      refine ok.getI hO h_a (by decide) k13_10 (fun _ _ he hv kk => th_get (ci := 11) (C := RX11) (T := TX11) (N := 66) hx hb hts inX11 hown hK hH he rfl 10 (by decide) fl2 hv dX11_byteAt_13 kk) (fun z_4 e_5 rz_4 lz_4 uz_4 => ?_)
      refine lv_iload_n hx hb dX11_byteAt_16 rfl (lv_at hl 1 rfl) ?_
      refine lv_iadd hx hb dX11_byteAt_17 ?_
      refine th_addo (fun z_6 rz_6 hz_6 => ?_)
      obtain ⟨f_8, ef_9⟩ : ∃ f9, aF σ (ad E a 6) = f9 := ⟨_, rfl⟩
      refine m_iald hx hb hK hH hO h_a k13_6 isA1 ef_9 rz_6 (by omega) (by omega) dX11_byteAt_18 (fun z_7 ez_7 rz_7 elx9 => ?_)
      refine lv_goto (tgt := 23) hx hb dX11_byteAt_19 (by decide) ?_
      exact th_iret hx hb hr hlocks hH hS (z := z_7) rz_7 ⟨rfl, ⟨by have h9 := hrb k (by omega) (by omega); rw [← h9, ef_9, show gI σ a 10 + k = z_6 by omega]; exact ez_7.symm, by omega⟩⟩ dX11_byteAt_23
    · have hsr : sr E σ a Bf := ⟨hr10, hr11, hr12, hrB, Or.inr ⟨hrs, hrl, hrb⟩⟩
      refine ok.getS hO h_a hrs (fun _ _ he hv kk => th_get (ci := 11) (C := RX11) (T := TX11) (N := 66) hx hb hts inX11 hown hK hH he rfl 9 (by decide) fl1 hv dX11_byteAt_9 kk) ?_
      refine lv_aload_n hx hb dX11_byteAt_12 rfl (lv_at hl 0 rfl) ?_
      refine ok.getI hO h_a (by decide) k13_10 (fun _ _ he hv kk => th_get (ci := 11) (C := RX11) (T := TX11) (N := 66) hx hb hts inX11 hown hK hH he rfl 10 (by decide) fl2 hv dX11_byteAt_13 kk) (fun z_10 e_11 rz_10 lz_10 uz_10 => ?_)
      refine lv_iload_n hx hb dX11_byteAt_16 rfl (lv_at hl 1 rfl) ?_
      refine lv_iadd hx hb dX11_byteAt_17 ?_
      refine th_addo (fun z_12 rz_12 hz_12 => ?_)
      obtain ⟨f_14, ef_15⟩ : ∃ f9, aF σ (ad E a 7) = f9 := ⟨_, rfl⟩
      refine m_iald hx hb hK hH hO h_a k13_7 isA1 ef_15 rz_12 (by omega) (by omega) dX11_byteAt_18 (fun z_13 ez_13 rz_13 elx9 => ?_)
      refine lv_goto (tgt := 23) hx hb dX11_byteAt_19 (by decide) ?_
      exact th_iret hx hb hr hlocks hH hS (z := z_13) rz_13 ⟨rfl, ⟨by have h9 := hrb k (by omega) (by omega); rw [← h9, ef_15, show gI σ a 10 + k = z_12 by omega]; exact ez_13.symm, by omega⟩⟩ dX11_byteAt_23

set_option maxHeartbeats 1000000 in
set_option maxRecDepth 100000 in
theorem m_stepOn (l : Launch) (G : va_G) (y : Nat → ClassId) (b0 : Nat) (σ : th_M) (E : th_E) (hO : ok y E σ) (a : Nat) (h_a : kd E a = 13) (Bf : Int → Int) (hsr : sr E σ a Bf) (hy0 : 0 ≤ gI σ a 13 ∧ gI σ a 13 ≤ gI σ a 11 ∧ gI σ a 11 ≤ 400) : Met l yX11_stepOn wsX11_stepOn ({ frames := 1, cells := 0, slots := 0, locals := 40 }) (th_P G y b0 σ [.ref a]) (th_Qv G b0 (fun σ1 => ok y E σ1 ∧ fr [13] E σ σ1 ∧ fm [13, 14, 15, 16, 17, 18] E σ σ1 a ∧ (gI σ a 13 ≤ gI σ1 a 13 ∧ gI σ1 a 13 ≤ gI σ a 11 ∧ 0 ≤ gI σ1 a 17 ∧ gI σ1 a 17 ≤ gI σ1 a 13 ∧ (gI σ1 a 14 = 0 ∨ gI σ a 13 < gI σ1 a 13)))) 0 0 (th_A b0) := by
  refine Met.ofW (cc := cX11_stepOn) (maxL := 3) (ret := none) (by decide) rfl ?_
  intro p e s m args below meth c s₁ B hml hv
  obtain ⟨rfl, hH, hK⟩ := hv
  have hx := B.exec
  have hb := B.bytes
  have hr := B.returns
  have hts := atoms_spec (ws := wsX11_stepOn) B.pre
  have hown : s.vm.findClass RX11 = some m.cls := findClass_of_methodNamed B.named
  have hlocks := B.notSynchronized
  have h00 : b0 ≤ s.heap.size := hH.1
  have hS : va_S (th_A b0) s.heap s.heap [] := va_S.rf
  have hF : fr [13] E σ σ := fr.rf
  have hM : fm [13, 14, 15, 16, 17, 18] E σ σ a := fm.rf
  have inX11 : ∀ w ∈ wsX110, w ∈ wsX11_stepOn := by decide +kernel
  have fl0 := hts (.fieldLink RX11 126 "NestQueryModel" "at" "I") (by decide +kernel)
  have fl1 := hts (.fieldLink RX11 133 "NestQueryModel" "begins" "I") (by decide +kernel)
  have fl2 := hts (.fieldLink RX11 136 "NestQueryModel" "token" "I") (by decide +kernel)
  have fl3 := hts (.fieldLink RX11 159 "NestQueryModel" "stops" "I") (by decide +kernel)
  have fl4 := hts (.fieldLink RX11 149 "NestQueryModel" "number" "I") (by decide +kernel)
  have fl5 := hts (.constant RX11 152 100000) (by decide +kernel)
  have fl6 := hts (.methodLink RX11 153 Lib.Math.min.name) (by decide +kernel)
  have fl7 := hts (.static Lib.Math.min.name) (by decide +kernel)
  have fl8 := hts (.initialized "java/lang/Math") (by decide +kernel)
  have fl9 := hts (.code Lib.Math.min.name Lib.Math.min.code 2 (some .int)) (by decide +kernel)
  have fl10 := hts (.fieldLink RX11 143 "NestQueryModel" "word" "I") (by decide +kernel)
  have hl := lv_entry ([.ref a]) (n := 3) (Nat.le_of_ble_eq_true rfl)
  rw [lg_entry_eq]
  generalize (lg_sl ([.ref a]) ++ List.replicate (3 - (lg_sl ([.ref a])).length) Slot.unset).toArray = ls at hl ⊢
  have hl : lv_has ls 3 [(0, .ref a)] := hl
  obtain ⟨a110, ea110, ra110, la110, ua110⟩ := hO.gi h_a (by decide) k13_11
  obtain ⟨a130, ea130, ra130, la130, ua130⟩ := hO.gi h_a (by decide) k13_13
  refine th_loop (α := Int) (pc := 0) (fun x9 => (gI σ a 11 - x9).toNat) (fun x9 σ9 H9 l9 ls9 => ok y E σ9 ∧ fr [13] E σ σ9 ∧ fm [13, 14, 15, 16, 17, 18] E σ σ9 a ∧ sr E σ9 a Bf ∧ th_H G b0 σ9 H9 ∧ va_S (th_A b0) s.heap H9 l9 ∧ lv_has ls9 3 [(0, .ref a)] ∧ rng x9 ∧ (gI σ a 13 ≤ x9) ∧ (x9 ≤ gI σ a 11) ∧ (gI σ9 a 11 = a110) ∧ (gI σ9 a 13 = x9)) ?_ (a130) σ _ _ _ ⟨hO, hF, hM, hsr, hH, hS, lv_sub hl [0] rfl, ra130, by first | omega | (dsimp only; omega), by first | omega | (dsimp only; omega), ea110, ea130⟩
  intro x9 σ_J_45 H locs ls hI9 ihJ_45
  obtain ⟨G13q43, ex9⟩ : ∃ z, z = x9 := ⟨_, rfl⟩
  subst ex9
  obtain ⟨hO, hF, hM, hsr, hH, hS, hl, rG13q43, J_45_0, J_45_1, J_45_2, J_45_3⟩ := hI9
  have hl : lv_has ls 3 [(0, .ref a)] := hl
  have rG13q43 : rng G13q43 := rG13q43
  have J_45_0 : gI σ a 13 ≤ G13q43 := J_45_0
  have J_45_1 : G13q43 ≤ gI σ a 11 := J_45_1
  have J_45_2 : gI σ_J_45 a 11 = a110 := J_45_2
  have J_45_3 : gI σ_J_45 a 13 = G13q43 := J_45_3
  refine lv_aload_n hx hb dX11_stepOn_0 rfl (lv_at hl 0 rfl) ?_
  refine lv_aload_n hx hb dX11_stepOn_1 rfl (lv_at hl 0 rfl) ?_
  refine ok.getIc hO h_a (by decide) k13_13 J_45_3 (fun _ _ he hv kk => th_get (ci := 11) (C := RX11) (T := TX11) (N := 66) hx hb hts inX11 hown hK hH he rfl 13 (by decide) fl0 hv dX11_stepOn_2 kk) ?_
  obtain ⟨_, hc_46⟩ := hO.cell h_a (by decide) (ci := 11) rfl
  refine th_calli (va_runV (As := [.int (I G13q43)]) (rest := []) ⟨hx, hb, hml, hown, hts⟩ (m_byteAt l G y b0 σ_J_45 E hO a h_a G13q43 (show rng G13q43 from rG13q43) (by omega) (by omega) Bf hsr) (cwV 1 hts gX11_stepOn_X11_byteAt rfl rfl rfl (by decide +kernel) ⟨Nat.le_of_ble_eq_true rfl, Nat.le_of_ble_eq_true rfl⟩) (th_PV hK hH rfl hc_46) rfl rfl hl.1 rfl (lv_room (Nat.le_of_ble_eq_true rfl)) dX11_stepOn_5 ⟨Nat.le_of_ble_eq_true rfl, Nat.le_of_ble_eq_true rfl⟩) hS (fun z_49 σ_s_48 H locs rz_49 hw_47 hH hS => ?_)
  obtain ⟨e9, hw_47⟩ := hw_47
  replace e9 := e9.symm
  subst e9
  have hw_47 : z_49 = Bf G13q43 ∧ (z_49 = -1 ∨ G13q43 < gI σ_J_45 a 11) := hw_47
  refine lv_bipush (v := I 32) hx hb dX11_stepOn_8 (by decide) ?_
  refine lv_icmp_eq (tgt := 26) hx hb dX11_stepOn_10 (by decide) (fun c_50 => ?_) (fun c_50 => ?_)
  · replace c_50 := (I_eq (a := z_49) (b := 32) rz_49 (show rng 32 from ⟨by decide, by decide⟩)).mp c_50
    refine lv_aload_n hx hb dX11_stepOn_26 rfl (lv_at hl 0 rfl) ?_
    refine lv_dup hx hb dX11_stepOn_27 rfl ?_
    refine ok.getIc hO h_a (by decide) k13_13 J_45_3 (fun _ _ he hv kk => th_get (ci := 11) (C := RX11) (T := TX11) (N := 66) hx hb hts inX11 hown hK hH he rfl 13 (by decide) fl0 hv dX11_stepOn_28 kk) ?_
    refine lv_iconst (v := I 1) hx hb dX11_stepOn_31 (by decide) ?_
    refine lv_iadd hx hb dX11_stepOn_32 ?_
    refine th_addo (fun z_51 rz_51 hz_51 => ?_)
    refine ok.putJ hO h_a k13_13 rz_51 (by omega) (by omega) (fun _ he hl9 kk => th_put (ci := 11) (v := .int (I z_51)) (ty := .int) (C := RX11) (T := TX11) (N := 66) hx hb hts inX11 tyX11 tyX11_ok nmX11 hown hK hH hS h00 he rfl 13 (by decide) fl0 rfl (by decide +kernel) rfl rfl hl9 dX11_stepOn_33 kk) (fun σ_s_52 H locs hO hF9 hM9 hg9 ha9 hH hS => ?_)
    replace hM := hM.tu hM9 (by decide)
    replace hF := hF.tu hF9 (by decide)
    have e_53 : gI σ_s_52 a 11 = a110 := (hM9.i (by decide)).trans J_45_2
    replace hsr := hsr.mv hM9 (by decide) (by decide) (by decide) (by decide) (by decide)
    have e_54 := hg9
    refine lv_goto (tgt := 0) hx hb dX11_stepOn_36 (by decide) ?_
    exact ihJ_45 (z_51) σ_s_52 _ _ _ (by first | omega | (dsimp only; omega)) ⟨hO, hF, hM, hsr, hH, hS, lv_sub hl [0] rfl, rz_51, by first | omega | (dsimp only; omega), by first | omega | (dsimp only; omega), e_53, e_54⟩
  · replace c_50 := mt (I_eq (a := z_49) (b := 32) rz_49 (show rng 32 from ⟨by decide, by decide⟩)).mpr c_50
    refine lv_aload_n hx hb dX11_stepOn_13 rfl (lv_at hl 0 rfl) ?_
    refine lv_aload_n hx hb dX11_stepOn_14 rfl (lv_at hl 0 rfl) ?_
    refine ok.getIc hO h_a (by decide) k13_13 J_45_3 (fun _ _ he hv kk => th_get (ci := 11) (C := RX11) (T := TX11) (N := 66) hx hb hts inX11 hown hK hH he rfl 13 (by decide) fl0 hv dX11_stepOn_15 kk) ?_
    obtain ⟨_, hc_55⟩ := hO.cell h_a (by decide) (ci := 11) rfl
    refine th_calli (va_runV (As := [.int (I G13q43)]) (rest := []) ⟨hx, hb, hml, hown, hts⟩ (m_byteAt l G y b0 σ_J_45 E hO a h_a G13q43 (show rng G13q43 from rG13q43) (by omega) (by omega) Bf hsr) (cwV 1 hts gX11_stepOn_X11_byteAt rfl rfl rfl (by decide +kernel) ⟨Nat.le_of_ble_eq_true rfl, Nat.le_of_ble_eq_true rfl⟩) (th_PV hK hH rfl hc_55) rfl rfl hl.1 rfl (lv_room (Nat.le_of_ble_eq_true rfl)) dX11_stepOn_18 ⟨Nat.le_of_ble_eq_true rfl, Nat.le_of_ble_eq_true rfl⟩) hS (fun z_58 σ_s_57 H locs rz_58 hw_56 hH hS => ?_)
    obtain ⟨e9, hw_56⟩ := hw_56
    replace e9 := e9.symm
    subst e9
    have hw_56 : z_58 = Bf G13q43 ∧ (z_58 = -1 ∨ G13q43 < gI σ_J_45 a 11) := hw_56
    refine lv_bipush (v := I 10) hx hb dX11_stepOn_21 (by decide) ?_
    refine lv_icmp_ne (tgt := 39) hx hb dX11_stepOn_23 (by decide) (fun c_59 => ?_) (fun c_59 => ?_)
    · replace c_59 := mt (I_eq (a := z_58) (b := 10) rz_58 (show rng 10 from ⟨by decide, by decide⟩)).mpr c_59
      refine lv_aload_n hx hb dX11_stepOn_39 rfl (lv_at hl 0 rfl) ?_
      refine lv_aload_n hx hb dX11_stepOn_40 rfl (lv_at hl 0 rfl) ?_
      refine ok.getIc hO h_a (by decide) k13_13 J_45_3 (fun _ _ he hv kk => th_get (ci := 11) (C := RX11) (T := TX11) (N := 66) hx hb hts inX11 hown hK hH he rfl 13 (by decide) fl0 hv dX11_stepOn_41 kk) ?_
      refine ok.putJ hO h_a k13_17 rG13q43 (by omega) (by omega) (fun _ he hl9 kk => th_put (ci := 11) (v := .int (I G13q43)) (ty := .int) (C := RX11) (T := TX11) (N := 66) hx hb hts inX11 tyX11 tyX11_ok nmX11 hown hK hH hS h00 he rfl 17 (by decide) fl1 rfl (by decide +kernel) rfl rfl hl9 dX11_stepOn_44 kk) (fun σ_s_60 H locs hO hF9 hM9 hg9 ha9 hH hS => ?_)
      replace hM := hM.tu hM9 (by decide)
      replace hF := hF.tu hF9 (by decide)
      have e_61 : gI σ_s_60 a 11 = a110 := (hM9.i (by decide)).trans J_45_2
      have e_62 : gI σ_s_60 a 13 = G13q43 := (hM9.i (by decide)).trans J_45_3
      replace hsr := hsr.mv hM9 (by decide) (by decide) (by decide) (by decide) (by decide)
      have e_63 := hg9
      refine lv_aload_n hx hb dX11_stepOn_47 rfl (lv_at hl 0 rfl) ?_
      refine lv_aload_n hx hb dX11_stepOn_48 rfl (lv_at hl 0 rfl) ?_
      refine ok.getIc hO h_a (by decide) k13_13 e_62 (fun _ _ he hv kk => th_get (ci := 11) (C := RX11) (T := TX11) (N := 66) hx hb hts inX11 hown hK hH he rfl 13 (by decide) fl0 hv dX11_stepOn_49 kk) ?_
      obtain ⟨_, hc_64⟩ := hO.cell h_a (by decide) (ci := 11) rfl
      refine th_calli (va_runV (As := [.int (I G13q43)]) (rest := []) ⟨hx, hb, hml, hown, hts⟩ (m_byteAt l G y b0 σ_s_60 E hO a h_a G13q43 (show rng G13q43 from rG13q43) (by omega) (by omega) Bf hsr) (cwV 1 hts gX11_stepOn_X11_byteAt rfl rfl rfl (by decide +kernel) ⟨Nat.le_of_ble_eq_true rfl, Nat.le_of_ble_eq_true rfl⟩) (th_PV hK hH rfl hc_64) rfl rfl hl.1 rfl (lv_room (Nat.le_of_ble_eq_true rfl)) dX11_stepOn_52 ⟨Nat.le_of_ble_eq_true rfl, Nat.le_of_ble_eq_true rfl⟩) hS (fun z_67 σ_s_66 H locs rz_67 hw_65 hH hS => ?_)
      obtain ⟨e9, hw_65⟩ := hw_65
      replace e9 := e9.symm
      subst e9
      have hw_65 : z_67 = Bf G13q43 ∧ (z_67 = -1 ∨ G13q43 < gI σ_s_60 a 11) := hw_65
      refine lv_istore_n (lv' := [(1, .int (I z_67)), (0, .ref a)]) hx hb dX11_stepOn_55 rfl hl (by decide) rfl (fun ls hl => ?_)
      refine lv_iload_n hx hb dX11_stepOn_56 rfl (lv_at hl 0 rfl) ?_
      refine lv_iconst (v := I (-1)) hx hb dX11_stepOn_57 (by decide) ?_
      refine lv_icmp_ne (tgt := 69) hx hb dX11_stepOn_58 (by decide) (fun c_68 => ?_) (fun c_68 => ?_)
      · replace c_68 := mt (I_eq (a := z_67) (b := (-1)) rz_67 (show rng (-1) from ⟨by decide, by decide⟩)).mpr c_68
        refine lv_iload_n hx hb dX11_stepOn_69 rfl (lv_at hl 0 rfl) ?_
        refine th_calli (va_runS (As := [.int (I z_67)]) (rest := []) ⟨hx, hb, hml, hown, hts⟩ (w_isLetter l G y b0 σ_s_60 E hO z_67 (show rng z_67 from rz_67)) (va_cwS 1 hts gX11_stepOn_X11_isLetter rfl rfl rfl (by decide +kernel) ⟨Nat.le_of_ble_eq_true rfl, Nat.le_of_ble_eq_true rfl⟩) (th_PS hK hH) rfl rfl hl.1 rfl (lv_room (Nat.le_of_ble_eq_true rfl)) dX11_stepOn_70 ⟨Nat.le_of_ble_eq_true rfl, Nat.le_of_ble_eq_true rfl⟩) hS (fun z_71 σ_s_70 H locs rz_71 hw_69 hH hS => ?_)
        obtain ⟨e9, bhw_69, hw_69⟩ := hw_69
        replace e9 := e9.symm
        subst e9
        have hw_69 : (z_71 = 1 ∧ 97 ≤ z_67 ∧ z_67 ≤ 122) ∨ (z_71 = 0 ∧ ¬ (97 ≤ z_67 ∧ z_67 ≤ 122)) := hw_69
        refine lv_if_eq (tgt := 162) hx hb dX11_stepOn_73 (by decide) (fun c_72 => ?_) (fun c_72 => ?_)
        · replace c_72 := (I_eq (a := z_71) (b := 0) rz_71 (show rng 0 from ⟨by decide, by decide⟩)).mp c_72
          refine lv_iload_n hx hb dX11_stepOn_162 rfl (lv_at hl 0 rfl) ?_
          refine th_calli (va_runS (As := [.int (I z_67)]) (rest := []) ⟨hx, hb, hml, hown, hts⟩ (w_isDigit l G y b0 σ_s_60 E hO z_67 (show rng z_67 from rz_67)) (va_cwS 1 hts gX11_stepOn_X11_isDigit rfl rfl rfl (by decide +kernel) ⟨Nat.le_of_ble_eq_true rfl, Nat.le_of_ble_eq_true rfl⟩) (th_PS hK hH) rfl rfl hl.1 rfl (lv_room (Nat.le_of_ble_eq_true rfl)) dX11_stepOn_163 ⟨Nat.le_of_ble_eq_true rfl, Nat.le_of_ble_eq_true rfl⟩) hS (fun z_75 σ_s_74 H locs rz_75 hw_73 hH hS => ?_)
          obtain ⟨e9, bhw_73, hw_73⟩ := hw_73
          replace e9 := e9.symm
          subst e9
          have hw_73 : (z_75 = 1 ∧ 48 ≤ z_67 ∧ z_67 ≤ 57) ∨ (z_75 = 0 ∧ ¬ (48 ≤ z_67 ∧ z_67 ≤ 57)) := hw_73
          refine lv_if_eq (tgt := 237) hx hb dX11_stepOn_166 (by decide) (fun c_76 => ?_) (fun c_76 => ?_)
          · replace c_76 := (I_eq (a := z_75) (b := 0) rz_75 (show rng 0 from ⟨by decide, by decide⟩)).mp c_76
            refine lv_iload_n hx hb dX11_stepOn_237 rfl (lv_at hl 0 rfl) ?_
            refine lv_bipush (v := I 46) hx hb dX11_stepOn_238 (by decide) ?_
            refine th_join (α := Unit) (J := 262) (stk := fun x9 => []) (fun x9 σ9 H9 l9 ls9 => σ9 = σ_s_60 ∧ th_H G b0 σ9 H9 ∧ va_S (th_A b0) s.heap H9 l9 ∧ lv_has ls9 3 [(0, .ref a)]) ?_ (fun jK_112 => ?_)
            · intro x9 σ_K_112 H locs ls hI9
              obtain ⟨eK_112, hH, hS, hl⟩ := hI9
              replace eK_112 := eK_112.symm
              subst eK_112
              have hl : lv_has ls 3 [(0, .ref a)] := hl
              refine lv_iconst (v := I 0) hx hb dX11_stepOn_262 (by decide) ?_
              refine lv_istore_n (lv' := [(2, .int (I 0)), (0, .ref a)]) hx hb dX11_stepOn_263 rfl hl (by decide) rfl (fun ls hl => ?_)
              refine lv_aload_n hx hb dX11_stepOn_264 rfl (lv_at hl 1 rfl) ?_
              refine lv_iload_n hx hb dX11_stepOn_265 rfl (lv_at hl 0 rfl) ?_
              refine lv_if_eq (tgt := 273) hx hb dX11_stepOn_266 (by decide) (fun _ => ?_) (fun c_114 => absurd (by decide) c_114)
              refine lv_iconst (v := I 3) hx hb dX11_stepOn_273 (by decide) ?_
              refine ok.putJ hO h_a k13_14 (show rng 3 from ⟨by decide, by decide⟩) (by omega) (by omega) (fun _ he hl9 kk => th_put (ci := 11) (v := .int (I 3)) (ty := .int) (C := RX11) (T := TX11) (N := 66) hx hb hts inX11 tyX11 tyX11_ok nmX11 hown hK hH hS h00 he rfl 14 (by decide) fl2 rfl (by decide +kernel) rfl rfl hl9 dX11_stepOn_274 kk) (fun σ_s_115 H locs hO hF9 hM9 hg9 ha9 hH hS => ?_)
              replace hM := hM.tu hM9 (by decide)
              replace hF := hF.tu hF9 (by decide)
              have e_116 : gI σ_s_115 a 11 = a110 := (hM9.i (by decide)).trans e_61
              have e_117 : gI σ_s_115 a 13 = G13q43 := (hM9.i (by decide)).trans e_62
              have e_118 : gI σ_s_115 a 17 = G13q43 := (hM9.i (by decide)).trans e_63
              replace hsr := hsr.mv hM9 (by decide) (by decide) (by decide) (by decide) (by decide)
              have e_119 := hg9
              refine lv_aload_n hx hb dX11_stepOn_277 rfl (lv_at hl 1 rfl) ?_
              refine lv_dup hx hb dX11_stepOn_278 rfl ?_
              refine ok.getIc hO h_a (by decide) k13_13 e_117 (fun _ _ he hv kk => th_get (ci := 11) (C := RX11) (T := TX11) (N := 66) hx hb hts inX11 hown hK hH he rfl 13 (by decide) fl0 hv dX11_stepOn_279 kk) ?_
              refine lv_iload_n hx hb dX11_stepOn_282 rfl (lv_at hl 0 rfl) ?_
              refine lv_if_eq (tgt := 290) hx hb dX11_stepOn_283 (by decide) (fun _ => ?_) (fun c_120 => absurd (by decide) c_120)
              refine lv_iconst (v := I 1) hx hb dX11_stepOn_290 (by decide) ?_
              refine lv_iadd hx hb dX11_stepOn_291 ?_
              refine th_addo (fun z_121 rz_121 hz_121 => ?_)
              refine ok.putJ hO h_a k13_13 rz_121 (by omega) (by omega) (fun _ he hl9 kk => th_put (ci := 11) (v := .int (I z_121)) (ty := .int) (C := RX11) (T := TX11) (N := 66) hx hb hts inX11 tyX11 tyX11_ok nmX11 hown hK hH hS h00 he rfl 13 (by decide) fl0 rfl (by decide +kernel) rfl rfl hl9 dX11_stepOn_292 kk) (fun σ_s_122 H locs hO hF9 hM9 hg9 ha9 hH hS => ?_)
              replace hM := hM.tu hM9 (by decide)
              replace hF := hF.tu hF9 (by decide)
              have e_123 : gI σ_s_122 a 11 = a110 := (hM9.i (by decide)).trans e_116
              have e_124 : gI σ_s_122 a 17 = G13q43 := (hM9.i (by decide)).trans e_118
              have e_125 : gI σ_s_122 a 14 = 3 := (hM9.i (by decide)).trans e_119
              replace hsr := hsr.mv hM9 (by decide) (by decide) (by decide) (by decide) (by decide)
              have e_126 := hg9
              refine lv_aload_n hx hb dX11_stepOn_295 rfl (lv_at hl 1 rfl) ?_
              refine lv_aload_n hx hb dX11_stepOn_296 rfl (lv_at hl 1 rfl) ?_
              refine ok.getIc hO h_a (by decide) k13_13 e_126 (fun _ _ he hv kk => th_get (ci := 11) (C := RX11) (T := TX11) (N := 66) hx hb hts inX11 hown hK hH he rfl 13 (by decide) fl0 hv dX11_stepOn_297 kk) ?_
              refine ok.putJ hO h_a k13_18 rz_121 (by omega) (by omega) (fun _ he hl9 kk => th_put (ci := 11) (v := .int (I z_121)) (ty := .int) (C := RX11) (T := TX11) (N := 66) hx hb hts inX11 tyX11 tyX11_ok nmX11 hown hK hH hS h00 he rfl 18 (by decide) fl3 rfl (by decide +kernel) rfl rfl hl9 dX11_stepOn_300 kk) (fun σ_s_127 H locs hO hF9 hM9 hg9 ha9 hH hS => ?_)
              replace hM := hM.tu hM9 (by decide)
              replace hF := hF.tu hF9 (by decide)
              have e_128 : gI σ_s_127 a 11 = a110 := (hM9.i (by decide)).trans e_123
              have e_129 : gI σ_s_127 a 17 = G13q43 := (hM9.i (by decide)).trans e_124
              have e_130 : gI σ_s_127 a 14 = 3 := (hM9.i (by decide)).trans e_125
              have e_131 : gI σ_s_127 a 13 = z_121 := (hM9.i (by decide)).trans e_126
              replace hsr := hsr.mv hM9 (by decide) (by decide) (by decide) (by decide) (by decide)
              have e_132 := hg9
              exact th_vret hx hb hr hlocks hH hS ⟨hO, hF, hM, by omega⟩ dX11_stepOn_303
            · refine lv_icmp_ne (tgt := 262) hx hb dX11_stepOn_240 (by decide) (fun c_140 => ?_) (fun c_140 => ?_)
              · replace c_140 := mt (I_eq (a := z_67) (b := 46) rz_67 (show rng 46 from ⟨by decide, by decide⟩)).mpr c_140
                replace hl : lv_has ls 3 [(0, .ref a)] := lv_sub hl [1] rfl
                exact jK_112 () σ_s_60 _ _ _ ⟨rfl, hH, hS, lv_sub hl [0] rfl⟩
              · replace c_140 := (I_eq (a := z_67) (b := 46) rz_67 (show rng 46 from ⟨by decide, by decide⟩)).mp c_140
                refine lv_aload_n hx hb dX11_stepOn_243 rfl (lv_at hl 1 rfl) ?_
                refine lv_aload_n hx hb dX11_stepOn_244 rfl (lv_at hl 1 rfl) ?_
                refine ok.getIc hO h_a (by decide) k13_13 e_62 (fun _ _ he hv kk => th_get (ci := 11) (C := RX11) (T := TX11) (N := 66) hx hb hts inX11 hown hK hH he rfl 13 (by decide) fl0 hv dX11_stepOn_245 kk) ?_
                refine lv_iconst (v := I 1) hx hb dX11_stepOn_248 (by decide) ?_
                refine lv_iadd hx hb dX11_stepOn_249 ?_
                refine th_addo (fun z_141 rz_141 hz_141 => ?_)
                obtain ⟨_, hc_142⟩ := hO.cell h_a (by decide) (ci := 11) rfl
                refine th_calli (va_runV (As := [.int (I z_141)]) (rest := []) ⟨hx, hb, hml, hown, hts⟩ (m_byteAt l G y b0 σ_s_60 E hO a h_a z_141 (show rng z_141 from rz_141) (by omega) (by omega) Bf hsr) (cwV 1 hts gX11_stepOn_X11_byteAt rfl rfl rfl (by decide +kernel) ⟨Nat.le_of_ble_eq_true rfl, Nat.le_of_ble_eq_true rfl⟩) (th_PV hK hH rfl hc_142) rfl rfl hl.1 rfl (lv_room (Nat.le_of_ble_eq_true rfl)) dX11_stepOn_250 ⟨Nat.le_of_ble_eq_true rfl, Nat.le_of_ble_eq_true rfl⟩) hS (fun z_145 σ_s_144 H locs rz_145 hw_143 hH hS => ?_)
                obtain ⟨e9, hw_143⟩ := hw_143
                replace e9 := e9.symm
                subst e9
                have hw_143 : z_145 = Bf z_141 ∧ (z_145 = -1 ∨ z_141 < gI σ_s_60 a 11) := hw_143
                refine lv_bipush (v := I 46) hx hb dX11_stepOn_253 (by decide) ?_
                refine lv_icmp_ne (tgt := 262) hx hb dX11_stepOn_255 (by decide) (fun c_146 => ?_) (fun c_146 => ?_)
                · replace c_146 := mt (I_eq (a := z_145) (b := 46) rz_145 (show rng 46 from ⟨by decide, by decide⟩)).mpr c_146
                  replace hl : lv_has ls 3 [(0, .ref a)] := lv_sub hl [1] rfl
                  exact jK_112 () σ_s_60 _ _ _ ⟨rfl, hH, hS, lv_sub hl [0] rfl⟩
                · replace c_146 := (I_eq (a := z_145) (b := 46) rz_145 (show rng 46 from ⟨by decide, by decide⟩)).mp c_146
                  refine lv_iconst (v := I 1) hx hb dX11_stepOn_258 (by decide) ?_
                  refine lv_goto (tgt := 263) hx hb dX11_stepOn_259 (by decide) ?_
                  refine lv_istore_n (lv' := [(2, .int (I 1)), (1, .int (I z_67)), (0, .ref a)]) hx hb dX11_stepOn_263 rfl hl (by decide) rfl (fun ls hl => ?_)
                  refine lv_aload_n hx hb dX11_stepOn_264 rfl (lv_at hl 2 rfl) ?_
                  refine lv_iload_n hx hb dX11_stepOn_265 rfl (lv_at hl 0 rfl) ?_
                  refine lv_if_eq (tgt := 273) hx hb dX11_stepOn_266 (by decide) (fun c_148 => absurd c_148 (by decide)) (fun _ => ?_)
                  refine lv_iconst (v := I 4) hx hb dX11_stepOn_269 (by decide) ?_
                  refine lv_goto (tgt := 274) hx hb dX11_stepOn_270 (by decide) ?_
                  refine ok.putJ hO h_a k13_14 (show rng 4 from ⟨by decide, by decide⟩) (by omega) (by omega) (fun _ he hl9 kk => th_put (ci := 11) (v := .int (I 4)) (ty := .int) (C := RX11) (T := TX11) (N := 66) hx hb hts inX11 tyX11 tyX11_ok nmX11 hown hK hH hS h00 he rfl 14 (by decide) fl2 rfl (by decide +kernel) rfl rfl hl9 dX11_stepOn_274 kk) (fun σ_s_149 H locs hO hF9 hM9 hg9 ha9 hH hS => ?_)
                  replace hM := hM.tu hM9 (by decide)
                  replace hF := hF.tu hF9 (by decide)
                  have e_150 : gI σ_s_149 a 11 = a110 := (hM9.i (by decide)).trans e_61
                  have e_151 : gI σ_s_149 a 13 = G13q43 := (hM9.i (by decide)).trans e_62
                  have e_152 : gI σ_s_149 a 17 = G13q43 := (hM9.i (by decide)).trans e_63
                  replace hsr := hsr.mv hM9 (by decide) (by decide) (by decide) (by decide) (by decide)
                  have e_153 := hg9
                  refine lv_aload_n hx hb dX11_stepOn_277 rfl (lv_at hl 2 rfl) ?_
                  refine lv_dup hx hb dX11_stepOn_278 rfl ?_
                  refine ok.getIc hO h_a (by decide) k13_13 e_151 (fun _ _ he hv kk => th_get (ci := 11) (C := RX11) (T := TX11) (N := 66) hx hb hts inX11 hown hK hH he rfl 13 (by decide) fl0 hv dX11_stepOn_279 kk) ?_
                  refine lv_iload_n hx hb dX11_stepOn_282 rfl (lv_at hl 0 rfl) ?_
                  refine lv_if_eq (tgt := 290) hx hb dX11_stepOn_283 (by decide) (fun c_154 => absurd c_154 (by decide)) (fun _ => ?_)
                  refine lv_iconst (v := I 2) hx hb dX11_stepOn_286 (by decide) ?_
                  refine lv_goto (tgt := 291) hx hb dX11_stepOn_287 (by decide) ?_
                  refine lv_iadd hx hb dX11_stepOn_291 ?_
                  refine th_addo (fun z_155 rz_155 hz_155 => ?_)
                  refine ok.putJ hO h_a k13_13 rz_155 (by omega) (by omega) (fun _ he hl9 kk => th_put (ci := 11) (v := .int (I z_155)) (ty := .int) (C := RX11) (T := TX11) (N := 66) hx hb hts inX11 tyX11 tyX11_ok nmX11 hown hK hH hS h00 he rfl 13 (by decide) fl0 rfl (by decide +kernel) rfl rfl hl9 dX11_stepOn_292 kk) (fun σ_s_156 H locs hO hF9 hM9 hg9 ha9 hH hS => ?_)
                  replace hM := hM.tu hM9 (by decide)
                  replace hF := hF.tu hF9 (by decide)
                  have e_157 : gI σ_s_156 a 11 = a110 := (hM9.i (by decide)).trans e_150
                  have e_158 : gI σ_s_156 a 17 = G13q43 := (hM9.i (by decide)).trans e_152
                  have e_159 : gI σ_s_156 a 14 = 4 := (hM9.i (by decide)).trans e_153
                  replace hsr := hsr.mv hM9 (by decide) (by decide) (by decide) (by decide) (by decide)
                  have e_160 := hg9
                  refine lv_aload_n hx hb dX11_stepOn_295 rfl (lv_at hl 2 rfl) ?_
                  refine lv_aload_n hx hb dX11_stepOn_296 rfl (lv_at hl 2 rfl) ?_
                  refine ok.getIc hO h_a (by decide) k13_13 e_160 (fun _ _ he hv kk => th_get (ci := 11) (C := RX11) (T := TX11) (N := 66) hx hb hts inX11 hown hK hH he rfl 13 (by decide) fl0 hv dX11_stepOn_297 kk) ?_
                  refine ok.putJ hO h_a k13_18 rz_155 (by omega) (by omega) (fun _ he hl9 kk => th_put (ci := 11) (v := .int (I z_155)) (ty := .int) (C := RX11) (T := TX11) (N := 66) hx hb hts inX11 tyX11 tyX11_ok nmX11 hown hK hH hS h00 he rfl 18 (by decide) fl3 rfl (by decide +kernel) rfl rfl hl9 dX11_stepOn_300 kk) (fun σ_s_161 H locs hO hF9 hM9 hg9 ha9 hH hS => ?_)
                  replace hM := hM.tu hM9 (by decide)
                  replace hF := hF.tu hF9 (by decide)
                  have e_162 : gI σ_s_161 a 11 = a110 := (hM9.i (by decide)).trans e_157
                  have e_163 : gI σ_s_161 a 17 = G13q43 := (hM9.i (by decide)).trans e_158
                  have e_164 : gI σ_s_161 a 14 = 4 := (hM9.i (by decide)).trans e_159
                  have e_165 : gI σ_s_161 a 13 = z_155 := (hM9.i (by decide)).trans e_160
                  replace hsr := hsr.mv hM9 (by decide) (by decide) (by decide) (by decide) (by decide)
                  have e_166 := hg9
                  exact th_vret hx hb hr hlocks hH hS ⟨hO, hF, hM, by omega⟩ dX11_stepOn_303
          · replace c_76 := mt (I_eq (a := z_75) (b := 0) rz_75 (show rng 0 from ⟨by decide, by decide⟩)).mpr c_76
            refine lv_aload_n hx hb dX11_stepOn_169 rfl (lv_at hl 1 rfl) ?_
            refine lv_iconst (v := I 0) hx hb dX11_stepOn_170 (by decide) ?_
            refine ok.putJ hO h_a k13_15 (show rng 0 from ⟨by decide, by decide⟩) (by omega) (by omega) (fun _ he hl9 kk => th_put (ci := 11) (v := .int (I 0)) (ty := .int) (C := RX11) (T := TX11) (N := 66) hx hb hts inX11 tyX11 tyX11_ok nmX11 hown hK hH hS h00 he rfl 15 (by decide) fl4 rfl (by decide +kernel) rfl rfl hl9 dX11_stepOn_171 kk) (fun σ_s_167 H locs hO hF9 hM9 hg9 ha9 hH hS => ?_)
            replace hM := hM.tu hM9 (by decide)
            replace hF := hF.tu hF9 (by decide)
            have e_168 : gI σ_s_167 a 11 = a110 := (hM9.i (by decide)).trans e_61
            have e_169 : gI σ_s_167 a 13 = G13q43 := (hM9.i (by decide)).trans e_62
            have e_170 : gI σ_s_167 a 17 = G13q43 := (hM9.i (by decide)).trans e_63
            replace hsr := hsr.mv hM9 (by decide) (by decide) (by decide) (by decide) (by decide)
            have e_171 := hg9
            replace hl : lv_has ls 3 [(0, .ref a)] := lv_sub hl [1] rfl
            refine th_loop (α := Int) (pc := 174) (fun x9 => (gI σ a 11 - x9).toNat) (fun x9 σ9 H9 l9 ls9 => ok y E σ9 ∧ fr [13] E σ σ9 ∧ fm [13, 14, 15, 16, 17, 18] E σ σ9 a ∧ sr E σ9 a Bf ∧ th_H G b0 σ9 H9 ∧ va_S (th_A b0) s.heap H9 l9 ∧ lv_has ls9 3 [(0, .ref a)] ∧ rng x9 ∧ (gI σ a 13 ≤ x9) ∧ (x9 ≤ gI σ a 11) ∧ (0 ≤ (gI σ_s_167 a 17)) ∧ ((gI σ_s_167 a 17) ≤ x9) ∧ (gI σ a 13 ≤ (gI σ_s_167 a 17)) ∧ (gI σ9 a 11 = a110) ∧ (gI σ9 a 17 = G13q43) ∧ (gI σ9 a 13 = x9)) ?_ (G13q43) σ_s_167 _ _ _ ⟨hO, hF, hM, hsr, hH, hS, lv_sub hl [0] rfl, rG13q43, by first | omega | (dsimp only; omega), by first | omega | (dsimp only; omega), by first | omega | (dsimp only; omega), by first | omega | (dsimp only; omega), by first | omega | (dsimp only; omega), e_168, e_170, e_169⟩
            intro x9 σ_J_234 H locs ls hI9 ihJ_234
            obtain ⟨G13q232, ex9⟩ : ∃ z, z = x9 := ⟨_, rfl⟩
            subst ex9
            obtain ⟨hO, hF, hM, hsr, hH, hS, hl, rG13q232, J_234_0, J_234_1, J_234_2, J_234_3, J_234_4, J_234_5, J_234_6, J_234_7⟩ := hI9
            have hl : lv_has ls 3 [(0, .ref a)] := hl
            have rG13q232 : rng G13q232 := rG13q232
            have J_234_0 : gI σ a 13 ≤ G13q232 := J_234_0
            have J_234_1 : G13q232 ≤ gI σ a 11 := J_234_1
            have J_234_2 : 0 ≤ (gI σ_s_167 a 17) := J_234_2
            have J_234_3 : (gI σ_s_167 a 17) ≤ G13q232 := J_234_3
            have J_234_4 : gI σ a 13 ≤ (gI σ_s_167 a 17) := J_234_4
            have J_234_5 : gI σ_J_234 a 11 = a110 := J_234_5
            have J_234_6 : gI σ_J_234 a 17 = G13q43 := J_234_6
            have J_234_7 : gI σ_J_234 a 13 = G13q232 := J_234_7
            refine lv_aload_n hx hb dX11_stepOn_174 rfl (lv_at hl 0 rfl) ?_
            refine lv_aload_n hx hb dX11_stepOn_175 rfl (lv_at hl 0 rfl) ?_
            refine ok.getIc hO h_a (by decide) k13_13 J_234_7 (fun _ _ he hv kk => th_get (ci := 11) (C := RX11) (T := TX11) (N := 66) hx hb hts inX11 hown hK hH he rfl 13 (by decide) fl0 hv dX11_stepOn_176 kk) ?_
            obtain ⟨_, hc_235⟩ := hO.cell h_a (by decide) (ci := 11) rfl
            refine th_calli (va_runV (As := [.int (I G13q232)]) (rest := []) ⟨hx, hb, hml, hown, hts⟩ (m_byteAt l G y b0 σ_J_234 E hO a h_a G13q232 (show rng G13q232 from rG13q232) (by omega) (by omega) Bf hsr) (cwV 1 hts gX11_stepOn_X11_byteAt rfl rfl rfl (by decide +kernel) ⟨Nat.le_of_ble_eq_true rfl, Nat.le_of_ble_eq_true rfl⟩) (th_PV hK hH rfl hc_235) rfl rfl hl.1 rfl (lv_room (Nat.le_of_ble_eq_true rfl)) dX11_stepOn_179 ⟨Nat.le_of_ble_eq_true rfl, Nat.le_of_ble_eq_true rfl⟩) hS (fun z_238 σ_s_237 H locs rz_238 hw_236 hH hS => ?_)
            obtain ⟨e9, hw_236⟩ := hw_236
            replace e9 := e9.symm
            subst e9
            have hw_236 : z_238 = Bf G13q232 ∧ (z_238 = -1 ∨ G13q232 < gI σ_J_234 a 11) := hw_236
            refine th_calli (va_runS (As := [.int (I z_238)]) (rest := []) ⟨hx, hb, hml, hown, hts⟩ (w_isDigit l G y b0 σ_J_234 E hO z_238 (show rng z_238 from rz_238)) (va_cwS 1 hts gX11_stepOn_X11_isDigit rfl rfl rfl (by decide +kernel) ⟨Nat.le_of_ble_eq_true rfl, Nat.le_of_ble_eq_true rfl⟩) (th_PS hK hH) rfl rfl hl.1 rfl (lv_room (Nat.le_of_ble_eq_true rfl)) dX11_stepOn_182 ⟨Nat.le_of_ble_eq_true rfl, Nat.le_of_ble_eq_true rfl⟩) hS (fun z_241 σ_s_240 H locs rz_241 hw_239 hH hS => ?_)
            obtain ⟨e9, bhw_239, hw_239⟩ := hw_239
            replace e9 := e9.symm
            subst e9
            have hw_239 : (z_241 = 1 ∧ 48 ≤ z_238 ∧ z_238 ≤ 57) ∨ (z_241 = 0 ∧ ¬ (48 ≤ z_238 ∧ z_238 ≤ 57)) := hw_239
            refine lv_if_eq (tgt := 229) hx hb dX11_stepOn_185 (by decide) (fun c_242 => ?_) (fun c_242 => ?_)
            · replace c_242 := (I_eq (a := z_241) (b := 0) rz_241 (show rng 0 from ⟨by decide, by decide⟩)).mp c_242
              have hne9 : G13q232 ≠ G13q43 := fun e9 => by rw [e9] at hw_236; omega
              refine lv_aload_n hx hb dX11_stepOn_229 rfl (lv_at hl 0 rfl) ?_
              refine lv_iconst (v := I 2) hx hb dX11_stepOn_230 (by decide) ?_
              refine ok.putJ hO h_a k13_14 (show rng 2 from ⟨by decide, by decide⟩) (by omega) (by omega) (fun _ he hl9 kk => th_put (ci := 11) (v := .int (I 2)) (ty := .int) (C := RX11) (T := TX11) (N := 66) hx hb hts inX11 tyX11 tyX11_ok nmX11 hown hK hH hS h00 he rfl 14 (by decide) fl2 rfl (by decide +kernel) rfl rfl hl9 dX11_stepOn_231 kk) (fun σ_s_243 H locs hO hF9 hM9 hg9 ha9 hH hS => ?_)
              replace hM := hM.tu hM9 (by decide)
              replace hF := hF.tu hF9 (by decide)
              have e_244 : gI σ_s_243 a 11 = a110 := (hM9.i (by decide)).trans J_234_5
              have e_245 : gI σ_s_243 a 17 = G13q43 := (hM9.i (by decide)).trans J_234_6
              have e_246 : gI σ_s_243 a 13 = G13q232 := (hM9.i (by decide)).trans J_234_7
              replace hsr := hsr.mv hM9 (by decide) (by decide) (by decide) (by decide) (by decide)
              have e_247 := hg9
              refine lv_goto (tgt := 295) hx hb dX11_stepOn_234 (by decide) ?_
              refine lv_aload_n hx hb dX11_stepOn_295 rfl (lv_at hl 0 rfl) ?_
              refine lv_aload_n hx hb dX11_stepOn_296 rfl (lv_at hl 0 rfl) ?_
              refine ok.getIc hO h_a (by decide) k13_13 e_246 (fun _ _ he hv kk => th_get (ci := 11) (C := RX11) (T := TX11) (N := 66) hx hb hts inX11 hown hK hH he rfl 13 (by decide) fl0 hv dX11_stepOn_297 kk) ?_
              refine ok.putJ hO h_a k13_18 rG13q232 (by omega) (by omega) (fun _ he hl9 kk => th_put (ci := 11) (v := .int (I G13q232)) (ty := .int) (C := RX11) (T := TX11) (N := 66) hx hb hts inX11 tyX11 tyX11_ok nmX11 hown hK hH hS h00 he rfl 18 (by decide) fl3 rfl (by decide +kernel) rfl rfl hl9 dX11_stepOn_300 kk) (fun σ_s_248 H locs hO hF9 hM9 hg9 ha9 hH hS => ?_)
              replace hM := hM.tu hM9 (by decide)
              replace hF := hF.tu hF9 (by decide)
              have e_249 : gI σ_s_248 a 11 = a110 := (hM9.i (by decide)).trans e_244
              have e_250 : gI σ_s_248 a 17 = G13q43 := (hM9.i (by decide)).trans e_245
              have e_251 : gI σ_s_248 a 13 = G13q232 := (hM9.i (by decide)).trans e_246
              have e_252 : gI σ_s_248 a 14 = 2 := (hM9.i (by decide)).trans e_247
              replace hsr := hsr.mv hM9 (by decide) (by decide) (by decide) (by decide) (by decide)
              have e_253 := hg9
              exact th_vret hx hb hr hlocks hH hS ⟨hO, hF, hM, by omega⟩ dX11_stepOn_303
            · replace c_242 := mt (I_eq (a := z_241) (b := 0) rz_241 (show rng 0 from ⟨by decide, by decide⟩)).mpr c_242
              refine lv_aload_n hx hb dX11_stepOn_188 rfl (lv_at hl 0 rfl) ?_
              refine lv_ldc (v := I 100000) hx hb hown fl5 dX11_stepOn_189 ?_
              refine lv_bipush (v := I 10) hx hb dX11_stepOn_191 (by decide) ?_
              refine lv_aload_n hx hb dX11_stepOn_193 rfl (lv_at hl 0 rfl) ?_
              refine ok.getI hO h_a (by decide) k13_15 (fun _ _ he hv kk => th_get (ci := 11) (C := RX11) (T := TX11) (N := 66) hx hb hts inX11 hown hK hH he rfl 15 (by decide) fl4 hv dX11_stepOn_194 kk) (fun z_254 e_255 rz_254 lz_254 uz_254 => ?_)
              refine lv_imul hx hb dX11_stepOn_197 ?_
              refine nq_top (I_mul _ _) ?_
              refine lv_aload_n hx hb dX11_stepOn_198 rfl (lv_at hl 0 rfl) ?_
              refine lv_aload_n hx hb dX11_stepOn_199 rfl (lv_at hl 0 rfl) ?_
              refine ok.getIc hO h_a (by decide) k13_13 J_234_7 (fun _ _ he hv kk => th_get (ci := 11) (C := RX11) (T := TX11) (N := 66) hx hb hts inX11 hown hK hH he rfl 13 (by decide) fl0 hv dX11_stepOn_200 kk) ?_
              obtain ⟨_, hc_256⟩ := hO.cell h_a (by decide) (ci := 11) rfl
              refine th_calli (va_runV (As := [.int (I G13q232)]) (rest := [.int (I (10 * z_254)), .int (I 100000), .ref a]) ⟨hx, hb, hml, hown, hts⟩ (m_byteAt l G y b0 σ_J_234 E hO a h_a G13q232 (show rng G13q232 from rG13q232) (by omega) (by omega) Bf hsr) (cwV 1 hts gX11_stepOn_X11_byteAt rfl rfl rfl (by decide +kernel) ⟨Nat.le_of_ble_eq_true rfl, Nat.le_of_ble_eq_true rfl⟩) (th_PV hK hH rfl hc_256) rfl rfl hl.1 rfl (lv_room (Nat.le_of_ble_eq_true rfl)) dX11_stepOn_203 ⟨Nat.le_of_ble_eq_true rfl, Nat.le_of_ble_eq_true rfl⟩) hS (fun z_259 σ_s_258 H locs rz_259 hw_257 hH hS => ?_)
              obtain ⟨e9, hw_257⟩ := hw_257
              replace e9 := e9.symm
              subst e9
              have hw_257 : z_259 = Bf G13q232 ∧ (z_259 = -1 ∨ G13q232 < gI σ_J_234 a 11) := hw_257
              refine lv_iadd hx hb dX11_stepOn_206 ?_
              refine th_addo (fun z_260 rz_260 hz_260 => ?_)
              refine lv_bipush (v := I 48) hx hb dX11_stepOn_207 (by decide) ?_
              refine lv_isub hx hb dX11_stepOn_209 ?_
              refine th_subo (fun z_261 rz_261 hz_261 => ?_)
              refine va_mmin hx hb (by rw [hml]; exact hl.1.symm) hown fl6 fl7 fl8 fl9 (Nat.le_of_ble_eq_true rfl) (Nat.le_of_ble_eq_true rfl) (Nat.zero_le _) (Nat.zero_le _) dX11_stepOn_210 ?_
              refine th_mmin (show rng 100000 from ⟨by decide, by decide⟩) rz_261 (fun z_262 rz_262 hz_262 => ?_)
              refine ok.putJ hO h_a k13_15 rz_262 (by omega) (by omega) (fun _ he hl9 kk => th_put (ci := 11) (v := .int (I z_262)) (ty := .int) (C := RX11) (T := TX11) (N := 66) hx hb hts inX11 tyX11 tyX11_ok nmX11 hown hK hH hS h00 he rfl 15 (by decide) fl4 rfl (by decide +kernel) rfl rfl hl9 dX11_stepOn_213 kk) (fun σ_s_263 H locs hO hF9 hM9 hg9 ha9 hH hS => ?_)
              replace hM := hM.tu hM9 (by decide)
              replace hF := hF.tu hF9 (by decide)
              have e_264 : gI σ_s_263 a 11 = a110 := (hM9.i (by decide)).trans J_234_5
              have e_265 : gI σ_s_263 a 17 = G13q43 := (hM9.i (by decide)).trans J_234_6
              have e_266 : gI σ_s_263 a 13 = G13q232 := (hM9.i (by decide)).trans J_234_7
              replace hsr := hsr.mv hM9 (by decide) (by decide) (by decide) (by decide) (by decide)
              have e_267 := hg9
              refine lv_aload_n hx hb dX11_stepOn_216 rfl (lv_at hl 0 rfl) ?_
              refine lv_dup hx hb dX11_stepOn_217 rfl ?_
              refine ok.getIc hO h_a (by decide) k13_13 e_266 (fun _ _ he hv kk => th_get (ci := 11) (C := RX11) (T := TX11) (N := 66) hx hb hts inX11 hown hK hH he rfl 13 (by decide) fl0 hv dX11_stepOn_218 kk) ?_
              refine lv_iconst (v := I 1) hx hb dX11_stepOn_221 (by decide) ?_
              refine lv_iadd hx hb dX11_stepOn_222 ?_
              refine th_addo (fun z_268 rz_268 hz_268 => ?_)
              refine ok.putJ hO h_a k13_13 rz_268 (by omega) (by omega) (fun _ he hl9 kk => th_put (ci := 11) (v := .int (I z_268)) (ty := .int) (C := RX11) (T := TX11) (N := 66) hx hb hts inX11 tyX11 tyX11_ok nmX11 hown hK hH hS h00 he rfl 13 (by decide) fl0 rfl (by decide +kernel) rfl rfl hl9 dX11_stepOn_223 kk) (fun σ_s_269 H locs hO hF9 hM9 hg9 ha9 hH hS => ?_)
              replace hM := hM.tu hM9 (by decide)
              replace hF := hF.tu hF9 (by decide)
              have e_270 : gI σ_s_269 a 11 = a110 := (hM9.i (by decide)).trans e_264
              have e_271 : gI σ_s_269 a 17 = G13q43 := (hM9.i (by decide)).trans e_265
              have e_272 : gI σ_s_269 a 15 = z_262 := (hM9.i (by decide)).trans e_267
              replace hsr := hsr.mv hM9 (by decide) (by decide) (by decide) (by decide) (by decide)
              have e_273 := hg9
              refine lv_goto (tgt := 174) hx hb dX11_stepOn_226 (by decide) ?_
              exact ihJ_234 (z_268) σ_s_269 _ _ _ (by first | omega | (dsimp only; omega)) ⟨hO, hF, hM, hsr, hH, hS, lv_sub hl [0] rfl, rz_268, by first | omega | (dsimp only; omega), by first | omega | (dsimp only; omega), by first | omega | (dsimp only; omega), by first | omega | (dsimp only; omega), by first | omega | (dsimp only; omega), e_270, e_271, e_273⟩
        · replace c_72 := mt (I_eq (a := z_71) (b := 0) rz_71 (show rng 0 from ⟨by decide, by decide⟩)).mpr c_72
          refine lv_aload_n hx hb dX11_stepOn_76 rfl (lv_at hl 1 rfl) ?_
          refine lv_iconst (v := I 0) hx hb dX11_stepOn_77 (by decide) ?_
          refine ok.putJ hO h_a k13_16 (show rng 0 from ⟨by decide, by decide⟩) (by omega) (by omega) (fun _ he hl9 kk => th_put (ci := 11) (v := .int (I 0)) (ty := .int) (C := RX11) (T := TX11) (N := 66) hx hb hts inX11 tyX11 tyX11_ok nmX11 hown hK hH hS h00 he rfl 16 (by decide) fl10 rfl (by decide +kernel) rfl rfl hl9 dX11_stepOn_78 kk) (fun σ_s_274 H locs hO hF9 hM9 hg9 ha9 hH hS => ?_)
          replace hM := hM.tu hM9 (by decide)
          replace hF := hF.tu hF9 (by decide)
          have e_275 : gI σ_s_274 a 11 = a110 := (hM9.i (by decide)).trans e_61
          have e_276 : gI σ_s_274 a 13 = G13q43 := (hM9.i (by decide)).trans e_62
          have e_277 : gI σ_s_274 a 17 = G13q43 := (hM9.i (by decide)).trans e_63
          replace hsr := hsr.mv hM9 (by decide) (by decide) (by decide) (by decide) (by decide)
          have e_278 := hg9
          replace hl : lv_has ls 3 [(0, .ref a)] := lv_sub hl [1] rfl
          refine th_loop (α := Int) (pc := 81) (fun x9 => (gI σ a 11 - x9).toNat) (fun x9 σ9 H9 l9 ls9 => ok y E σ9 ∧ fr [13] E σ σ9 ∧ fm [13, 14, 15, 16, 17, 18] E σ σ9 a ∧ sr E σ9 a Bf ∧ th_H G b0 σ9 H9 ∧ va_S (th_A b0) s.heap H9 l9 ∧ lv_has ls9 3 [(0, .ref a)] ∧ rng x9 ∧ (gI σ a 13 ≤ x9) ∧ (x9 ≤ gI σ a 11) ∧ (0 ≤ (gI σ_s_274 a 17)) ∧ ((gI σ_s_274 a 17) ≤ x9) ∧ (gI σ a 13 ≤ (gI σ_s_274 a 17)) ∧ (gI σ9 a 11 = a110) ∧ (gI σ9 a 17 = G13q43) ∧ (gI σ9 a 13 = x9)) ?_ (G13q43) σ_s_274 _ _ _ ⟨hO, hF, hM, hsr, hH, hS, lv_sub hl [0] rfl, rG13q43, by first | omega | (dsimp only; omega), by first | omega | (dsimp only; omega), by first | omega | (dsimp only; omega), by first | omega | (dsimp only; omega), by first | omega | (dsimp only; omega), e_275, e_277, e_276⟩
          intro x9 σ_J_369 H locs ls hI9 ihJ_369
          obtain ⟨G13q367, ex9⟩ : ∃ z, z = x9 := ⟨_, rfl⟩
          subst ex9
          obtain ⟨hO, hF, hM, hsr, hH, hS, hl, rG13q367, J_369_0, J_369_1, J_369_2, J_369_3, J_369_4, J_369_5, J_369_6, J_369_7⟩ := hI9
          have hl : lv_has ls 3 [(0, .ref a)] := hl
          have rG13q367 : rng G13q367 := rG13q367
          have J_369_0 : gI σ a 13 ≤ G13q367 := J_369_0
          have J_369_1 : G13q367 ≤ gI σ a 11 := J_369_1
          have J_369_2 : 0 ≤ (gI σ_s_274 a 17) := J_369_2
          have J_369_3 : (gI σ_s_274 a 17) ≤ G13q367 := J_369_3
          have J_369_4 : gI σ a 13 ≤ (gI σ_s_274 a 17) := J_369_4
          have J_369_5 : gI σ_J_369 a 11 = a110 := J_369_5
          have J_369_6 : gI σ_J_369 a 17 = G13q43 := J_369_6
          have J_369_7 : gI σ_J_369 a 13 = G13q367 := J_369_7
          refine lv_aload_n hx hb dX11_stepOn_81 rfl (lv_at hl 0 rfl) ?_
          refine lv_aload_n hx hb dX11_stepOn_82 rfl (lv_at hl 0 rfl) ?_
          refine ok.getIc hO h_a (by decide) k13_13 J_369_7 (fun _ _ he hv kk => th_get (ci := 11) (C := RX11) (T := TX11) (N := 66) hx hb hts inX11 hown hK hH he rfl 13 (by decide) fl0 hv dX11_stepOn_83 kk) ?_
          obtain ⟨_, hc_370⟩ := hO.cell h_a (by decide) (ci := 11) rfl
          refine th_calli (va_runV (As := [.int (I G13q367)]) (rest := []) ⟨hx, hb, hml, hown, hts⟩ (m_byteAt l G y b0 σ_J_369 E hO a h_a G13q367 (show rng G13q367 from rG13q367) (by omega) (by omega) Bf hsr) (cwV 1 hts gX11_stepOn_X11_byteAt rfl rfl rfl (by decide +kernel) ⟨Nat.le_of_ble_eq_true rfl, Nat.le_of_ble_eq_true rfl⟩) (th_PV hK hH rfl hc_370) rfl rfl hl.1 rfl (lv_room (Nat.le_of_ble_eq_true rfl)) dX11_stepOn_86 ⟨Nat.le_of_ble_eq_true rfl, Nat.le_of_ble_eq_true rfl⟩) hS (fun z_373 σ_s_372 H locs rz_373 hw_371 hH hS => ?_)
          obtain ⟨e9, hw_371⟩ := hw_371
          replace e9 := e9.symm
          subst e9
          have hw_371 : z_373 = Bf G13q367 ∧ (z_373 = -1 ∨ G13q367 < gI σ_J_369 a 11) := hw_371
          refine th_calli (va_runS (As := [.int (I z_373)]) (rest := []) ⟨hx, hb, hml, hown, hts⟩ (w_isLetter l G y b0 σ_J_369 E hO z_373 (show rng z_373 from rz_373)) (va_cwS 1 hts gX11_stepOn_X11_isLetter rfl rfl rfl (by decide +kernel) ⟨Nat.le_of_ble_eq_true rfl, Nat.le_of_ble_eq_true rfl⟩) (th_PS hK hH) rfl rfl hl.1 rfl (lv_room (Nat.le_of_ble_eq_true rfl)) dX11_stepOn_89 ⟨Nat.le_of_ble_eq_true rfl, Nat.le_of_ble_eq_true rfl⟩) hS (fun z_376 σ_s_375 H locs rz_376 hw_374 hH hS => ?_)
          obtain ⟨e9, bhw_374, hw_374⟩ := hw_374
          replace e9 := e9.symm
          subst e9
          have hw_374 : (z_376 = 1 ∧ 97 ≤ z_373 ∧ z_373 ≤ 122) ∨ (z_376 = 0 ∧ ¬ (97 ≤ z_373 ∧ z_373 ≤ 122)) := hw_374
          refine lv_if_eq (tgt := 154) hx hb dX11_stepOn_92 (by decide) (fun c_377 => ?_) (fun c_377 => ?_)
          · replace c_377 := (I_eq (a := z_376) (b := 0) rz_376 (show rng 0 from ⟨by decide, by decide⟩)).mp c_377
            have hne9 : G13q367 ≠ G13q43 := fun e9 => by rw [e9] at hw_371; omega
            refine lv_aload_n hx hb dX11_stepOn_154 rfl (lv_at hl 0 rfl) ?_
            refine lv_iconst (v := I 1) hx hb dX11_stepOn_155 (by decide) ?_
            refine ok.putJ hO h_a k13_14 (show rng 1 from ⟨by decide, by decide⟩) (by omega) (by omega) (fun _ he hl9 kk => th_put (ci := 11) (v := .int (I 1)) (ty := .int) (C := RX11) (T := TX11) (N := 66) hx hb hts inX11 tyX11 tyX11_ok nmX11 hown hK hH hS h00 he rfl 14 (by decide) fl2 rfl (by decide +kernel) rfl rfl hl9 dX11_stepOn_156 kk) (fun σ_s_378 H locs hO hF9 hM9 hg9 ha9 hH hS => ?_)
            replace hM := hM.tu hM9 (by decide)
            replace hF := hF.tu hF9 (by decide)
            have e_379 : gI σ_s_378 a 11 = a110 := (hM9.i (by decide)).trans J_369_5
            have e_380 : gI σ_s_378 a 17 = G13q43 := (hM9.i (by decide)).trans J_369_6
            have e_381 : gI σ_s_378 a 13 = G13q367 := (hM9.i (by decide)).trans J_369_7
            replace hsr := hsr.mv hM9 (by decide) (by decide) (by decide) (by decide) (by decide)
            have e_382 := hg9
            refine lv_goto (tgt := 295) hx hb dX11_stepOn_159 (by decide) ?_
            refine lv_aload_n hx hb dX11_stepOn_295 rfl (lv_at hl 0 rfl) ?_
            refine lv_aload_n hx hb dX11_stepOn_296 rfl (lv_at hl 0 rfl) ?_
            refine ok.getIc hO h_a (by decide) k13_13 e_381 (fun _ _ he hv kk => th_get (ci := 11) (C := RX11) (T := TX11) (N := 66) hx hb hts inX11 hown hK hH he rfl 13 (by decide) fl0 hv dX11_stepOn_297 kk) ?_
            refine ok.putJ hO h_a k13_18 rG13q367 (by omega) (by omega) (fun _ he hl9 kk => th_put (ci := 11) (v := .int (I G13q367)) (ty := .int) (C := RX11) (T := TX11) (N := 66) hx hb hts inX11 tyX11 tyX11_ok nmX11 hown hK hH hS h00 he rfl 18 (by decide) fl3 rfl (by decide +kernel) rfl rfl hl9 dX11_stepOn_300 kk) (fun σ_s_383 H locs hO hF9 hM9 hg9 ha9 hH hS => ?_)
            replace hM := hM.tu hM9 (by decide)
            replace hF := hF.tu hF9 (by decide)
            have e_384 : gI σ_s_383 a 11 = a110 := (hM9.i (by decide)).trans e_379
            have e_385 : gI σ_s_383 a 17 = G13q43 := (hM9.i (by decide)).trans e_380
            have e_386 : gI σ_s_383 a 13 = G13q367 := (hM9.i (by decide)).trans e_381
            have e_387 : gI σ_s_383 a 14 = 1 := (hM9.i (by decide)).trans e_382
            replace hsr := hsr.mv hM9 (by decide) (by decide) (by decide) (by decide) (by decide)
            have e_388 := hg9
            exact th_vret hx hb hr hlocks hH hS ⟨hO, hF, hM, by omega⟩ dX11_stepOn_303
          · replace c_377 := mt (I_eq (a := z_376) (b := 0) rz_376 (show rng 0 from ⟨by decide, by decide⟩)).mpr c_377
            refine lv_aload_n hx hb dX11_stepOn_95 rfl (lv_at hl 0 rfl) ?_
            refine lv_aload_n hx hb dX11_stepOn_96 rfl (lv_at hl 0 rfl) ?_
            refine ok.getIc hO h_a (by decide) k13_13 J_369_7 (fun _ _ he hv kk => th_get (ci := 11) (C := RX11) (T := TX11) (N := 66) hx hb hts inX11 hown hK hH he rfl 13 (by decide) fl0 hv dX11_stepOn_97 kk) ?_
            refine lv_aload_n hx hb dX11_stepOn_100 rfl (lv_at hl 0 rfl) ?_
            refine ok.getIc hO h_a (by decide) k13_17 J_369_6 (fun _ _ he hv kk => th_get (ci := 11) (C := RX11) (T := TX11) (N := 66) hx hb hts inX11 hown hK hH he rfl 17 (by decide) fl1 hv dX11_stepOn_101 kk) ?_
            refine lv_isub hx hb dX11_stepOn_104 ?_
            refine th_subo (fun z_389 rz_389 hz_389 => ?_)
            refine lv_bipush (v := I 6) hx hb dX11_stepOn_105 (by decide) ?_
            refine lv_icmp_ge (tgt := 134) hx hb dX11_stepOn_107 (by decide) (fun c_390 => ?_) (fun c_390 => ?_)
            · replace c_390 := (I_le (a := 6) (b := z_389) (show rng 6 from ⟨by decide, by decide⟩) rz_389).mp c_390
              refine lv_aload_n hx hb dX11_stepOn_134 rfl (lv_at hl 0 rfl) ?_
              refine ok.getI hO h_a (by decide) k13_16 (fun _ _ he hv kk => th_get (ci := 11) (C := RX11) (T := TX11) (N := 66) hx hb hts inX11 hown hK hH he rfl 16 (by decide) fl10 hv dX11_stepOn_135 kk) (fun z_391 e_392 rz_391 lz_391 uz_391 => ?_)
              refine ok.putJ hO h_a k13_16 rz_391 (by omega) (by omega) (fun _ he hl9 kk => th_put (ci := 11) (v := .int (I z_391)) (ty := .int) (C := RX11) (T := TX11) (N := 66) hx hb hts inX11 tyX11 tyX11_ok nmX11 hown hK hH hS h00 he rfl 16 (by decide) fl10 rfl (by decide +kernel) rfl rfl hl9 dX11_stepOn_138 kk) (fun σ_s_393 H locs hO hF9 hM9 hg9 ha9 hH hS => ?_)
              replace hM := hM.tu hM9 (by decide)
              replace hF := hF.tu hF9 (by decide)
              have e_394 : gI σ_s_393 a 11 = a110 := (hM9.i (by decide)).trans J_369_5
              have e_395 : gI σ_s_393 a 17 = G13q43 := (hM9.i (by decide)).trans J_369_6
              have e_396 : gI σ_s_393 a 13 = G13q367 := (hM9.i (by decide)).trans J_369_7
              replace hsr := hsr.mv hM9 (by decide) (by decide) (by decide) (by decide) (by decide)
              have e_397 := hg9
              refine lv_aload_n hx hb dX11_stepOn_141 rfl (lv_at hl 0 rfl) ?_
              refine lv_dup hx hb dX11_stepOn_142 rfl ?_
              refine ok.getIc hO h_a (by decide) k13_13 e_396 (fun _ _ he hv kk => th_get (ci := 11) (C := RX11) (T := TX11) (N := 66) hx hb hts inX11 hown hK hH he rfl 13 (by decide) fl0 hv dX11_stepOn_143 kk) ?_
              refine lv_iconst (v := I 1) hx hb dX11_stepOn_146 (by decide) ?_
              refine lv_iadd hx hb dX11_stepOn_147 ?_
              refine th_addo (fun z_398 rz_398 hz_398 => ?_)
              refine ok.putJ hO h_a k13_13 rz_398 (by omega) (by omega) (fun _ he hl9 kk => th_put (ci := 11) (v := .int (I z_398)) (ty := .int) (C := RX11) (T := TX11) (N := 66) hx hb hts inX11 tyX11 tyX11_ok nmX11 hown hK hH hS h00 he rfl 13 (by decide) fl0 rfl (by decide +kernel) rfl rfl hl9 dX11_stepOn_148 kk) (fun σ_s_399 H locs hO hF9 hM9 hg9 ha9 hH hS => ?_)
              replace hM := hM.tu hM9 (by decide)
              replace hF := hF.tu hF9 (by decide)
              have e_400 : gI σ_s_399 a 11 = a110 := (hM9.i (by decide)).trans e_394
              have e_401 : gI σ_s_399 a 17 = G13q43 := (hM9.i (by decide)).trans e_395
              have e_402 : gI σ_s_399 a 16 = z_391 := (hM9.i (by decide)).trans e_397
              replace hsr := hsr.mv hM9 (by decide) (by decide) (by decide) (by decide) (by decide)
              have e_403 := hg9
              refine lv_goto (tgt := 81) hx hb dX11_stepOn_151 (by decide) ?_
              exact ihJ_369 (z_398) σ_s_399 _ _ _ (by first | omega | (dsimp only; omega)) ⟨hO, hF, hM, hsr, hH, hS, lv_sub hl [0] rfl, rz_398, by first | omega | (dsimp only; omega), by first | omega | (dsimp only; omega), by first | omega | (dsimp only; omega), by first | omega | (dsimp only; omega), by first | omega | (dsimp only; omega), e_400, e_401, e_403⟩
            · replace c_390 := mt (I_le (a := 6) (b := z_389) (show rng 6 from ⟨by decide, by decide⟩) rz_389).mpr c_390
              refine lv_bipush (v := I 32) hx hb dX11_stepOn_110 (by decide) ?_
              refine lv_aload_n hx hb dX11_stepOn_112 rfl (lv_at hl 0 rfl) ?_
              refine ok.getI hO h_a (by decide) k13_16 (fun _ _ he hv kk => th_get (ci := 11) (C := RX11) (T := TX11) (N := 66) hx hb hts inX11 hown hK hH he rfl 16 (by decide) fl10 hv dX11_stepOn_113 kk) (fun z_404 e_405 rz_404 lz_404 uz_404 => ?_)
              refine lv_imul hx hb dX11_stepOn_116 ?_
              refine nq_top (I_mul _ _) ?_
              refine lv_aload_n hx hb dX11_stepOn_117 rfl (lv_at hl 0 rfl) ?_
              refine lv_aload_n hx hb dX11_stepOn_118 rfl (lv_at hl 0 rfl) ?_
              refine ok.getIc hO h_a (by decide) k13_13 J_369_7 (fun _ _ he hv kk => th_get (ci := 11) (C := RX11) (T := TX11) (N := 66) hx hb hts inX11 hown hK hH he rfl 13 (by decide) fl0 hv dX11_stepOn_119 kk) ?_
              obtain ⟨_, hc_406⟩ := hO.cell h_a (by decide) (ci := 11) rfl
              refine th_calli (va_runV (As := [.int (I G13q367)]) (rest := [.int (I (32 * z_404)), .ref a]) ⟨hx, hb, hml, hown, hts⟩ (m_byteAt l G y b0 σ_J_369 E hO a h_a G13q367 (show rng G13q367 from rG13q367) (by omega) (by omega) Bf hsr) (cwV 1 hts gX11_stepOn_X11_byteAt rfl rfl rfl (by decide +kernel) ⟨Nat.le_of_ble_eq_true rfl, Nat.le_of_ble_eq_true rfl⟩) (th_PV hK hH rfl hc_406) rfl rfl hl.1 rfl (lv_room (Nat.le_of_ble_eq_true rfl)) dX11_stepOn_122 ⟨Nat.le_of_ble_eq_true rfl, Nat.le_of_ble_eq_true rfl⟩) hS (fun z_409 σ_s_408 H locs rz_409 hw_407 hH hS => ?_)
              obtain ⟨e9, hw_407⟩ := hw_407
              replace e9 := e9.symm
              subst e9
              have hw_407 : z_409 = Bf G13q367 ∧ (z_409 = -1 ∨ G13q367 < gI σ_J_369 a 11) := hw_407
              refine lv_iadd hx hb dX11_stepOn_125 ?_
              refine th_addo (fun z_410 rz_410 hz_410 => ?_)
              refine lv_bipush (v := I 97) hx hb dX11_stepOn_126 (by decide) ?_
              refine lv_isub hx hb dX11_stepOn_128 ?_
              refine th_subo (fun z_411 rz_411 hz_411 => ?_)
              refine lv_iconst (v := I 1) hx hb dX11_stepOn_129 (by decide) ?_
              refine lv_iadd hx hb dX11_stepOn_130 ?_
              refine th_addo (fun z_412 rz_412 hz_412 => ?_)
              refine lv_goto (tgt := 138) hx hb dX11_stepOn_131 (by decide) ?_
              refine ok.putJ hO h_a k13_16 rz_412 (by omega) (by omega) (fun _ he hl9 kk => th_put (ci := 11) (v := .int (I z_412)) (ty := .int) (C := RX11) (T := TX11) (N := 66) hx hb hts inX11 tyX11 tyX11_ok nmX11 hown hK hH hS h00 he rfl 16 (by decide) fl10 rfl (by decide +kernel) rfl rfl hl9 dX11_stepOn_138 kk) (fun σ_s_413 H locs hO hF9 hM9 hg9 ha9 hH hS => ?_)
              replace hM := hM.tu hM9 (by decide)
              replace hF := hF.tu hF9 (by decide)
              have e_414 : gI σ_s_413 a 11 = a110 := (hM9.i (by decide)).trans J_369_5
              have e_415 : gI σ_s_413 a 17 = G13q43 := (hM9.i (by decide)).trans J_369_6
              have e_416 : gI σ_s_413 a 13 = G13q367 := (hM9.i (by decide)).trans J_369_7
              replace hsr := hsr.mv hM9 (by decide) (by decide) (by decide) (by decide) (by decide)
              have e_417 := hg9
              refine lv_aload_n hx hb dX11_stepOn_141 rfl (lv_at hl 0 rfl) ?_
              refine lv_dup hx hb dX11_stepOn_142 rfl ?_
              refine ok.getIc hO h_a (by decide) k13_13 e_416 (fun _ _ he hv kk => th_get (ci := 11) (C := RX11) (T := TX11) (N := 66) hx hb hts inX11 hown hK hH he rfl 13 (by decide) fl0 hv dX11_stepOn_143 kk) ?_
              refine lv_iconst (v := I 1) hx hb dX11_stepOn_146 (by decide) ?_
              refine lv_iadd hx hb dX11_stepOn_147 ?_
              refine th_addo (fun z_418 rz_418 hz_418 => ?_)
              refine ok.putJ hO h_a k13_13 rz_418 (by omega) (by omega) (fun _ he hl9 kk => th_put (ci := 11) (v := .int (I z_418)) (ty := .int) (C := RX11) (T := TX11) (N := 66) hx hb hts inX11 tyX11 tyX11_ok nmX11 hown hK hH hS h00 he rfl 13 (by decide) fl0 rfl (by decide +kernel) rfl rfl hl9 dX11_stepOn_148 kk) (fun σ_s_419 H locs hO hF9 hM9 hg9 ha9 hH hS => ?_)
              replace hM := hM.tu hM9 (by decide)
              replace hF := hF.tu hF9 (by decide)
              have e_420 : gI σ_s_419 a 11 = a110 := (hM9.i (by decide)).trans e_414
              have e_421 : gI σ_s_419 a 17 = G13q43 := (hM9.i (by decide)).trans e_415
              have e_422 : gI σ_s_419 a 16 = z_412 := (hM9.i (by decide)).trans e_417
              replace hsr := hsr.mv hM9 (by decide) (by decide) (by decide) (by decide) (by decide)
              have e_423 := hg9
              refine lv_goto (tgt := 81) hx hb dX11_stepOn_151 (by decide) ?_
              exact ihJ_369 (z_418) σ_s_419 _ _ _ (by first | omega | (dsimp only; omega)) ⟨hO, hF, hM, hsr, hH, hS, lv_sub hl [0] rfl, rz_418, by first | omega | (dsimp only; omega), by first | omega | (dsimp only; omega), by first | omega | (dsimp only; omega), by first | omega | (dsimp only; omega), by first | omega | (dsimp only; omega), e_420, e_421, e_423⟩
      · replace c_68 := (I_eq (a := z_67) (b := (-1)) rz_67 (show rng (-1) from ⟨by decide, by decide⟩)).mp c_68
        refine lv_aload_n hx hb dX11_stepOn_61 rfl (lv_at hl 1 rfl) ?_
        refine lv_iconst (v := I 0) hx hb dX11_stepOn_62 (by decide) ?_
        refine ok.putJ hO h_a k13_14 (show rng 0 from ⟨by decide, by decide⟩) (by omega) (by omega) (fun _ he hl9 kk => th_put (ci := 11) (v := .int (I 0)) (ty := .int) (C := RX11) (T := TX11) (N := 66) hx hb hts inX11 tyX11 tyX11_ok nmX11 hown hK hH hS h00 he rfl 14 (by decide) fl2 rfl (by decide +kernel) rfl rfl hl9 dX11_stepOn_63 kk) (fun σ_s_424 H locs hO hF9 hM9 hg9 ha9 hH hS => ?_)
        replace hM := hM.tu hM9 (by decide)
        replace hF := hF.tu hF9 (by decide)
        have e_425 : gI σ_s_424 a 11 = a110 := (hM9.i (by decide)).trans e_61
        have e_426 : gI σ_s_424 a 13 = G13q43 := (hM9.i (by decide)).trans e_62
        have e_427 : gI σ_s_424 a 17 = G13q43 := (hM9.i (by decide)).trans e_63
        replace hsr := hsr.mv hM9 (by decide) (by decide) (by decide) (by decide) (by decide)
        have e_428 := hg9
        refine lv_goto (tgt := 295) hx hb dX11_stepOn_66 (by decide) ?_
        refine lv_aload_n hx hb dX11_stepOn_295 rfl (lv_at hl 1 rfl) ?_
        refine lv_aload_n hx hb dX11_stepOn_296 rfl (lv_at hl 1 rfl) ?_
        refine ok.getIc hO h_a (by decide) k13_13 e_426 (fun _ _ he hv kk => th_get (ci := 11) (C := RX11) (T := TX11) (N := 66) hx hb hts inX11 hown hK hH he rfl 13 (by decide) fl0 hv dX11_stepOn_297 kk) ?_
        refine ok.putJ hO h_a k13_18 rG13q43 (by omega) (by omega) (fun _ he hl9 kk => th_put (ci := 11) (v := .int (I G13q43)) (ty := .int) (C := RX11) (T := TX11) (N := 66) hx hb hts inX11 tyX11 tyX11_ok nmX11 hown hK hH hS h00 he rfl 18 (by decide) fl3 rfl (by decide +kernel) rfl rfl hl9 dX11_stepOn_300 kk) (fun σ_s_429 H locs hO hF9 hM9 hg9 ha9 hH hS => ?_)
        replace hM := hM.tu hM9 (by decide)
        replace hF := hF.tu hF9 (by decide)
        have e_430 : gI σ_s_429 a 11 = a110 := (hM9.i (by decide)).trans e_425
        have e_431 : gI σ_s_429 a 13 = G13q43 := (hM9.i (by decide)).trans e_426
        have e_432 : gI σ_s_429 a 17 = G13q43 := (hM9.i (by decide)).trans e_427
        have e_433 : gI σ_s_429 a 14 = 0 := (hM9.i (by decide)).trans e_428
        replace hsr := hsr.mv hM9 (by decide) (by decide) (by decide) (by decide) (by decide)
        have e_434 := hg9
        exact th_vret hx hb hr hlocks hH hS ⟨hO, hF, hM, by omega⟩ dX11_stepOn_303
    · replace c_59 := (I_eq (a := z_58) (b := 10) rz_58 (show rng 10 from ⟨by decide, by decide⟩)).mp c_59
      refine lv_aload_n hx hb dX11_stepOn_26 rfl (lv_at hl 0 rfl) ?_
      refine lv_dup hx hb dX11_stepOn_27 rfl ?_
      refine ok.getIc hO h_a (by decide) k13_13 J_45_3 (fun _ _ he hv kk => th_get (ci := 11) (C := RX11) (T := TX11) (N := 66) hx hb hts inX11 hown hK hH he rfl 13 (by decide) fl0 hv dX11_stepOn_28 kk) ?_
      refine lv_iconst (v := I 1) hx hb dX11_stepOn_31 (by decide) ?_
      refine lv_iadd hx hb dX11_stepOn_32 ?_
      refine th_addo (fun z_435 rz_435 hz_435 => ?_)
      refine ok.putJ hO h_a k13_13 rz_435 (by omega) (by omega) (fun _ he hl9 kk => th_put (ci := 11) (v := .int (I z_435)) (ty := .int) (C := RX11) (T := TX11) (N := 66) hx hb hts inX11 tyX11 tyX11_ok nmX11 hown hK hH hS h00 he rfl 13 (by decide) fl0 rfl (by decide +kernel) rfl rfl hl9 dX11_stepOn_33 kk) (fun σ_s_436 H locs hO hF9 hM9 hg9 ha9 hH hS => ?_)
      replace hM := hM.tu hM9 (by decide)
      replace hF := hF.tu hF9 (by decide)
      have e_437 : gI σ_s_436 a 11 = a110 := (hM9.i (by decide)).trans J_45_2
      replace hsr := hsr.mv hM9 (by decide) (by decide) (by decide) (by decide) (by decide)
      have e_438 := hg9
      refine lv_goto (tgt := 0) hx hb dX11_stepOn_36 (by decide) ?_
      exact ihJ_45 (z_435) σ_s_436 _ _ _ (by first | omega | (dsimp only; omega)) ⟨hO, hF, hM, hsr, hH, hS, lv_sub hl [0] rfl, rz_435, by first | omega | (dsimp only; omega), by first | omega | (dsimp only; omega), e_437, e_438⟩

set_option maxHeartbeats 1000000 in
set_option maxRecDepth 100000 in
theorem m_wrong (l : Launch) (G : va_G) (y : Nat → ClassId) (b0 : Nat) (σ : th_M) (E : th_E) (hO : ok y E σ) (a : Nat) (h_a : kd E a = 13) (i : Int) (ri : rng i) (l_i : 1 ≤ i) (u_i : i ≤ 3) : Met l yX11_wrong wsX11_wrong ({ frames := 0, cells := 0, slots := 0, locals := 0 }) (th_P G y b0 σ [.ref a, .int (I i)]) (th_Qv G b0 (fun σ1 => ok y E σ1 ∧ fr [13] E σ σ1 ∧ fm [19, 20] E σ σ1 a ∧ (¬ gI σ1 a 19 = 0 ∧ (gI σ a 19 = 0 ∨ gI σ1 a 19 = gI σ a 19)))) 0 0 (th_A b0) := by
  refine Met.ofW (cc := cX11_wrong) (maxL := 2) (ret := none) (by decide) rfl ?_
  intro p e s m args below meth c s₁ B hml hv
  obtain ⟨rfl, hH, hK⟩ := hv
  have hx := B.exec
  have hb := B.bytes
  have hr := B.returns
  have hts := atoms_spec (ws := wsX11_wrong) B.pre
  have hown : s.vm.findClass RX11 = some m.cls := findClass_of_methodNamed B.named
  have hlocks := B.notSynchronized
  have h00 : b0 ≤ s.heap.size := hH.1
  have hS : va_S (th_A b0) s.heap s.heap [] := va_S.rf
  have hF : fr [13] E σ σ := fr.rf
  have hM : fm [19, 20] E σ σ a := fm.rf
  have inX11 : ∀ w ∈ wsX110, w ∈ wsX11_wrong := by decide +kernel
  have fl0 := hts (.fieldLink RX11 162 "NestQueryModel" "bad" "I") (by decide +kernel)
  have fl1 := hts (.fieldLink RX11 133 "NestQueryModel" "begins" "I") (by decide +kernel)
  have fl2 := hts (.fieldLink RX11 165 "NestQueryModel" "badPlace" "I") (by decide +kernel)
  have hl := lv_entry ([.ref a, .int (I i)]) (n := 2) (Nat.le_of_ble_eq_true rfl)
  rw [lg_entry_eq]
  generalize (lg_sl ([.ref a, .int (I i)]) ++ List.replicate (2 - (lg_sl ([.ref a, .int (I i)])).length) Slot.unset).toArray = ls at hl ⊢
  have hl : lv_has ls 2 [(0, .ref a), (1, .int (I i))] := hl
  obtain ⟨a190, ea190, ra190, la190, ua190⟩ := hO.gi h_a (by decide) k13_19
  refine lv_aload_n hx hb dX11_wrong_0 rfl (lv_at hl 0 rfl) ?_
  refine ok.getIc hO h_a (by decide) k13_19 ea190 (fun _ _ he hv kk => th_get (ci := 11) (C := RX11) (T := TX11) (N := 66) hx hb hts inX11 hown hK hH he rfl 19 (by decide) fl0 hv dX11_wrong_1 kk) ?_
  refine lv_if_eq (tgt := 8) hx hb dX11_wrong_4 (by decide) (fun c_1 => ?_) (fun c_1 => ?_)
  · replace c_1 := (I_eq (a := a190) (b := 0) ra190 (show rng 0 from ⟨by decide, by decide⟩)).mp c_1
    refine lv_aload_n hx hb dX11_wrong_8 rfl (lv_at hl 0 rfl) ?_
    refine lv_iload_n hx hb dX11_wrong_9 rfl (lv_at hl 1 rfl) ?_
    refine ok.putJ hO h_a k13_19 ri (by omega) (by omega) (fun _ he hl9 kk => th_put (ci := 11) (v := .int (I i)) (ty := .int) (C := RX11) (T := TX11) (N := 66) hx hb hts inX11 tyX11 tyX11_ok nmX11 hown hK hH hS h00 he rfl 19 (by decide) fl0 rfl (by decide +kernel) rfl rfl hl9 dX11_wrong_10 kk) (fun σ_s_2 H locs hO hF9 hM9 hg9 ha9 hH hS => ?_)
    replace hM := hM.tu hM9 (by decide)
    replace hF := hF.tu hF9 (by decide)
    have e_3 := hg9
    refine lv_aload_n hx hb dX11_wrong_13 rfl (lv_at hl 0 rfl) ?_
    refine lv_aload_n hx hb dX11_wrong_14 rfl (lv_at hl 0 rfl) ?_
    refine ok.getI hO h_a (by decide) k13_17 (fun _ _ he hv kk => th_get (ci := 11) (C := RX11) (T := TX11) (N := 66) hx hb hts inX11 hown hK hH he rfl 17 (by decide) fl1 hv dX11_wrong_15 kk) (fun z_4 e_5 rz_4 lz_4 uz_4 => ?_)
    refine ok.putJ hO h_a k13_20 rz_4 (by omega) (by omega) (fun _ he hl9 kk => th_put (ci := 11) (v := .int (I z_4)) (ty := .int) (C := RX11) (T := TX11) (N := 66) hx hb hts inX11 tyX11 tyX11_ok nmX11 hown hK hH hS h00 he rfl 20 (by decide) fl2 rfl (by decide +kernel) rfl rfl hl9 dX11_wrong_18 kk) (fun σ_s_6 H locs hO hF9 hM9 hg9 ha9 hH hS => ?_)
    replace hM := hM.tu hM9 (by decide)
    replace hF := hF.tu hF9 (by decide)
    have e_7 : gI σ_s_6 a 19 = i := (hM9.i (by decide)).trans e_3
    have e_8 : gI σ_s_6 a 17 = z_4 := (hM9.i (by decide)).trans e_5
    have e_9 := hg9
    exact th_vret hx hb hr hlocks hH hS ⟨hO, hF, hM, by omega⟩ dX11_wrong_21
  · replace c_1 := mt (I_eq (a := a190) (b := 0) ra190 (show rng 0 from ⟨by decide, by decide⟩)).mpr c_1
    exact th_vret hx hb hr hlocks hH hS ⟨hO, hF, hM, by omega⟩ dX11_wrong_7

set_option maxHeartbeats 1000000 in
set_option maxRecDepth 100000 in
theorem m_isMarked (l : Launch) (G : va_G) (y : Nat → ClassId) (b0 : Nat) (σ : th_M) (E : th_E) (hO : ok y E σ) (a : Nat) (h_a : kd E a = 13) (i : Int) (ri : rng i) (Bf : Int → Int) (hsr : sr E σ a Bf) (hy0 : 0 ≤ gI σ a 17 ∧ gI σ a 17 ≤ 400) : Met l yX11_isMarked wsX11_isMarked ({ frames := 1, cells := 0, slots := 0, locals := 25 }) (th_P G y b0 σ [.ref a, .int (I i)]) (th_Qi G b0 (fun r σ1 => σ1 = σ ∧ (0 ≤ r ∧ r ≤ 1) ∧ (r = 0 ∨ (r = 1 ∧ gI σ a 19 = 0 ∧ gI σ a 14 = 3 ∧ Bf (gI σ a 17) = i)))) 0 0 (th_A b0) := by
  refine Met.ofW (cc := cX11_isMarked) (maxL := 2) (ret := (some .boolean)) (by decide) rfl ?_
  intro p e s m args below meth c s₁ B hml hv
  obtain ⟨rfl, hH, hK⟩ := hv
  have hx := B.exec
  have hb := B.bytes
  have hr := B.returns
  have hts := atoms_spec (ws := wsX11_isMarked) B.pre
  have hown : s.vm.findClass RX11 = some m.cls := findClass_of_methodNamed B.named
  have hlocks := B.notSynchronized
  have h00 : b0 ≤ s.heap.size := hH.1
  have hS : va_S (th_A b0) s.heap s.heap [] := va_S.rf
  have inX11 : ∀ w ∈ wsX110, w ∈ wsX11_isMarked := by decide +kernel
  have fl0 := hts (.fieldLink RX11 162 "NestQueryModel" "bad" "I") (by decide +kernel)
  have fl1 := hts (.fieldLink RX11 136 "NestQueryModel" "token" "I") (by decide +kernel)
  have fl2 := hts (.fieldLink RX11 133 "NestQueryModel" "begins" "I") (by decide +kernel)
  have hl := lv_entry ([.ref a, .int (I i)]) (n := 2) (Nat.le_of_ble_eq_true rfl)
  rw [lg_entry_eq]
  generalize (lg_sl ([.ref a, .int (I i)]) ++ List.replicate (2 - (lg_sl ([.ref a, .int (I i)])).length) Slot.unset).toArray = ls at hl ⊢
  have hl : lv_has ls 2 [(0, .ref a), (1, .int (I i))] := hl
  obtain ⟨a170, ea170, ra170, la170, ua170⟩ := hO.gi h_a (by decide) k13_17
  refine lv_aload_n hx hb dX11_isMarked_0 rfl (lv_at hl 0 rfl) ?_
  refine ok.getI hO h_a (by decide) k13_19 (fun _ _ he hv kk => th_get (ci := 11) (C := RX11) (T := TX11) (N := 66) hx hb hts inX11 hown hK hH he rfl 19 (by decide) fl0 hv dX11_isMarked_1 kk) (fun z_1 e_2 rz_1 lz_1 uz_1 => ?_)
  refine lv_if_ne (tgt := 31) hx hb dX11_isMarked_4 (by decide) (fun c_3 => ?_) (fun c_3 => ?_)
  · replace c_3 := mt (I_eq (a := z_1) (b := 0) rz_1 (show rng 0 from ⟨by decide, by decide⟩)).mpr c_3
    refine lv_iconst (v := I 0) hx hb dX11_isMarked_31 (by decide) ?_
    exact th_zret hx hb hr hlocks hH hS (z := 0) (by omega) ⟨rfl, ⟨by omega, by omega⟩, Or.inl rfl⟩ dX11_isMarked_32
  · replace c_3 := (I_eq (a := z_1) (b := 0) rz_1 (show rng 0 from ⟨by decide, by decide⟩)).mp c_3
    refine lv_aload_n hx hb dX11_isMarked_7 rfl (lv_at hl 0 rfl) ?_
    refine ok.getI hO h_a (by decide) k13_14 (fun _ _ he hv kk => th_get (ci := 11) (C := RX11) (T := TX11) (N := 66) hx hb hts inX11 hown hK hH he rfl 14 (by decide) fl1 hv dX11_isMarked_8 kk) (fun z_4 e_5 rz_4 lz_4 uz_4 => ?_)
    refine lv_iconst (v := I 3) hx hb dX11_isMarked_11 (by decide) ?_
    refine lv_icmp_ne (tgt := 31) hx hb dX11_isMarked_12 (by decide) (fun c_6 => ?_) (fun c_6 => ?_)
    · replace c_6 := mt (I_eq (a := z_4) (b := 3) rz_4 (show rng 3 from ⟨by decide, by decide⟩)).mpr c_6
      refine lv_iconst (v := I 0) hx hb dX11_isMarked_31 (by decide) ?_
      exact th_zret hx hb hr hlocks hH hS (z := 0) (by omega) ⟨rfl, ⟨by omega, by omega⟩, Or.inl rfl⟩ dX11_isMarked_32
    · replace c_6 := (I_eq (a := z_4) (b := 3) rz_4 (show rng 3 from ⟨by decide, by decide⟩)).mp c_6
      refine lv_aload_n hx hb dX11_isMarked_15 rfl (lv_at hl 0 rfl) ?_
      refine lv_aload_n hx hb dX11_isMarked_16 rfl (lv_at hl 0 rfl) ?_
      refine ok.getIc hO h_a (by decide) k13_17 ea170 (fun _ _ he hv kk => th_get (ci := 11) (C := RX11) (T := TX11) (N := 66) hx hb hts inX11 hown hK hH he rfl 17 (by decide) fl2 hv dX11_isMarked_17 kk) ?_
      obtain ⟨_, hc_7⟩ := hO.cell h_a (by decide) (ci := 11) rfl
      refine th_calli (va_runV (As := [.int (I a170)]) (rest := []) ⟨hx, hb, hml, hown, hts⟩ (m_byteAt l G y b0 σ E hO a h_a a170 (show rng a170 from ra170) (by omega) (by omega) Bf hsr) (cwV 1 hts gX11_isMarked_X11_byteAt rfl rfl rfl (by decide +kernel) ⟨Nat.le_of_ble_eq_true rfl, Nat.le_of_ble_eq_true rfl⟩) (th_PV hK hH rfl hc_7) rfl rfl hl.1 rfl (lv_room (Nat.le_of_ble_eq_true rfl)) dX11_isMarked_20 ⟨Nat.le_of_ble_eq_true rfl, Nat.le_of_ble_eq_true rfl⟩) hS (fun z_10 σ_s_9 H locs rz_10 hw_8 hH hS => ?_)
      obtain ⟨e9, hw_8⟩ := hw_8
      replace e9 := e9.symm
      subst e9
      have hw_8 : z_10 = Bf a170 ∧ (z_10 = -1 ∨ a170 < gI σ a 11) := hw_8
      refine lv_iload_n hx hb dX11_isMarked_23 rfl (lv_at hl 1 rfl) ?_
      refine lv_icmp_ne (tgt := 31) hx hb dX11_isMarked_24 (by decide) (fun c_11 => ?_) (fun c_11 => ?_)
      · replace c_11 := mt (I_eq (a := z_10) (b := i) rz_10 ri).mpr c_11
        refine lv_iconst (v := I 0) hx hb dX11_isMarked_31 (by decide) ?_
        exact th_zret hx hb hr hlocks hH hS (z := 0) (by omega) ⟨rfl, ⟨by omega, by omega⟩, Or.inl rfl⟩ dX11_isMarked_32
      · replace c_11 := (I_eq (a := z_10) (b := i) rz_10 ri).mp c_11
        refine lv_iconst (v := I 1) hx hb dX11_isMarked_27 (by decide) ?_
        refine lv_goto (tgt := 32) hx hb dX11_isMarked_28 (by decide) ?_
        exact th_zret hx hb hr hlocks hH hS (z := 1) (by omega) ⟨rfl, ⟨by omega, by omega⟩, Or.inr ⟨rfl, by omega, by omega, by rw [show gI σ a 17 = a170 by omega]; omega⟩⟩ dX11_isMarked_32

set_option maxHeartbeats 1000000 in
set_option maxRecDepth 100000 in
theorem m_pass (l : Launch) (G : va_G) (y : Nat → ClassId) (b0 : Nat) (σ : th_M) (E : th_E) (hO : ok y E σ) (a : Nat) (h_a : kd E a = 13) (Bf : Int → Int) (hsr : sr E σ a Bf) (hy0 : 0 ≤ gI σ a 17 ∧ gI σ a 17 ≤ gI σ a 13 ∧ gI σ a 13 ≤ gI σ a 11 ∧ gI σ a 11 ≤ 400) : Met l yX11_pass wsX11_pass ({ frames := 2, cells := 0, slots := 0, locals := 66 }) (th_P G y b0 σ [.ref a]) (th_Qv G b0 (fun σ1 => ok y E σ1 ∧ fr [13] E σ σ1 ∧ fm [13, 14, 15, 16, 17, 18] E σ σ1 a ∧ ((gI σ a 13 ≤ gI σ1 a 13 ∧ gI σ1 a 13 ≤ gI σ a 11 ∧ 0 ≤ gI σ1 a 17 ∧ gI σ1 a 17 ≤ gI σ1 a 13) ∧ pgo (gI σ1 a 19) (gI σ1 a 14) (gI σ a 13) (gI σ1 a 13) ∧ gI σ1 a 19 = gI σ a 19))) 0 0 (th_A b0) := by
  refine Met.ofW (cc := cX11_pass) (maxL := 1) (ret := none) (by decide) rfl ?_
  intro p e s m args below meth c s₁ B hml hv
  obtain ⟨rfl, hH, hK⟩ := hv
  have hx := B.exec
  have hb := B.bytes
  have hr := B.returns
  have hts := atoms_spec (ws := wsX11_pass) B.pre
  have hown : s.vm.findClass RX11 = some m.cls := findClass_of_methodNamed B.named
  have hlocks := B.notSynchronized
  have h00 : b0 ≤ s.heap.size := hH.1
  have hS : va_S (th_A b0) s.heap s.heap [] := va_S.rf
  have hF : fr [13] E σ σ := fr.rf
  have hM : fm [13, 14, 15, 16, 17, 18] E σ σ a := fm.rf
  have inX11 : ∀ w ∈ wsX110, w ∈ wsX11_pass := by decide +kernel
  have fl0 := hts (.fieldLink RX11 162 "NestQueryModel" "bad" "I") (by decide +kernel)
  have hl := lv_entry ([.ref a]) (n := 1) (Nat.le_of_ble_eq_true rfl)
  rw [lg_entry_eq]
  generalize (lg_sl ([.ref a]) ++ List.replicate (1 - (lg_sl ([.ref a])).length) Slot.unset).toArray = ls at hl ⊢
  have hl : lv_has ls 1 [(0, .ref a)] := hl
  obtain ⟨a110, ea110, ra110, la110, ua110⟩ := hO.gi h_a (by decide) k13_11
  obtain ⟨a130, ea130, ra130, la130, ua130⟩ := hO.gi h_a (by decide) k13_13
  obtain ⟨a140, ea140, ra140, la140, ua140⟩ := hO.gi h_a (by decide) k13_14
  obtain ⟨a170, ea170, ra170, la170, ua170⟩ := hO.gi h_a (by decide) k13_17
  obtain ⟨a190, ea190, ra190, la190, ua190⟩ := hO.gi h_a (by decide) k13_19
  refine lv_aload_n hx hb dX11_pass_0 rfl (lv_at hl 0 rfl) ?_
  refine ok.getIc hO h_a (by decide) k13_19 ea190 (fun _ _ he hv kk => th_get (ci := 11) (C := RX11) (T := TX11) (N := 66) hx hb hts inX11 hown hK hH he rfl 19 (by decide) fl0 hv dX11_pass_1 kk) ?_
  refine lv_if_ne (tgt := 11) hx hb dX11_pass_4 (by decide) (fun c_1 => ?_) (fun c_1 => ?_)
  · replace c_1 := mt (I_eq (a := a190) (b := 0) ra190 (show rng 0 from ⟨by decide, by decide⟩)).mpr c_1
    exact th_vret hx hb hr hlocks hH hS ⟨hO, hF, hM, ⟨by omega, pgo.of (by omega), by omega⟩⟩ dX11_pass_11
  · replace c_1 := (I_eq (a := a190) (b := 0) ra190 (show rng 0 from ⟨by decide, by decide⟩)).mp c_1
    refine lv_aload_n hx hb dX11_pass_7 rfl (lv_at hl 0 rfl) ?_
    obtain ⟨_, hc_2⟩ := hO.cell h_a (by decide) (ci := 11) rfl
    refine th_callv (va_runV (As := []) (rest := []) ⟨hx, hb, hml, hown, hts⟩ (m_stepOn l G y b0 σ E hO a h_a Bf hsr (by omega)) (cwV 0 hts gX11_pass_X11_stepOn rfl rfl rfl (by decide +kernel) ⟨Nat.le_of_ble_eq_true rfl, Nat.le_of_ble_eq_true rfl⟩) (th_PV hK hH rfl hc_2) rfl rfl hl.1 rfl (lv_room (Nat.le_of_ble_eq_true rfl)) dX11_pass_8 ⟨Nat.le_of_ble_eq_true rfl, Nat.le_of_ble_eq_true rfl⟩) hS (fun σ_s_4 H locs hw_3 hH hS => ?_)
    obtain ⟨hO9, hF9, hM9, hw_3⟩ := hw_3
    replace hM := hM.tu hM9 (by decide)
    replace hF := hF.tu hF9 (by decide)
    have e_5 : gI σ_s_4 a 11 = a110 := (hM9.i (by decide)).trans ea110
    have e_6 : gI σ_s_4 a 19 = a190 := (hM9.i (by decide)).trans ea190
    replace hsr := hsr.mv hM9 (by decide) (by decide) (by decide) (by decide) (by decide)
    replace hO := hO9
    have hw_3 : gI σ a 13 ≤ gI σ_s_4 a 13 ∧ gI σ_s_4 a 13 ≤ gI σ a 11 ∧ 0 ≤ gI σ_s_4 a 17 ∧ gI σ_s_4 a 17 ≤ gI σ_s_4 a 13 ∧ (gI σ_s_4 a 14 = 0 ∨ gI σ a 13 < gI σ_s_4 a 13) := hw_3
    exact th_vret hx hb hr hlocks hH hS ⟨hO, hF, hM, ⟨by omega, pgo.of (by omega), by omega⟩⟩ dX11_pass_11

set_option maxHeartbeats 1000000 in
set_option maxRecDepth 100000 in
theorem m_need (l : Launch) (G : va_G) (y : Nat → ClassId) (b0 : Nat) (σ : th_M) (E : th_E) (hO : ok y E σ) (a : Nat) (h_a : kd E a = 13) (i : Int) (ri : rng i) (Bf : Int → Int) (hsr : sr E σ a Bf) (hy0 : 0 ≤ gI σ a 17 ∧ gI σ a 17 ≤ gI σ a 13 ∧ gI σ a 13 ≤ gI σ a 11 ∧ gI σ a 11 ≤ 400) : Met l yX11_need wsX11_need ({ frames := 3, cells := 0, slots := 0, locals := 90 }) (th_P G y b0 σ [.ref a, .int (I i)]) (th_Qv G b0 (fun σ1 => ok y E σ1 ∧ fr [13] E σ σ1 ∧ fm [13, 14, 15, 16, 17, 18, 19, 20] E σ σ1 a ∧ ((gI σ a 13 ≤ gI σ1 a 13 ∧ gI σ1 a 13 ≤ gI σ a 11 ∧ 0 ≤ gI σ1 a 17 ∧ gI σ1 a 17 ≤ gI σ1 a 13) ∧ pgo (gI σ1 a 19) (gI σ1 a 14) (gI σ a 13) (gI σ1 a 13) ∧ bdo (gI σ a 19) (gI σ1 a 19)))) 0 0 (th_A b0) := by
  refine Met.ofW (cc := cX11_need) (maxL := 2) (ret := none) (by decide) rfl ?_
  intro p e s m args below meth c s₁ B hml hv
  obtain ⟨rfl, hH, hK⟩ := hv
  have hx := B.exec
  have hb := B.bytes
  have hr := B.returns
  have hts := atoms_spec (ws := wsX11_need) B.pre
  have hown : s.vm.findClass RX11 = some m.cls := findClass_of_methodNamed B.named
  have hlocks := B.notSynchronized
  have h00 : b0 ≤ s.heap.size := hH.1
  have hS : va_S (th_A b0) s.heap s.heap [] := va_S.rf
  have hF : fr [13] E σ σ := fr.rf
  have hM : fm [13, 14, 15, 16, 17, 18, 19, 20] E σ σ a := fm.rf
  have hl := lv_entry ([.ref a, .int (I i)]) (n := 2) (Nat.le_of_ble_eq_true rfl)
  rw [lg_entry_eq]
  generalize (lg_sl ([.ref a, .int (I i)]) ++ List.replicate (2 - (lg_sl ([.ref a, .int (I i)])).length) Slot.unset).toArray = ls at hl ⊢
  have hl : lv_has ls 2 [(0, .ref a), (1, .int (I i))] := hl
  obtain ⟨a110, ea110, ra110, la110, ua110⟩ := hO.gi h_a (by decide) k13_11
  obtain ⟨a130, ea130, ra130, la130, ua130⟩ := hO.gi h_a (by decide) k13_13
  obtain ⟨a140, ea140, ra140, la140, ua140⟩ := hO.gi h_a (by decide) k13_14
  obtain ⟨a170, ea170, ra170, la170, ua170⟩ := hO.gi h_a (by decide) k13_17
  obtain ⟨a190, ea190, ra190, la190, ua190⟩ := hO.gi h_a (by decide) k13_19
  refine lv_aload_n hx hb dX11_need_0 rfl (lv_at hl 0 rfl) ?_
  refine lv_iload_n hx hb dX11_need_1 rfl (lv_at hl 1 rfl) ?_
  obtain ⟨_, hc_1⟩ := hO.cell h_a (by decide) (ci := 11) rfl
  refine th_calli (va_runV (As := [.int (I i)]) (rest := []) ⟨hx, hb, hml, hown, hts⟩ (m_isMarked l G y b0 σ E hO a h_a i (show rng i from ri) Bf hsr (by omega)) (cwV 1 hts gX11_need_X11_isMarked rfl rfl rfl (by decide +kernel) ⟨Nat.le_of_ble_eq_true rfl, Nat.le_of_ble_eq_true rfl⟩) (th_PV hK hH rfl hc_1) rfl rfl hl.1 rfl (lv_room (Nat.le_of_ble_eq_true rfl)) dX11_need_2 ⟨Nat.le_of_ble_eq_true rfl, Nat.le_of_ble_eq_true rfl⟩) hS (fun z_4 σ_s_3 H locs rz_4 hw_2 hH hS => ?_)
  obtain ⟨e9, bhw_2, hw_2⟩ := hw_2
  replace e9 := e9.symm
  subst e9
  have hw_2 : z_4 = 0 ∨ (z_4 = 1 ∧ gI σ a 19 = 0 ∧ gI σ a 14 = 3 ∧ Bf (gI σ a 17) = i) := hw_2
  refine lv_if_ne (tgt := 13) hx hb dX11_need_5 (by decide) (fun c_5 => ?_) (fun c_5 => ?_)
  · replace c_5 := mt (I_eq (a := z_4) (b := 0) rz_4 (show rng 0 from ⟨by decide, by decide⟩)).mpr c_5
    replace hw_2 := (hw_2.resolve_left c_5).2
    refine lv_aload_n hx hb dX11_need_13 rfl (lv_at hl 0 rfl) ?_
    obtain ⟨_, hc_6⟩ := hO.cell h_a (by decide) (ci := 11) rfl
    refine th_callv (va_runV (As := []) (rest := []) ⟨hx, hb, hml, hown, hts⟩ (m_pass l G y b0 σ E hO a h_a Bf hsr (by omega)) (cwV 0 hts gX11_need_X11_pass rfl rfl rfl (by decide +kernel) ⟨Nat.le_of_ble_eq_true rfl, Nat.le_of_ble_eq_true rfl⟩) (th_PV hK hH rfl hc_6) rfl rfl hl.1 rfl (lv_room (Nat.le_of_ble_eq_true rfl)) dX11_need_14 ⟨Nat.le_of_ble_eq_true rfl, Nat.le_of_ble_eq_true rfl⟩) hS (fun σ_s_8 H locs hw_7 hH hS => ?_)
    obtain ⟨hO9, hF9, hM9, hw_7⟩ := hw_7
    replace hM := hM.tu hM9 (by decide)
    replace hF := hF.tu hF9 (by decide)
    have e_9 : gI σ_s_8 a 11 = a110 := (hM9.i (by decide)).trans ea110
    have e_10 : gI σ_s_8 a 19 = a190 := (hM9.i (by decide)).trans ea190
    replace hsr := hsr.mv hM9 (by decide) (by decide) (by decide) (by decide) (by decide)
    replace hO := hO9
    have hw_7 : (gI σ a 13 ≤ gI σ_s_8 a 13 ∧ gI σ_s_8 a 13 ≤ gI σ a 11 ∧ 0 ≤ gI σ_s_8 a 17 ∧ gI σ_s_8 a 17 ≤ gI σ_s_8 a 13) ∧ pgo (gI σ_s_8 a 19) (gI σ_s_8 a 14) (gI σ a 13) (gI σ_s_8 a 13) ∧ gI σ_s_8 a 19 = gI σ a 19 := hw_7
    simp only [pgo, bdo] at hw_7
    exact th_vret hx hb hr hlocks hH hS ⟨hO, hF, hM, ⟨by omega, pgo.of (by omega), bdo.of (by omega)⟩⟩ dX11_need_17
  · replace c_5 := (I_eq (a := z_4) (b := 0) rz_4 (show rng 0 from ⟨by decide, by decide⟩)).mp c_5
    clear hw_2
    refine lv_aload_n hx hb dX11_need_8 rfl (lv_at hl 0 rfl) ?_
    refine lv_iconst (v := I 1) hx hb dX11_need_9 (by decide) ?_
    obtain ⟨_, hc_11⟩ := hO.cell h_a (by decide) (ci := 11) rfl
    refine th_callv (va_runV (As := [.int (I 1)]) (rest := []) ⟨hx, hb, hml, hown, hts⟩ (m_wrong l G y b0 σ E hO a h_a 1 (show rng 1 from (show rng 1 from ⟨by decide, by decide⟩)) (by omega) (by omega)) (cwV 1 hts gX11_need_X11_wrong rfl rfl rfl (by decide +kernel) ⟨Nat.le_of_ble_eq_true rfl, Nat.le_of_ble_eq_true rfl⟩) (th_PV hK hH rfl hc_11) rfl rfl hl.1 rfl (lv_room (Nat.le_of_ble_eq_true rfl)) dX11_need_10 ⟨Nat.le_of_ble_eq_true rfl, Nat.le_of_ble_eq_true rfl⟩) hS (fun σ_s_13 H locs hw_12 hH hS => ?_)
    obtain ⟨hO9, hF9, hM9, hw_12⟩ := hw_12
    replace hM := hM.tu hM9 (by decide)
    replace hF := hF.tu hF9 (by decide)
    have e_14 : gI σ_s_13 a 11 = a110 := (hM9.i (by decide)).trans ea110
    have e_15 : gI σ_s_13 a 13 = a130 := (hM9.i (by decide)).trans ea130
    have e_16 : gI σ_s_13 a 14 = a140 := (hM9.i (by decide)).trans ea140
    have e_17 : gI σ_s_13 a 17 = a170 := (hM9.i (by decide)).trans ea170
    replace hsr := hsr.mv hM9 (by decide) (by decide) (by decide) (by decide) (by decide)
    replace hO := hO9
    have hw_12 : ¬ gI σ_s_13 a 19 = 0 ∧ (gI σ a 19 = 0 ∨ gI σ_s_13 a 19 = gI σ a 19) := hw_12
    refine lv_aload_n hx hb dX11_need_13 rfl (lv_at hl 0 rfl) ?_
    obtain ⟨_, hc_18⟩ := hO.cell h_a (by decide) (ci := 11) rfl
    refine th_callv (va_runV (As := []) (rest := []) ⟨hx, hb, hml, hown, hts⟩ (m_pass l G y b0 σ_s_13 E hO a h_a Bf hsr (by omega)) (cwV 0 hts gX11_need_X11_pass rfl rfl rfl (by decide +kernel) ⟨Nat.le_of_ble_eq_true rfl, Nat.le_of_ble_eq_true rfl⟩) (th_PV hK hH rfl hc_18) rfl rfl hl.1 rfl (lv_room (Nat.le_of_ble_eq_true rfl)) dX11_need_14 ⟨Nat.le_of_ble_eq_true rfl, Nat.le_of_ble_eq_true rfl⟩) hS (fun σ_s_20 H locs hw_19 hH hS => ?_)
    obtain ⟨hO9, hF9, hM9, hw_19⟩ := hw_19
    replace hM := hM.tu hM9 (by decide)
    replace hF := hF.tu hF9 (by decide)
    have e_21 : gI σ_s_20 a 11 = a110 := (hM9.i (by decide)).trans e_14
    replace hsr := hsr.mv hM9 (by decide) (by decide) (by decide) (by decide) (by decide)
    replace hO := hO9
    have hw_19 : (gI σ_s_13 a 13 ≤ gI σ_s_20 a 13 ∧ gI σ_s_20 a 13 ≤ gI σ_s_13 a 11 ∧ 0 ≤ gI σ_s_20 a 17 ∧ gI σ_s_20 a 17 ≤ gI σ_s_20 a 13) ∧ pgo (gI σ_s_20 a 19) (gI σ_s_20 a 14) (gI σ_s_13 a 13) (gI σ_s_20 a 13) ∧ gI σ_s_20 a 19 = gI σ_s_13 a 19 := hw_19
    simp only [pgo, bdo] at hw_19
    exact th_vret hx hb hr hlocks hH hS ⟨hO, hF, hM, ⟨by omega, pgo.of (by omega), bdo.of (by omega)⟩⟩ dX11_need_17

set_option maxHeartbeats 1000000 in
set_option maxRecDepth 100000 in
theorem m_readDigits (l : Launch) (G : va_G) (y : Nat → ClassId) (b0 : Nat) (σ : th_M) (E : th_E) (hO : ok y E σ) (a : Nat) (h_a : kd E a = 13) (Bf : Int → Int) (hsr : sr E σ a Bf) (hy0 : 0 ≤ gI σ a 17 ∧ gI σ a 17 ≤ gI σ a 13 ∧ gI σ a 13 ≤ gI σ a 11 ∧ gI σ a 11 ≤ 400) : Met l yX11_readDigits wsX11_readDigits ({ frames := 3, cells := 0, slots := 0, locals := 90 }) (th_P G y b0 σ [.ref a]) (th_Qi G b0 (fun r σ1 => ok y E σ1 ∧ fr [13] E σ σ1 ∧ fm [13, 14, 15, 16, 17, 18, 19, 20] E σ σ1 a ∧ ((gI σ a 13 ≤ gI σ1 a 13 ∧ gI σ1 a 13 ≤ gI σ a 11 ∧ 0 ≤ gI σ1 a 17 ∧ gI σ1 a 17 ≤ gI σ1 a 13) ∧ pgo (gI σ1 a 19) (gI σ1 a 14) (gI σ a 13) (gI σ1 a 13) ∧ bdo (gI σ a 19) (gI σ1 a 19)))) 0 0 (th_A b0) := by
  refine Met.ofW (cc := cX11_readDigits) (maxL := 2) (ret := (some .int)) (by decide) rfl ?_
  intro p e s m args below meth c s₁ B hml hv
  obtain ⟨rfl, hH, hK⟩ := hv
  have hx := B.exec
  have hb := B.bytes
  have hr := B.returns
  have hts := atoms_spec (ws := wsX11_readDigits) B.pre
  have hown : s.vm.findClass RX11 = some m.cls := findClass_of_methodNamed B.named
  have hlocks := B.notSynchronized
  have h00 : b0 ≤ s.heap.size := hH.1
  have hS : va_S (th_A b0) s.heap s.heap [] := va_S.rf
  have hF : fr [13] E σ σ := fr.rf
  have hM : fm [13, 14, 15, 16, 17, 18, 19, 20] E σ σ a := fm.rf
  have inX11 : ∀ w ∈ wsX110, w ∈ wsX11_readDigits := by decide +kernel
  have fl0 := hts (.fieldLink RX11 162 "NestQueryModel" "bad" "I") (by decide +kernel)
  have fl1 := hts (.fieldLink RX11 149 "NestQueryModel" "number" "I") (by decide +kernel)
  have fl2 := hts (.fieldLink RX11 159 "NestQueryModel" "stops" "I") (by decide +kernel)
  have fl3 := hts (.fieldLink RX11 133 "NestQueryModel" "begins" "I") (by decide +kernel)
  have fl4 := hts (.fieldLink RX11 136 "NestQueryModel" "token" "I") (by decide +kernel)
  have hl := lv_entry ([.ref a]) (n := 2) (Nat.le_of_ble_eq_true rfl)
  rw [lg_entry_eq]
  generalize (lg_sl ([.ref a]) ++ List.replicate (2 - (lg_sl ([.ref a])).length) Slot.unset).toArray = ls at hl ⊢
  have hl : lv_has ls 2 [(0, .ref a)] := hl
  obtain ⟨a110, ea110, ra110, la110, ua110⟩ := hO.gi h_a (by decide) k13_11
  obtain ⟨a130, ea130, ra130, la130, ua130⟩ := hO.gi h_a (by decide) k13_13
  obtain ⟨a140, ea140, ra140, la140, ua140⟩ := hO.gi h_a (by decide) k13_14
  obtain ⟨a170, ea170, ra170, la170, ua170⟩ := hO.gi h_a (by decide) k13_17
  obtain ⟨a190, ea190, ra190, la190, ua190⟩ := hO.gi h_a (by decide) k13_19
  refine lv_aload_n hx hb dX11_readDigits_0 rfl (lv_at hl 0 rfl) ?_
  refine ok.getIc hO h_a (by decide) k13_19 ea190 (fun _ _ he hv kk => th_get (ci := 11) (C := RX11) (T := TX11) (N := 66) hx hb hts inX11 hown hK hH he rfl 19 (by decide) fl0 hv dX11_readDigits_1 kk) ?_
  refine th_join (α := Unit) (J := 20) (stk := fun x9 => []) (fun x9 σ9 H9 l9 ls9 => ok y E σ9 ∧ fr [13] E σ σ9 ∧ fm [13, 14, 15, 16, 17, 18, 19, 20] E σ σ9 a ∧ sr E σ9 a Bf ∧ th_H G b0 σ9 H9 ∧ va_S (th_A b0) s.heap H9 l9 ∧ lv_has ls9 2 [(0, .ref a)] ∧ (gI σ a 19 = 0 ∨ ¬ gI σ9 a 19 = 0) ∧ (gI σ9 a 11 = a110) ∧ (gI σ9 a 13 = a130) ∧ (gI σ9 a 14 = a140) ∧ (gI σ9 a 17 = a170)) ?_ (fun jK_11 => ?_)
  · intro x9 σ_K_11 H locs ls hI9
    obtain ⟨hO, hF, hM, hsr, hH, hS, hl, K_11_0, K_11_1, K_11_2, K_11_3, K_11_4⟩ := hI9
    have hl : lv_has ls 2 [(0, .ref a)] := hl
    have K_11_0 : gI σ a 19 = 0 ∨ ¬ gI σ_K_11 a 19 = 0 := K_11_0
    have K_11_1 : gI σ_K_11 a 11 = a110 := K_11_1
    have K_11_2 : gI σ_K_11 a 13 = a130 := K_11_2
    have K_11_3 : gI σ_K_11 a 14 = a140 := K_11_3
    have K_11_4 : gI σ_K_11 a 17 = a170 := K_11_4
    refine lv_aload_n hx hb dX11_readDigits_20 rfl (lv_at hl 0 rfl) ?_
    refine ok.getI hO h_a (by decide) k13_19 (fun _ _ he hv kk => th_get (ci := 11) (C := RX11) (T := TX11) (N := 66) hx hb hts inX11 hown hK hH he rfl 19 (by decide) fl0 hv dX11_readDigits_21 kk) (fun z_12 e_13 rz_12 lz_12 uz_12 => ?_)
    refine lv_if_ne (tgt := 45) hx hb dX11_readDigits_24 (by decide) (fun c_14 => ?_) (fun c_14 => ?_)
    · replace c_14 := mt (I_eq (a := z_12) (b := 0) rz_12 (show rng 0 from ⟨by decide, by decide⟩)).mpr c_14
      refine lv_aload_n hx hb dX11_readDigits_45 rfl (lv_at hl 0 rfl) ?_
      refine ok.getI hO h_a (by decide) k13_15 (fun _ _ he hv kk => th_get (ci := 11) (C := RX11) (T := TX11) (N := 66) hx hb hts inX11 hown hK hH he rfl 15 (by decide) fl1 hv dX11_readDigits_46 kk) (fun z_15 e_16 rz_15 lz_15 uz_15 => ?_)
      refine lv_istore_n (lv' := [(1, .int (I z_15)), (0, .ref a)]) hx hb dX11_readDigits_49 rfl hl (by decide) rfl (fun ls hl => ?_)
      refine lv_aload_n hx hb dX11_readDigits_50 rfl (lv_at hl 1 rfl) ?_
      obtain ⟨_, hc_17⟩ := hO.cell h_a (by decide) (ci := 11) rfl
      refine th_callv (va_runV (As := []) (rest := []) ⟨hx, hb, hml, hown, hts⟩ (m_pass l G y b0 σ_K_11 E hO a h_a Bf hsr (by omega)) (cwV 0 hts gX11_readDigits_X11_pass rfl rfl rfl (by decide +kernel) ⟨Nat.le_of_ble_eq_true rfl, Nat.le_of_ble_eq_true rfl⟩) (th_PV hK hH rfl hc_17) rfl rfl hl.1 rfl (lv_room (Nat.le_of_ble_eq_true rfl)) dX11_readDigits_51 ⟨Nat.le_of_ble_eq_true rfl, Nat.le_of_ble_eq_true rfl⟩) hS (fun σ_s_19 H locs hw_18 hH hS => ?_)
      obtain ⟨hO9, hF9, hM9, hw_18⟩ := hw_18
      replace hM := hM.tu hM9 (by decide)
      replace hF := hF.tu hF9 (by decide)
      have e_20 : gI σ_s_19 a 11 = a110 := (hM9.i (by decide)).trans K_11_1
      have e_21 : gI σ_s_19 a 19 = z_12 := (hM9.i (by decide)).trans e_13
      replace hsr := hsr.mv hM9 (by decide) (by decide) (by decide) (by decide) (by decide)
      replace hO := hO9
      have hw_18 : (gI σ_K_11 a 13 ≤ gI σ_s_19 a 13 ∧ gI σ_s_19 a 13 ≤ gI σ_K_11 a 11 ∧ 0 ≤ gI σ_s_19 a 17 ∧ gI σ_s_19 a 17 ≤ gI σ_s_19 a 13) ∧ pgo (gI σ_s_19 a 19) (gI σ_s_19 a 14) (gI σ_K_11 a 13) (gI σ_s_19 a 13) ∧ gI σ_s_19 a 19 = gI σ_K_11 a 19 := hw_18
      simp only [pgo, bdo] at hw_18
      refine lv_iload_n hx hb dX11_readDigits_54 rfl (lv_at hl 0 rfl) ?_
      exact th_iret hx hb hr hlocks hH hS (z := z_15) rz_15 ⟨hO, hF, hM, ⟨by omega, pgo.of (by omega), bdo.of (by omega)⟩⟩ dX11_readDigits_55
    · replace c_14 := (I_eq (a := z_12) (b := 0) rz_12 (show rng 0 from ⟨by decide, by decide⟩)).mp c_14
      refine lv_aload_n hx hb dX11_readDigits_27 rfl (lv_at hl 0 rfl) ?_
      refine ok.getI hO h_a (by decide) k13_18 (fun _ _ he hv kk => th_get (ci := 11) (C := RX11) (T := TX11) (N := 66) hx hb hts inX11 hown hK hH he rfl 18 (by decide) fl2 hv dX11_readDigits_28 kk) (fun z_22 e_23 rz_22 lz_22 uz_22 => ?_)
      refine lv_aload_n hx hb dX11_readDigits_31 rfl (lv_at hl 0 rfl) ?_
      refine ok.getIc hO h_a (by decide) k13_17 K_11_4 (fun _ _ he hv kk => th_get (ci := 11) (C := RX11) (T := TX11) (N := 66) hx hb hts inX11 hown hK hH he rfl 17 (by decide) fl3 hv dX11_readDigits_32 kk) ?_
      refine lv_isub hx hb dX11_readDigits_35 ?_
      refine th_subo (fun z_24 rz_24 hz_24 => ?_)
      refine lv_iconst (v := I 3) hx hb dX11_readDigits_36 (by decide) ?_
      refine lv_icmp_le (tgt := 45) hx hb dX11_readDigits_37 (by decide) (fun c_25 => ?_) (fun c_25 => ?_)
      · replace c_25 := (I_le (a := z_24) (b := 3) rz_24 (show rng 3 from ⟨by decide, by decide⟩)).mp c_25
        refine lv_aload_n hx hb dX11_readDigits_45 rfl (lv_at hl 0 rfl) ?_
        refine ok.getI hO h_a (by decide) k13_15 (fun _ _ he hv kk => th_get (ci := 11) (C := RX11) (T := TX11) (N := 66) hx hb hts inX11 hown hK hH he rfl 15 (by decide) fl1 hv dX11_readDigits_46 kk) (fun z_26 e_27 rz_26 lz_26 uz_26 => ?_)
        refine lv_istore_n (lv' := [(1, .int (I z_26)), (0, .ref a)]) hx hb dX11_readDigits_49 rfl hl (by decide) rfl (fun ls hl => ?_)
        refine lv_aload_n hx hb dX11_readDigits_50 rfl (lv_at hl 1 rfl) ?_
        obtain ⟨_, hc_28⟩ := hO.cell h_a (by decide) (ci := 11) rfl
        refine th_callv (va_runV (As := []) (rest := []) ⟨hx, hb, hml, hown, hts⟩ (m_pass l G y b0 σ_K_11 E hO a h_a Bf hsr (by omega)) (cwV 0 hts gX11_readDigits_X11_pass rfl rfl rfl (by decide +kernel) ⟨Nat.le_of_ble_eq_true rfl, Nat.le_of_ble_eq_true rfl⟩) (th_PV hK hH rfl hc_28) rfl rfl hl.1 rfl (lv_room (Nat.le_of_ble_eq_true rfl)) dX11_readDigits_51 ⟨Nat.le_of_ble_eq_true rfl, Nat.le_of_ble_eq_true rfl⟩) hS (fun σ_s_30 H locs hw_29 hH hS => ?_)
        obtain ⟨hO9, hF9, hM9, hw_29⟩ := hw_29
        replace hM := hM.tu hM9 (by decide)
        replace hF := hF.tu hF9 (by decide)
        have e_31 : gI σ_s_30 a 11 = a110 := (hM9.i (by decide)).trans K_11_1
        have e_32 : gI σ_s_30 a 19 = z_12 := (hM9.i (by decide)).trans e_13
        replace hsr := hsr.mv hM9 (by decide) (by decide) (by decide) (by decide) (by decide)
        replace hO := hO9
        have hw_29 : (gI σ_K_11 a 13 ≤ gI σ_s_30 a 13 ∧ gI σ_s_30 a 13 ≤ gI σ_K_11 a 11 ∧ 0 ≤ gI σ_s_30 a 17 ∧ gI σ_s_30 a 17 ≤ gI σ_s_30 a 13) ∧ pgo (gI σ_s_30 a 19) (gI σ_s_30 a 14) (gI σ_K_11 a 13) (gI σ_s_30 a 13) ∧ gI σ_s_30 a 19 = gI σ_K_11 a 19 := hw_29
        simp only [pgo, bdo] at hw_29
        refine lv_iload_n hx hb dX11_readDigits_54 rfl (lv_at hl 0 rfl) ?_
        exact th_iret hx hb hr hlocks hH hS (z := z_26) rz_26 ⟨hO, hF, hM, ⟨by omega, pgo.of (by omega), bdo.of (by omega)⟩⟩ dX11_readDigits_55
      · replace c_25 := mt (I_le (a := z_24) (b := 3) rz_24 (show rng 3 from ⟨by decide, by decide⟩)).mpr c_25
        refine lv_aload_n hx hb dX11_readDigits_40 rfl (lv_at hl 0 rfl) ?_
        refine lv_iconst (v := I 2) hx hb dX11_readDigits_41 (by decide) ?_
        obtain ⟨_, hc_33⟩ := hO.cell h_a (by decide) (ci := 11) rfl
        refine th_callv (va_runV (As := [.int (I 2)]) (rest := []) ⟨hx, hb, hml, hown, hts⟩ (m_wrong l G y b0 σ_K_11 E hO a h_a 2 (show rng 2 from (show rng 2 from ⟨by decide, by decide⟩)) (by omega) (by omega)) (cwV 1 hts gX11_readDigits_X11_wrong rfl rfl rfl (by decide +kernel) ⟨Nat.le_of_ble_eq_true rfl, Nat.le_of_ble_eq_true rfl⟩) (th_PV hK hH rfl hc_33) rfl rfl hl.1 rfl (lv_room (Nat.le_of_ble_eq_true rfl)) dX11_readDigits_42 ⟨Nat.le_of_ble_eq_true rfl, Nat.le_of_ble_eq_true rfl⟩) hS (fun σ_s_35 H locs hw_34 hH hS => ?_)
        obtain ⟨hO9, hF9, hM9, hw_34⟩ := hw_34
        replace hM := hM.tu hM9 (by decide)
        replace hF := hF.tu hF9 (by decide)
        have e_36 : gI σ_s_35 a 11 = a110 := (hM9.i (by decide)).trans K_11_1
        have e_37 : gI σ_s_35 a 13 = a130 := (hM9.i (by decide)).trans K_11_2
        have e_38 : gI σ_s_35 a 14 = a140 := (hM9.i (by decide)).trans K_11_3
        have e_39 : gI σ_s_35 a 17 = a170 := (hM9.i (by decide)).trans K_11_4
        have e_40 : gI σ_s_35 a 18 = z_22 := (hM9.i (by decide)).trans e_23
        replace hsr := hsr.mv hM9 (by decide) (by decide) (by decide) (by decide) (by decide)
        replace hO := hO9
        have hw_34 : ¬ gI σ_s_35 a 19 = 0 ∧ (gI σ_K_11 a 19 = 0 ∨ gI σ_s_35 a 19 = gI σ_K_11 a 19) := hw_34
        refine lv_aload_n hx hb dX11_readDigits_45 rfl (lv_at hl 0 rfl) ?_
        refine ok.getI hO h_a (by decide) k13_15 (fun _ _ he hv kk => th_get (ci := 11) (C := RX11) (T := TX11) (N := 66) hx hb hts inX11 hown hK hH he rfl 15 (by decide) fl1 hv dX11_readDigits_46 kk) (fun z_41 e_42 rz_41 lz_41 uz_41 => ?_)
        refine lv_istore_n (lv' := [(1, .int (I z_41)), (0, .ref a)]) hx hb dX11_readDigits_49 rfl hl (by decide) rfl (fun ls hl => ?_)
        refine lv_aload_n hx hb dX11_readDigits_50 rfl (lv_at hl 1 rfl) ?_
        obtain ⟨_, hc_43⟩ := hO.cell h_a (by decide) (ci := 11) rfl
        refine th_callv (va_runV (As := []) (rest := []) ⟨hx, hb, hml, hown, hts⟩ (m_pass l G y b0 σ_s_35 E hO a h_a Bf hsr (by omega)) (cwV 0 hts gX11_readDigits_X11_pass rfl rfl rfl (by decide +kernel) ⟨Nat.le_of_ble_eq_true rfl, Nat.le_of_ble_eq_true rfl⟩) (th_PV hK hH rfl hc_43) rfl rfl hl.1 rfl (lv_room (Nat.le_of_ble_eq_true rfl)) dX11_readDigits_51 ⟨Nat.le_of_ble_eq_true rfl, Nat.le_of_ble_eq_true rfl⟩) hS (fun σ_s_45 H locs hw_44 hH hS => ?_)
        obtain ⟨hO9, hF9, hM9, hw_44⟩ := hw_44
        replace hM := hM.tu hM9 (by decide)
        replace hF := hF.tu hF9 (by decide)
        have e_46 : gI σ_s_45 a 11 = a110 := (hM9.i (by decide)).trans e_36
        replace hsr := hsr.mv hM9 (by decide) (by decide) (by decide) (by decide) (by decide)
        replace hO := hO9
        have hw_44 : (gI σ_s_35 a 13 ≤ gI σ_s_45 a 13 ∧ gI σ_s_45 a 13 ≤ gI σ_s_35 a 11 ∧ 0 ≤ gI σ_s_45 a 17 ∧ gI σ_s_45 a 17 ≤ gI σ_s_45 a 13) ∧ pgo (gI σ_s_45 a 19) (gI σ_s_45 a 14) (gI σ_s_35 a 13) (gI σ_s_45 a 13) ∧ gI σ_s_45 a 19 = gI σ_s_35 a 19 := hw_44
        simp only [pgo, bdo] at hw_44
        refine lv_iload_n hx hb dX11_readDigits_54 rfl (lv_at hl 0 rfl) ?_
        exact th_iret hx hb hr hlocks hH hS (z := z_41) rz_41 ⟨hO, hF, hM, ⟨by omega, pgo.of (by omega), bdo.of (by omega)⟩⟩ dX11_readDigits_55
  · refine lv_if_ne (tgt := 20) hx hb dX11_readDigits_4 (by decide) (fun c_47 => ?_) (fun c_47 => ?_)
    · replace c_47 := mt (I_eq (a := a190) (b := 0) ra190 (show rng 0 from ⟨by decide, by decide⟩)).mpr c_47
      exact jK_11 () σ _ _ _ ⟨hO, hF, hM, hsr, hH, hS, lv_sub hl [0] rfl, by first | omega | (dsimp only; omega), ea110, ea130, ea140, ea170⟩
    · replace c_47 := (I_eq (a := a190) (b := 0) ra190 (show rng 0 from ⟨by decide, by decide⟩)).mp c_47
      refine lv_aload_n hx hb dX11_readDigits_7 rfl (lv_at hl 0 rfl) ?_
      refine ok.getIc hO h_a (by decide) k13_14 ea140 (fun _ _ he hv kk => th_get (ci := 11) (C := RX11) (T := TX11) (N := 66) hx hb hts inX11 hown hK hH he rfl 14 (by decide) fl4 hv dX11_readDigits_8 kk) ?_
      refine lv_iconst (v := I 2) hx hb dX11_readDigits_11 (by decide) ?_
      refine lv_icmp_eq (tgt := 20) hx hb dX11_readDigits_12 (by decide) (fun c_48 => ?_) (fun c_48 => ?_)
      · replace c_48 := (I_eq (a := a140) (b := 2) ra140 (show rng 2 from ⟨by decide, by decide⟩)).mp c_48
        exact jK_11 () σ _ _ _ ⟨hO, hF, hM, hsr, hH, hS, lv_sub hl [0] rfl, by first | omega | (dsimp only; omega), ea110, ea130, ea140, ea170⟩
      · replace c_48 := mt (I_eq (a := a140) (b := 2) ra140 (show rng 2 from ⟨by decide, by decide⟩)).mpr c_48
        refine lv_aload_n hx hb dX11_readDigits_15 rfl (lv_at hl 0 rfl) ?_
        refine lv_iconst (v := I 1) hx hb dX11_readDigits_16 (by decide) ?_
        obtain ⟨_, hc_49⟩ := hO.cell h_a (by decide) (ci := 11) rfl
        refine th_callv (va_runV (As := [.int (I 1)]) (rest := []) ⟨hx, hb, hml, hown, hts⟩ (m_wrong l G y b0 σ E hO a h_a 1 (show rng 1 from (show rng 1 from ⟨by decide, by decide⟩)) (by omega) (by omega)) (cwV 1 hts gX11_readDigits_X11_wrong rfl rfl rfl (by decide +kernel) ⟨Nat.le_of_ble_eq_true rfl, Nat.le_of_ble_eq_true rfl⟩) (th_PV hK hH rfl hc_49) rfl rfl hl.1 rfl (lv_room (Nat.le_of_ble_eq_true rfl)) dX11_readDigits_17 ⟨Nat.le_of_ble_eq_true rfl, Nat.le_of_ble_eq_true rfl⟩) hS (fun σ_s_51 H locs hw_50 hH hS => ?_)
        obtain ⟨hO9, hF9, hM9, hw_50⟩ := hw_50
        replace hM := hM.tu hM9 (by decide)
        replace hF := hF.tu hF9 (by decide)
        have e_52 : gI σ_s_51 a 11 = a110 := (hM9.i (by decide)).trans ea110
        have e_53 : gI σ_s_51 a 13 = a130 := (hM9.i (by decide)).trans ea130
        have e_54 : gI σ_s_51 a 14 = a140 := (hM9.i (by decide)).trans ea140
        have e_55 : gI σ_s_51 a 17 = a170 := (hM9.i (by decide)).trans ea170
        replace hsr := hsr.mv hM9 (by decide) (by decide) (by decide) (by decide) (by decide)
        replace hO := hO9
        have hw_50 : ¬ gI σ_s_51 a 19 = 0 ∧ (gI σ a 19 = 0 ∨ gI σ_s_51 a 19 = gI σ a 19) := hw_50
        exact jK_11 () σ_s_51 _ _ _ ⟨hO, hF, hM, hsr, hH, hS, lv_sub hl [0] rfl, by first | omega | (dsimp only; omega), e_52, e_53, e_54, e_55⟩

set_option maxHeartbeats 1000000 in
set_option maxRecDepth 100000 in
theorem m_readNumber (l : Launch) (G : va_G) (y : Nat → ClassId) (b0 : Nat) (σ : th_M) (E : th_E) (hO : ok y E σ) (a : Nat) (h_a : kd E a = 13) (Bf : Int → Int) (hsr : sr E σ a Bf) (hy0 : 0 ≤ gI σ a 17 ∧ gI σ a 17 ≤ gI σ a 13 ∧ gI σ a 13 ≤ gI σ a 11 ∧ gI σ a 11 ≤ 400) : Met l yX11_readNumber wsX11_readNumber ({ frames := 4, cells := 0, slots := 0, locals := 115 }) (th_P G y b0 σ [.ref a]) (th_Qi G b0 (fun r σ1 => ok y E σ1 ∧ fr [13] E σ σ1 ∧ fm [13, 14, 15, 16, 17, 18, 19, 20] E σ σ1 a ∧ ((gI σ a 13 ≤ gI σ1 a 13 ∧ gI σ1 a 13 ≤ gI σ a 11 ∧ 0 ≤ gI σ1 a 17 ∧ gI σ1 a 17 ≤ gI σ1 a 13) ∧ pgo (gI σ1 a 19) (gI σ1 a 14) (gI σ a 13) (gI σ1 a 13) ∧ bdo (gI σ a 19) (gI σ1 a 19)))) 0 0 (th_A b0) := by
  refine Met.ofW (cc := cX11_readNumber) (maxL := 3) (ret := (some .int)) (by decide) rfl ?_
  intro p e s m args below meth c s₁ B hml hv
  obtain ⟨rfl, hH, hK⟩ := hv
  have hx := B.exec
  have hb := B.bytes
  have hr := B.returns
  have hts := atoms_spec (ws := wsX11_readNumber) B.pre
  have hown : s.vm.findClass RX11 = some m.cls := findClass_of_methodNamed B.named
  have hlocks := B.notSynchronized
  have h00 : b0 ≤ s.heap.size := hH.1
  have hS : va_S (th_A b0) s.heap s.heap [] := va_S.rf
  have hF : fr [13] E σ σ := fr.rf
  have hM : fm [13, 14, 15, 16, 17, 18, 19, 20] E σ σ a := fm.rf
  have hl := lv_entry ([.ref a]) (n := 3) (Nat.le_of_ble_eq_true rfl)
  rw [lg_entry_eq]
  generalize (lg_sl ([.ref a]) ++ List.replicate (3 - (lg_sl ([.ref a])).length) Slot.unset).toArray = ls at hl ⊢
  have hl : lv_has ls 3 [(0, .ref a)] := hl
  obtain ⟨a110, ea110, ra110, la110, ua110⟩ := hO.gi h_a (by decide) k13_11
  obtain ⟨a130, ea130, ra130, la130, ua130⟩ := hO.gi h_a (by decide) k13_13
  obtain ⟨a140, ea140, ra140, la140, ua140⟩ := hO.gi h_a (by decide) k13_14
  obtain ⟨a170, ea170, ra170, la170, ua170⟩ := hO.gi h_a (by decide) k13_17
  obtain ⟨a190, ea190, ra190, la190, ua190⟩ := hO.gi h_a (by decide) k13_19
  refine lv_aload_n hx hb dX11_readNumber_0 rfl (lv_at hl 0 rfl) ?_
  refine lv_bipush (v := I 45) hx hb dX11_readNumber_1 (by decide) ?_
  obtain ⟨_, hc_1⟩ := hO.cell h_a (by decide) (ci := 11) rfl
  refine th_calli (va_runV (As := [.int (I 45)]) (rest := []) ⟨hx, hb, hml, hown, hts⟩ (m_isMarked l G y b0 σ E hO a h_a 45 (show rng 45 from (show rng 45 from ⟨by decide, by decide⟩)) Bf hsr (by omega)) (cwV 1 hts gX11_readNumber_X11_isMarked rfl rfl rfl (by decide +kernel) ⟨Nat.le_of_ble_eq_true rfl, Nat.le_of_ble_eq_true rfl⟩) (th_PV hK hH rfl hc_1) rfl rfl hl.1 rfl (lv_room (Nat.le_of_ble_eq_true rfl)) dX11_readNumber_3 ⟨Nat.le_of_ble_eq_true rfl, Nat.le_of_ble_eq_true rfl⟩) hS (fun z_4 σ_s_3 H locs rz_4 hw_2 hH hS => ?_)
  obtain ⟨e9, bhw_2, hw_2⟩ := hw_2
  replace e9 := e9.symm
  subst e9
  have hw_2 : z_4 = 0 ∨ (z_4 = 1 ∧ gI σ a 19 = 0 ∧ gI σ a 14 = 3 ∧ Bf (gI σ a 17) = 45) := hw_2
  refine lv_istore_n (lv' := [(1, .int (I z_4)), (0, .ref a)]) hx hb dX11_readNumber_6 rfl hl (by decide) rfl (fun ls hl => ?_)
  refine lv_iload_n hx hb dX11_readNumber_7 rfl (lv_at hl 0 rfl) ?_
  refine lv_if_eq (tgt := 15) hx hb dX11_readNumber_8 (by decide) (fun c_5 => ?_) (fun c_5 => ?_)
  · replace c_5 := (I_eq (a := z_4) (b := 0) rz_4 (show rng 0 from ⟨by decide, by decide⟩)).mp c_5
    clear hw_2
    refine lv_aload_n hx hb dX11_readNumber_15 rfl (lv_at hl 1 rfl) ?_
    obtain ⟨_, hc_6⟩ := hO.cell h_a (by decide) (ci := 11) rfl
    refine th_calli (va_runV (As := []) (rest := []) ⟨hx, hb, hml, hown, hts⟩ (m_readDigits l G y b0 σ E hO a h_a Bf hsr (by omega)) (cwV 0 hts gX11_readNumber_X11_readDigits rfl rfl rfl (by decide +kernel) ⟨Nat.le_of_ble_eq_true rfl, Nat.le_of_ble_eq_true rfl⟩) (th_PV hK hH rfl hc_6) rfl rfl hl.1 rfl (lv_room (Nat.le_of_ble_eq_true rfl)) dX11_readNumber_16 ⟨Nat.le_of_ble_eq_true rfl, Nat.le_of_ble_eq_true rfl⟩) hS (fun z_9 σ_s_8 H locs rz_9 hw_7 hH hS => ?_)
    obtain ⟨hO9, hF9, hM9, hw_7⟩ := hw_7
    replace hM := hM.tu hM9 (by decide)
    replace hF := hF.tu hF9 (by decide)
    have e_10 : gI σ_s_8 a 11 = a110 := (hM9.i (by decide)).trans ea110
    replace hsr := hsr.mv hM9 (by decide) (by decide) (by decide) (by decide) (by decide)
    replace hO := hO9
    have hw_7 : (gI σ a 13 ≤ gI σ_s_8 a 13 ∧ gI σ_s_8 a 13 ≤ gI σ a 11 ∧ 0 ≤ gI σ_s_8 a 17 ∧ gI σ_s_8 a 17 ≤ gI σ_s_8 a 13) ∧ pgo (gI σ_s_8 a 19) (gI σ_s_8 a 14) (gI σ a 13) (gI σ_s_8 a 13) ∧ bdo (gI σ a 19) (gI σ_s_8 a 19) := hw_7
    simp only [pgo, bdo] at hw_7
    refine lv_istore_n (lv' := [(2, .int (I z_9)), (1, .int (I z_4)), (0, .ref a)]) hx hb dX11_readNumber_19 rfl hl (by decide) rfl (fun ls hl => ?_)
    refine lv_iload_n hx hb dX11_readNumber_20 rfl (lv_at hl 1 rfl) ?_
    refine lv_if_eq (tgt := 29) hx hb dX11_readNumber_21 (by decide) (fun c_11 => ?_) (fun c_11 => ?_)
    · replace c_11 := (I_eq (a := z_4) (b := 0) rz_4 (show rng 0 from ⟨by decide, by decide⟩)).mp c_11
      refine lv_iload_n hx hb dX11_readNumber_29 rfl (lv_at hl 0 rfl) ?_
      exact th_iret hx hb hr hlocks hH hS (z := z_9) rz_9 ⟨hO, hF, hM, ⟨by omega, pgo.of (by omega), bdo.of (by omega)⟩⟩ dX11_readNumber_30
    · replace c_11 := mt (I_eq (a := z_4) (b := 0) rz_4 (show rng 0 from ⟨by decide, by decide⟩)).mpr c_11
      refine lv_iload_n hx hb dX11_readNumber_24 rfl (lv_at hl 0 rfl) ?_
      refine lv_ineg hx hb dX11_readNumber_25 ?_
      refine th_nego (fun z_12 rz_12 hz_12 => ?_)
      refine lv_goto (tgt := 30) hx hb dX11_readNumber_26 (by decide) ?_
      exact th_iret hx hb hr hlocks hH hS (z := z_12) rz_12 ⟨hO, hF, hM, ⟨by omega, pgo.of (by omega), bdo.of (by omega)⟩⟩ dX11_readNumber_30
  · replace c_5 := mt (I_eq (a := z_4) (b := 0) rz_4 (show rng 0 from ⟨by decide, by decide⟩)).mpr c_5
    replace hw_2 := (hw_2.resolve_left c_5).2
    refine lv_aload_n hx hb dX11_readNumber_11 rfl (lv_at hl 1 rfl) ?_
    obtain ⟨_, hc_13⟩ := hO.cell h_a (by decide) (ci := 11) rfl
    refine th_callv (va_runV (As := []) (rest := []) ⟨hx, hb, hml, hown, hts⟩ (m_pass l G y b0 σ E hO a h_a Bf hsr (by omega)) (cwV 0 hts gX11_readNumber_X11_pass rfl rfl rfl (by decide +kernel) ⟨Nat.le_of_ble_eq_true rfl, Nat.le_of_ble_eq_true rfl⟩) (th_PV hK hH rfl hc_13) rfl rfl hl.1 rfl (lv_room (Nat.le_of_ble_eq_true rfl)) dX11_readNumber_12 ⟨Nat.le_of_ble_eq_true rfl, Nat.le_of_ble_eq_true rfl⟩) hS (fun σ_s_15 H locs hw_14 hH hS => ?_)
    obtain ⟨hO9, hF9, hM9, hw_14⟩ := hw_14
    replace hM := hM.tu hM9 (by decide)
    replace hF := hF.tu hF9 (by decide)
    have e_16 : gI σ_s_15 a 11 = a110 := (hM9.i (by decide)).trans ea110
    have e_17 : gI σ_s_15 a 19 = a190 := (hM9.i (by decide)).trans ea190
    replace hsr := hsr.mv hM9 (by decide) (by decide) (by decide) (by decide) (by decide)
    replace hO := hO9
    have hw_14 : (gI σ a 13 ≤ gI σ_s_15 a 13 ∧ gI σ_s_15 a 13 ≤ gI σ a 11 ∧ 0 ≤ gI σ_s_15 a 17 ∧ gI σ_s_15 a 17 ≤ gI σ_s_15 a 13) ∧ pgo (gI σ_s_15 a 19) (gI σ_s_15 a 14) (gI σ a 13) (gI σ_s_15 a 13) ∧ gI σ_s_15 a 19 = gI σ a 19 := hw_14
    simp only [pgo, bdo] at hw_14
    refine lv_aload_n hx hb dX11_readNumber_15 rfl (lv_at hl 1 rfl) ?_
    obtain ⟨_, hc_18⟩ := hO.cell h_a (by decide) (ci := 11) rfl
    refine th_calli (va_runV (As := []) (rest := []) ⟨hx, hb, hml, hown, hts⟩ (m_readDigits l G y b0 σ_s_15 E hO a h_a Bf hsr (by omega)) (cwV 0 hts gX11_readNumber_X11_readDigits rfl rfl rfl (by decide +kernel) ⟨Nat.le_of_ble_eq_true rfl, Nat.le_of_ble_eq_true rfl⟩) (th_PV hK hH rfl hc_18) rfl rfl hl.1 rfl (lv_room (Nat.le_of_ble_eq_true rfl)) dX11_readNumber_16 ⟨Nat.le_of_ble_eq_true rfl, Nat.le_of_ble_eq_true rfl⟩) hS (fun z_21 σ_s_20 H locs rz_21 hw_19 hH hS => ?_)
    obtain ⟨hO9, hF9, hM9, hw_19⟩ := hw_19
    replace hM := hM.tu hM9 (by decide)
    replace hF := hF.tu hF9 (by decide)
    have e_22 : gI σ_s_20 a 11 = a110 := (hM9.i (by decide)).trans e_16
    replace hsr := hsr.mv hM9 (by decide) (by decide) (by decide) (by decide) (by decide)
    replace hO := hO9
    have hw_19 : (gI σ_s_15 a 13 ≤ gI σ_s_20 a 13 ∧ gI σ_s_20 a 13 ≤ gI σ_s_15 a 11 ∧ 0 ≤ gI σ_s_20 a 17 ∧ gI σ_s_20 a 17 ≤ gI σ_s_20 a 13) ∧ pgo (gI σ_s_20 a 19) (gI σ_s_20 a 14) (gI σ_s_15 a 13) (gI σ_s_20 a 13) ∧ bdo (gI σ_s_15 a 19) (gI σ_s_20 a 19) := hw_19
    simp only [pgo, bdo] at hw_19
    refine lv_istore_n (lv' := [(2, .int (I z_21)), (1, .int (I z_4)), (0, .ref a)]) hx hb dX11_readNumber_19 rfl hl (by decide) rfl (fun ls hl => ?_)
    refine lv_iload_n hx hb dX11_readNumber_20 rfl (lv_at hl 1 rfl) ?_
    refine lv_if_eq (tgt := 29) hx hb dX11_readNumber_21 (by decide) (fun c_23 => ?_) (fun c_23 => ?_)
    · replace c_23 := (I_eq (a := z_4) (b := 0) rz_4 (show rng 0 from ⟨by decide, by decide⟩)).mp c_23
      refine lv_iload_n hx hb dX11_readNumber_29 rfl (lv_at hl 0 rfl) ?_
      exact th_iret hx hb hr hlocks hH hS (z := z_21) rz_21 ⟨hO, hF, hM, ⟨by omega, pgo.of (by omega), bdo.of (by omega)⟩⟩ dX11_readNumber_30
    · replace c_23 := mt (I_eq (a := z_4) (b := 0) rz_4 (show rng 0 from ⟨by decide, by decide⟩)).mpr c_23
      refine lv_iload_n hx hb dX11_readNumber_24 rfl (lv_at hl 0 rfl) ?_
      refine lv_ineg hx hb dX11_readNumber_25 ?_
      refine th_nego (fun z_24 rz_24 hz_24 => ?_)
      refine lv_goto (tgt := 30) hx hb dX11_readNumber_26 (by decide) ?_
      exact th_iret hx hb hr hlocks hH hS (z := z_24) rz_24 ⟨hO, hF, hM, ⟨by omega, pgo.of (by omega), bdo.of (by omega)⟩⟩ dX11_readNumber_30

set_option maxHeartbeats 1000000 in
set_option maxRecDepth 100000 in
theorem m_wordNow (l : Launch) (G : va_G) (y : Nat → ClassId) (b0 : Nat) (σ : th_M) (E : th_E) (hO : ok y E σ) (a : Nat) (h_a : kd E a = 13) : Met l yX11_wordNow wsX11_wordNow ({ frames := 1, cells := 0, slots := 0, locals := 25 }) (th_P G y b0 σ [.ref a]) (th_Qi G b0 (fun r σ1 => ok y E σ1 ∧ fr [13] E σ σ1 ∧ fm [19, 20] E σ σ1 a ∧ (bdo (gI σ a 19) (gI σ1 a 19)))) 0 0 (th_A b0) := by
  refine Met.ofW (cc := cX11_wordNow) (maxL := 1) (ret := (some .int)) (by decide) rfl ?_
  intro p e s m args below meth c s₁ B hml hv
  obtain ⟨rfl, hH, hK⟩ := hv
  have hx := B.exec
  have hb := B.bytes
  have hr := B.returns
  have hts := atoms_spec (ws := wsX11_wordNow) B.pre
  have hown : s.vm.findClass RX11 = some m.cls := findClass_of_methodNamed B.named
  have hlocks := B.notSynchronized
  have h00 : b0 ≤ s.heap.size := hH.1
  have hS : va_S (th_A b0) s.heap s.heap [] := va_S.rf
  have hF : fr [13] E σ σ := fr.rf
  have hM : fm [19, 20] E σ σ a := fm.rf
  have inX11 : ∀ w ∈ wsX110, w ∈ wsX11_wordNow := by decide +kernel
  have fl0 := hts (.fieldLink RX11 162 "NestQueryModel" "bad" "I") (by decide +kernel)
  have fl1 := hts (.fieldLink RX11 143 "NestQueryModel" "word" "I") (by decide +kernel)
  have fl2 := hts (.fieldLink RX11 159 "NestQueryModel" "stops" "I") (by decide +kernel)
  have fl3 := hts (.fieldLink RX11 133 "NestQueryModel" "begins" "I") (by decide +kernel)
  have fl4 := hts (.fieldLink RX11 136 "NestQueryModel" "token" "I") (by decide +kernel)
  have hl := lv_entry ([.ref a]) (n := 1) (Nat.le_of_ble_eq_true rfl)
  rw [lg_entry_eq]
  generalize (lg_sl ([.ref a]) ++ List.replicate (1 - (lg_sl ([.ref a])).length) Slot.unset).toArray = ls at hl ⊢
  have hl : lv_has ls 1 [(0, .ref a)] := hl
  obtain ⟨a110, ea110, ra110, la110, ua110⟩ := hO.gi h_a (by decide) k13_11
  obtain ⟨a130, ea130, ra130, la130, ua130⟩ := hO.gi h_a (by decide) k13_13
  obtain ⟨a140, ea140, ra140, la140, ua140⟩ := hO.gi h_a (by decide) k13_14
  obtain ⟨a170, ea170, ra170, la170, ua170⟩ := hO.gi h_a (by decide) k13_17
  obtain ⟨a190, ea190, ra190, la190, ua190⟩ := hO.gi h_a (by decide) k13_19
  refine lv_aload_n hx hb dX11_wordNow_0 rfl (lv_at hl 0 rfl) ?_
  refine ok.getIc hO h_a (by decide) k13_19 ea190 (fun _ _ he hv kk => th_get (ci := 11) (C := RX11) (T := TX11) (N := 66) hx hb hts inX11 hown hK hH he rfl 19 (by decide) fl0 hv dX11_wordNow_1 kk) ?_
  refine th_join (α := Unit) (J := 20) (stk := fun x9 => []) (fun x9 σ9 H9 l9 ls9 => ok y E σ9 ∧ fr [13] E σ σ9 ∧ fm [19, 20] E σ σ9 a ∧ th_H G b0 σ9 H9 ∧ va_S (th_A b0) s.heap H9 l9 ∧ lv_has ls9 1 [(0, .ref a)] ∧ (gI σ a 19 = 0 ∨ ¬ gI σ9 a 19 = 0) ∧ (gI σ9 a 11 = a110) ∧ (gI σ9 a 13 = a130) ∧ (gI σ9 a 14 = a140) ∧ (gI σ9 a 17 = a170)) ?_ (fun jK_11 => ?_)
  · intro x9 σ_K_11 H locs ls hI9
    obtain ⟨hO, hF, hM, hH, hS, hl, K_11_0, K_11_1, K_11_2, K_11_3, K_11_4⟩ := hI9
    have hl : lv_has ls 1 [(0, .ref a)] := hl
    have K_11_0 : gI σ a 19 = 0 ∨ ¬ gI σ_K_11 a 19 = 0 := K_11_0
    have K_11_1 : gI σ_K_11 a 11 = a110 := K_11_1
    have K_11_2 : gI σ_K_11 a 13 = a130 := K_11_2
    have K_11_3 : gI σ_K_11 a 14 = a140 := K_11_3
    have K_11_4 : gI σ_K_11 a 17 = a170 := K_11_4
    refine lv_aload_n hx hb dX11_wordNow_20 rfl (lv_at hl 0 rfl) ?_
    refine ok.getI hO h_a (by decide) k13_19 (fun _ _ he hv kk => th_get (ci := 11) (C := RX11) (T := TX11) (N := 66) hx hb hts inX11 hown hK hH he rfl 19 (by decide) fl0 hv dX11_wordNow_21 kk) (fun z_12 e_13 rz_12 lz_12 uz_12 => ?_)
    refine lv_if_ne (tgt := 46) hx hb dX11_wordNow_24 (by decide) (fun c_14 => ?_) (fun c_14 => ?_)
    · replace c_14 := mt (I_eq (a := z_12) (b := 0) rz_12 (show rng 0 from ⟨by decide, by decide⟩)).mpr c_14
      refine lv_aload_n hx hb dX11_wordNow_46 rfl (lv_at hl 0 rfl) ?_
      refine ok.getI hO h_a (by decide) k13_16 (fun _ _ he hv kk => th_get (ci := 11) (C := RX11) (T := TX11) (N := 66) hx hb hts inX11 hown hK hH he rfl 16 (by decide) fl1 hv dX11_wordNow_47 kk) (fun z_15 e_16 rz_15 lz_15 uz_15 => ?_)
      exact th_iret hx hb hr hlocks hH hS (z := z_15) rz_15 ⟨hO, hF, hM, bdo.of (by omega)⟩ dX11_wordNow_50
    · replace c_14 := (I_eq (a := z_12) (b := 0) rz_12 (show rng 0 from ⟨by decide, by decide⟩)).mp c_14
      refine lv_aload_n hx hb dX11_wordNow_27 rfl (lv_at hl 0 rfl) ?_
      refine ok.getI hO h_a (by decide) k13_18 (fun _ _ he hv kk => th_get (ci := 11) (C := RX11) (T := TX11) (N := 66) hx hb hts inX11 hown hK hH he rfl 18 (by decide) fl2 hv dX11_wordNow_28 kk) (fun z_17 e_18 rz_17 lz_17 uz_17 => ?_)
      refine lv_aload_n hx hb dX11_wordNow_31 rfl (lv_at hl 0 rfl) ?_
      refine ok.getIc hO h_a (by decide) k13_17 K_11_4 (fun _ _ he hv kk => th_get (ci := 11) (C := RX11) (T := TX11) (N := 66) hx hb hts inX11 hown hK hH he rfl 17 (by decide) fl3 hv dX11_wordNow_32 kk) ?_
      refine lv_isub hx hb dX11_wordNow_35 ?_
      refine th_subo (fun z_19 rz_19 hz_19 => ?_)
      refine lv_bipush (v := I 6) hx hb dX11_wordNow_36 (by decide) ?_
      refine lv_icmp_le (tgt := 46) hx hb dX11_wordNow_38 (by decide) (fun c_20 => ?_) (fun c_20 => ?_)
      · replace c_20 := (I_le (a := z_19) (b := 6) rz_19 (show rng 6 from ⟨by decide, by decide⟩)).mp c_20
        refine lv_aload_n hx hb dX11_wordNow_46 rfl (lv_at hl 0 rfl) ?_
        refine ok.getI hO h_a (by decide) k13_16 (fun _ _ he hv kk => th_get (ci := 11) (C := RX11) (T := TX11) (N := 66) hx hb hts inX11 hown hK hH he rfl 16 (by decide) fl1 hv dX11_wordNow_47 kk) (fun z_21 e_22 rz_21 lz_21 uz_21 => ?_)
        exact th_iret hx hb hr hlocks hH hS (z := z_21) rz_21 ⟨hO, hF, hM, bdo.of (by omega)⟩ dX11_wordNow_50
      · replace c_20 := mt (I_le (a := z_19) (b := 6) rz_19 (show rng 6 from ⟨by decide, by decide⟩)).mpr c_20
        refine lv_aload_n hx hb dX11_wordNow_41 rfl (lv_at hl 0 rfl) ?_
        refine lv_iconst (v := I 2) hx hb dX11_wordNow_42 (by decide) ?_
        obtain ⟨_, hc_23⟩ := hO.cell h_a (by decide) (ci := 11) rfl
        refine th_callv (va_runV (As := [.int (I 2)]) (rest := []) ⟨hx, hb, hml, hown, hts⟩ (m_wrong l G y b0 σ_K_11 E hO a h_a 2 (show rng 2 from (show rng 2 from ⟨by decide, by decide⟩)) (by omega) (by omega)) (cwV 1 hts gX11_wordNow_X11_wrong rfl rfl rfl (by decide +kernel) ⟨Nat.le_of_ble_eq_true rfl, Nat.le_of_ble_eq_true rfl⟩) (th_PV hK hH rfl hc_23) rfl rfl hl.1 rfl (lv_room (Nat.le_of_ble_eq_true rfl)) dX11_wordNow_43 ⟨Nat.le_of_ble_eq_true rfl, Nat.le_of_ble_eq_true rfl⟩) hS (fun σ_s_25 H locs hw_24 hH hS => ?_)
        obtain ⟨hO9, hF9, hM9, hw_24⟩ := hw_24
        replace hM := hM.tu hM9 (by decide)
        replace hF := hF.tu hF9 (by decide)
        have e_26 : gI σ_s_25 a 11 = a110 := (hM9.i (by decide)).trans K_11_1
        have e_27 : gI σ_s_25 a 13 = a130 := (hM9.i (by decide)).trans K_11_2
        have e_28 : gI σ_s_25 a 14 = a140 := (hM9.i (by decide)).trans K_11_3
        have e_29 : gI σ_s_25 a 17 = a170 := (hM9.i (by decide)).trans K_11_4
        have e_30 : gI σ_s_25 a 18 = z_17 := (hM9.i (by decide)).trans e_18
        replace hO := hO9
        have hw_24 : ¬ gI σ_s_25 a 19 = 0 ∧ (gI σ_K_11 a 19 = 0 ∨ gI σ_s_25 a 19 = gI σ_K_11 a 19) := hw_24
        refine lv_aload_n hx hb dX11_wordNow_46 rfl (lv_at hl 0 rfl) ?_
        refine ok.getI hO h_a (by decide) k13_16 (fun _ _ he hv kk => th_get (ci := 11) (C := RX11) (T := TX11) (N := 66) hx hb hts inX11 hown hK hH he rfl 16 (by decide) fl1 hv dX11_wordNow_47 kk) (fun z_31 e_32 rz_31 lz_31 uz_31 => ?_)
        exact th_iret hx hb hr hlocks hH hS (z := z_31) rz_31 ⟨hO, hF, hM, bdo.of (by omega)⟩ dX11_wordNow_50
  · refine lv_if_ne (tgt := 20) hx hb dX11_wordNow_4 (by decide) (fun c_33 => ?_) (fun c_33 => ?_)
    · replace c_33 := mt (I_eq (a := a190) (b := 0) ra190 (show rng 0 from ⟨by decide, by decide⟩)).mpr c_33
      exact jK_11 () σ _ _ _ ⟨hO, hF, hM, hH, hS, lv_sub hl [0] rfl, by first | omega | (dsimp only; omega), ea110, ea130, ea140, ea170⟩
    · replace c_33 := (I_eq (a := a190) (b := 0) ra190 (show rng 0 from ⟨by decide, by decide⟩)).mp c_33
      refine lv_aload_n hx hb dX11_wordNow_7 rfl (lv_at hl 0 rfl) ?_
      refine ok.getIc hO h_a (by decide) k13_14 ea140 (fun _ _ he hv kk => th_get (ci := 11) (C := RX11) (T := TX11) (N := 66) hx hb hts inX11 hown hK hH he rfl 14 (by decide) fl4 hv dX11_wordNow_8 kk) ?_
      refine lv_iconst (v := I 1) hx hb dX11_wordNow_11 (by decide) ?_
      refine lv_icmp_eq (tgt := 20) hx hb dX11_wordNow_12 (by decide) (fun c_34 => ?_) (fun c_34 => ?_)
      · replace c_34 := (I_eq (a := a140) (b := 1) ra140 (show rng 1 from ⟨by decide, by decide⟩)).mp c_34
        exact jK_11 () σ _ _ _ ⟨hO, hF, hM, hH, hS, lv_sub hl [0] rfl, by first | omega | (dsimp only; omega), ea110, ea130, ea140, ea170⟩
      · replace c_34 := mt (I_eq (a := a140) (b := 1) ra140 (show rng 1 from ⟨by decide, by decide⟩)).mpr c_34
        refine lv_aload_n hx hb dX11_wordNow_15 rfl (lv_at hl 0 rfl) ?_
        refine lv_iconst (v := I 1) hx hb dX11_wordNow_16 (by decide) ?_
        obtain ⟨_, hc_35⟩ := hO.cell h_a (by decide) (ci := 11) rfl
        refine th_callv (va_runV (As := [.int (I 1)]) (rest := []) ⟨hx, hb, hml, hown, hts⟩ (m_wrong l G y b0 σ E hO a h_a 1 (show rng 1 from (show rng 1 from ⟨by decide, by decide⟩)) (by omega) (by omega)) (cwV 1 hts gX11_wordNow_X11_wrong rfl rfl rfl (by decide +kernel) ⟨Nat.le_of_ble_eq_true rfl, Nat.le_of_ble_eq_true rfl⟩) (th_PV hK hH rfl hc_35) rfl rfl hl.1 rfl (lv_room (Nat.le_of_ble_eq_true rfl)) dX11_wordNow_17 ⟨Nat.le_of_ble_eq_true rfl, Nat.le_of_ble_eq_true rfl⟩) hS (fun σ_s_37 H locs hw_36 hH hS => ?_)
        obtain ⟨hO9, hF9, hM9, hw_36⟩ := hw_36
        replace hM := hM.tu hM9 (by decide)
        replace hF := hF.tu hF9 (by decide)
        have e_38 : gI σ_s_37 a 11 = a110 := (hM9.i (by decide)).trans ea110
        have e_39 : gI σ_s_37 a 13 = a130 := (hM9.i (by decide)).trans ea130
        have e_40 : gI σ_s_37 a 14 = a140 := (hM9.i (by decide)).trans ea140
        have e_41 : gI σ_s_37 a 17 = a170 := (hM9.i (by decide)).trans ea170
        replace hO := hO9
        have hw_36 : ¬ gI σ_s_37 a 19 = 0 ∧ (gI σ a 19 = 0 ∨ gI σ_s_37 a 19 = gI σ a 19) := hw_36
        exact jK_11 () σ_s_37 _ _ _ ⟨hO, hF, hM, hH, hS, lv_sub hl [0] rfl, by first | omega | (dsimp only; omega), e_38, e_39, e_40, e_41⟩

set_option maxHeartbeats 1000000 in
set_option maxRecDepth 100000 in
theorem m_readWord (l : Launch) (G : va_G) (y : Nat → ClassId) (b0 : Nat) (σ : th_M) (E : th_E) (hO : ok y E σ) (a : Nat) (h_a : kd E a = 13) (Bf : Int → Int) (hsr : sr E σ a Bf) (hy0 : 0 ≤ gI σ a 17 ∧ gI σ a 17 ≤ gI σ a 13 ∧ gI σ a 13 ≤ gI σ a 11 ∧ gI σ a 11 ≤ 400) : Met l yX11_readWord wsX11_readWord ({ frames := 3, cells := 0, slots := 0, locals := 90 }) (th_P G y b0 σ [.ref a]) (th_Qi G b0 (fun r σ1 => ok y E σ1 ∧ fr [13] E σ σ1 ∧ fm [13, 14, 15, 16, 17, 18, 19, 20] E σ σ1 a ∧ ((gI σ a 13 ≤ gI σ1 a 13 ∧ gI σ1 a 13 ≤ gI σ a 11 ∧ 0 ≤ gI σ1 a 17 ∧ gI σ1 a 17 ≤ gI σ1 a 13) ∧ pgo (gI σ1 a 19) (gI σ1 a 14) (gI σ a 13) (gI σ1 a 13) ∧ bdo (gI σ a 19) (gI σ1 a 19)))) 0 0 (th_A b0) := by
  refine Met.ofW (cc := cX11_readWord) (maxL := 2) (ret := (some .int)) (by decide) rfl ?_
  intro p e s m args below meth c s₁ B hml hv
  obtain ⟨rfl, hH, hK⟩ := hv
  have hx := B.exec
  have hb := B.bytes
  have hr := B.returns
  have hts := atoms_spec (ws := wsX11_readWord) B.pre
  have hown : s.vm.findClass RX11 = some m.cls := findClass_of_methodNamed B.named
  have hlocks := B.notSynchronized
  have h00 : b0 ≤ s.heap.size := hH.1
  have hS : va_S (th_A b0) s.heap s.heap [] := va_S.rf
  have hF : fr [13] E σ σ := fr.rf
  have hM : fm [13, 14, 15, 16, 17, 18, 19, 20] E σ σ a := fm.rf
  have hl := lv_entry ([.ref a]) (n := 2) (Nat.le_of_ble_eq_true rfl)
  rw [lg_entry_eq]
  generalize (lg_sl ([.ref a]) ++ List.replicate (2 - (lg_sl ([.ref a])).length) Slot.unset).toArray = ls at hl ⊢
  have hl : lv_has ls 2 [(0, .ref a)] := hl
  obtain ⟨a110, ea110, ra110, la110, ua110⟩ := hO.gi h_a (by decide) k13_11
  obtain ⟨a130, ea130, ra130, la130, ua130⟩ := hO.gi h_a (by decide) k13_13
  obtain ⟨a140, ea140, ra140, la140, ua140⟩ := hO.gi h_a (by decide) k13_14
  obtain ⟨a170, ea170, ra170, la170, ua170⟩ := hO.gi h_a (by decide) k13_17
  obtain ⟨a190, ea190, ra190, la190, ua190⟩ := hO.gi h_a (by decide) k13_19
  refine lv_aload_n hx hb dX11_readWord_0 rfl (lv_at hl 0 rfl) ?_
  obtain ⟨_, hc_1⟩ := hO.cell h_a (by decide) (ci := 11) rfl
  refine th_calli (va_runV (As := []) (rest := []) ⟨hx, hb, hml, hown, hts⟩ (m_wordNow l G y b0 σ E hO a h_a) (cwV 0 hts gX11_readWord_X11_wordNow rfl rfl rfl (by decide +kernel) ⟨Nat.le_of_ble_eq_true rfl, Nat.le_of_ble_eq_true rfl⟩) (th_PV hK hH rfl hc_1) rfl rfl hl.1 rfl (lv_room (Nat.le_of_ble_eq_true rfl)) dX11_readWord_1 ⟨Nat.le_of_ble_eq_true rfl, Nat.le_of_ble_eq_true rfl⟩) hS (fun z_4 σ_s_3 H locs rz_4 hw_2 hH hS => ?_)
  obtain ⟨hO9, hF9, hM9, hw_2⟩ := hw_2
  replace hM := hM.tu hM9 (by decide)
  replace hF := hF.tu hF9 (by decide)
  have e_5 : gI σ_s_3 a 11 = a110 := (hM9.i (by decide)).trans ea110
  have e_6 : gI σ_s_3 a 13 = a130 := (hM9.i (by decide)).trans ea130
  have e_7 : gI σ_s_3 a 14 = a140 := (hM9.i (by decide)).trans ea140
  have e_8 : gI σ_s_3 a 17 = a170 := (hM9.i (by decide)).trans ea170
  replace hsr := hsr.mv hM9 (by decide) (by decide) (by decide) (by decide) (by decide)
  replace hO := hO9
  have hw_2 : bdo (gI σ a 19) (gI σ_s_3 a 19) := hw_2
  simp only [pgo, bdo] at hw_2
  refine lv_istore_n (lv' := [(1, .int (I z_4)), (0, .ref a)]) hx hb dX11_readWord_4 rfl hl (by decide) rfl (fun ls hl => ?_)
  refine lv_aload_n hx hb dX11_readWord_5 rfl (lv_at hl 1 rfl) ?_
  obtain ⟨_, hc_9⟩ := hO.cell h_a (by decide) (ci := 11) rfl
  refine th_callv (va_runV (As := []) (rest := []) ⟨hx, hb, hml, hown, hts⟩ (m_pass l G y b0 σ_s_3 E hO a h_a Bf hsr (by omega)) (cwV 0 hts gX11_readWord_X11_pass rfl rfl rfl (by decide +kernel) ⟨Nat.le_of_ble_eq_true rfl, Nat.le_of_ble_eq_true rfl⟩) (th_PV hK hH rfl hc_9) rfl rfl hl.1 rfl (lv_room (Nat.le_of_ble_eq_true rfl)) dX11_readWord_6 ⟨Nat.le_of_ble_eq_true rfl, Nat.le_of_ble_eq_true rfl⟩) hS (fun σ_s_11 H locs hw_10 hH hS => ?_)
  obtain ⟨hO9, hF9, hM9, hw_10⟩ := hw_10
  replace hM := hM.tu hM9 (by decide)
  replace hF := hF.tu hF9 (by decide)
  have e_12 : gI σ_s_11 a 11 = a110 := (hM9.i (by decide)).trans e_5
  replace hsr := hsr.mv hM9 (by decide) (by decide) (by decide) (by decide) (by decide)
  replace hO := hO9
  have hw_10 : (gI σ_s_3 a 13 ≤ gI σ_s_11 a 13 ∧ gI σ_s_11 a 13 ≤ gI σ_s_3 a 11 ∧ 0 ≤ gI σ_s_11 a 17 ∧ gI σ_s_11 a 17 ≤ gI σ_s_11 a 13) ∧ pgo (gI σ_s_11 a 19) (gI σ_s_11 a 14) (gI σ_s_3 a 13) (gI σ_s_11 a 13) ∧ gI σ_s_11 a 19 = gI σ_s_3 a 19 := hw_10
  simp only [pgo, bdo] at hw_10
  refine lv_iload_n hx hb dX11_readWord_9 rfl (lv_at hl 0 rfl) ?_
  exact th_iret hx hb hr hlocks hH hS (z := z_4) rz_4 ⟨hO, hF, hM, ⟨by omega, pgo.of (by omega), bdo.of (by omega)⟩⟩ dX11_readWord_10

set_option maxHeartbeats 1000000 in
set_option maxRecDepth 100000 in
theorem m_begin6 (l : Launch) (G : va_G) (y : Nat → ClassId) (b0 : Nat) (σ : th_M) (E : th_E) (hO : ok y E σ) (a : Nat) (h_a : kd E a = 13) (pl : Int) (rpl : rng pl) (l_pl : 0 ≤ pl) (u_pl : pl ≤ 1600) (nn : Int) (rnn : rng nn) (l_nn : 0 ≤ nn) (u_nn : nn ≤ 400) (hy0 : pl + nn ≤ 400) : Met l yX11_beginText wsX11_beginText ({ frames := 2, cells := 0, slots := 0, locals := 66 }) (th_P G y b0 σ [.ref a, .ref (ad E a 6), .int (I pl), .int (I nn)]) (th_Qv G b0 (fun σ1 => ok y E σ1 ∧ fr [13] E σ σ1 ∧ fm [9, 10, 11, 13, 14, 15, 16, 17, 18, 19, 20] E σ σ1 a ∧ ∃ Bf, sr E σ1 a Bf ∧ (gI σ1 a 11 = nn ∧ 0 ≤ gI σ1 a 17 ∧ gI σ1 a 17 ≤ gI σ1 a 13 ∧ gI σ1 a 13 ≤ gI σ1 a 11 ∧ gI σ1 a 19 = 0))) 0 0 (th_A b0) := by
  refine Met.ofW (cc := cX11_beginText) (maxL := 4) (ret := none) (by decide) rfl ?_
  intro p e s m args below meth c s₁ B hml hv
  obtain ⟨rfl, hH, hK⟩ := hv
  have hx := B.exec
  have hb := B.bytes
  have hr := B.returns
  have hts := atoms_spec (ws := wsX11_beginText) B.pre
  have hown : s.vm.findClass RX11 = some m.cls := findClass_of_methodNamed B.named
  have hlocks := B.notSynchronized
  have h00 : b0 ≤ s.heap.size := hH.1
  have hS : va_S (th_A b0) s.heap s.heap [] := va_S.rf
  have hF : fr [13] E σ σ := fr.rf
  have hM : fm [9, 10, 11, 13, 14, 15, 16, 17, 18, 19, 20] E σ σ a := fm.rf
  have inX11 : ∀ w ∈ wsX110, w ∈ wsX11_beginText := by decide +kernel
  have fl0 := hts (.fieldLink RX11 120 "NestQueryModel" "source" "[I") (by decide +kernel)
  have fl1 := hts (.fieldLink RX11 123 "NestQueryModel" "from" "I") (by decide +kernel)
  have fl2 := hts (.fieldLink RX11 117 "NestQueryModel" "textSize" "I") (by decide +kernel)
  have fl3 := hts (.fieldLink RX11 126 "NestQueryModel" "at" "I") (by decide +kernel)
  have fl4 := hts (.fieldLink RX11 162 "NestQueryModel" "bad" "I") (by decide +kernel)
  have hl := lv_entry ([.ref a, .ref (ad E a 6), .int (I pl), .int (I nn)]) (n := 4) (Nat.le_of_ble_eq_true rfl)
  rw [lg_entry_eq]
  generalize (lg_sl ([.ref a, .ref (ad E a 6), .int (I pl), .int (I nn)]) ++ List.replicate (4 - (lg_sl ([.ref a, .ref (ad E a 6), .int (I pl), .int (I nn)])).length) Slot.unset).toArray = ls at hl ⊢
  have hl : lv_has ls 4 [(0, .ref a), (1, .ref (ad E a 6)), (2, .int (I pl)), (3, .int (I nn))] := hl
  refine lv_aload_n hx hb dX11_beginText_0 rfl (lv_at hl 0 rfl) ?_
  refine lv_aload_n hx hb dX11_beginText_1 rfl (lv_at hl 1 rfl) ?_
  refine ok.putS (j := 6) hO h_a (by decide) (fun _ he hl9 kk => th_put (ci := 11) (v := .ref (ad E a 6)) (ty := .array .int) (C := RX11) (T := TX11) (N := 66) hx hb hts inX11 tyX11 tyX11_ok nmX11 hown hK hH hS h00 he rfl 9 (by decide) fl0 rfl (by decide +kernel) rfl rfl hl9 dX11_beginText_2 kk) (fun σ_s_1 H locs hO hF9 hM9 hg9 ha9 hH hS => ?_)
  replace hM := hM.tu hM9 (by decide)
  replace hF := hF.tu hF9 (by decide)
  have es_2 := hg9
  refine lv_aload_n hx hb dX11_beginText_5 rfl (lv_at hl 0 rfl) ?_
  refine lv_iload_n hx hb dX11_beginText_6 rfl (lv_at hl 2 rfl) ?_
  refine ok.putJ hO h_a k13_10 rpl (by omega) (by omega) (fun _ he hl9 kk => th_put (ci := 11) (v := .int (I pl)) (ty := .int) (C := RX11) (T := TX11) (N := 66) hx hb hts inX11 tyX11 tyX11_ok nmX11 hown hK hH hS h00 he rfl 10 (by decide) fl1 rfl (by decide +kernel) rfl rfl hl9 dX11_beginText_7 kk) (fun σ_s_3 H locs hO hF9 hM9 hg9 ha9 hH hS => ?_)
  replace hM := hM.tu hM9 (by decide)
  replace hF := hF.tu hF9 (by decide)
  have e_4 : gV σ_s_3 a 9 = some (.ref (ad E a 6)) := (hM9.1 9 (by decide)).trans es_2
  have e_5 := hg9
  refine lv_aload_n hx hb dX11_beginText_10 rfl (lv_at hl 0 rfl) ?_
  refine lv_iload_n hx hb dX11_beginText_11 rfl (lv_at hl 3 rfl) ?_
  refine ok.putJ hO h_a k13_11 rnn (by omega) (by omega) (fun _ he hl9 kk => th_put (ci := 11) (v := .int (I nn)) (ty := .int) (C := RX11) (T := TX11) (N := 66) hx hb hts inX11 tyX11 tyX11_ok nmX11 hown hK hH hS h00 he rfl 11 (by decide) fl2 rfl (by decide +kernel) rfl rfl hl9 dX11_beginText_12 kk) (fun σ_s_6 H locs hO hF9 hM9 hg9 ha9 hH hS => ?_)
  replace hM := hM.tu hM9 (by decide)
  replace hF := hF.tu hF9 (by decide)
  have e_7 : gV σ_s_6 a 9 = some (.ref (ad E a 6)) := (hM9.1 9 (by decide)).trans e_4
  have e_8 : gI σ_s_6 a 10 = pl := (hM9.i (by decide)).trans e_5
  have e_9 := hg9
  refine lv_aload_n hx hb dX11_beginText_15 rfl (lv_at hl 0 rfl) ?_
  refine lv_iconst (v := I 0) hx hb dX11_beginText_16 (by decide) ?_
  refine ok.putJ hO h_a k13_13 (show rng 0 from ⟨by decide, by decide⟩) (by omega) (by omega) (fun _ he hl9 kk => th_put (ci := 11) (v := .int (I 0)) (ty := .int) (C := RX11) (T := TX11) (N := 66) hx hb hts inX11 tyX11 tyX11_ok nmX11 hown hK hH hS h00 he rfl 13 (by decide) fl3 rfl (by decide +kernel) rfl rfl hl9 dX11_beginText_17 kk) (fun σ_s_10 H locs hO hF9 hM9 hg9 ha9 hH hS => ?_)
  replace hM := hM.tu hM9 (by decide)
  replace hF := hF.tu hF9 (by decide)
  have e_11 : gV σ_s_10 a 9 = some (.ref (ad E a 6)) := (hM9.1 9 (by decide)).trans e_7
  have e_12 : gI σ_s_10 a 10 = pl := (hM9.i (by decide)).trans e_8
  have e_13 : gI σ_s_10 a 11 = nn := (hM9.i (by decide)).trans e_9
  have e_14 := hg9
  refine lv_aload_n hx hb dX11_beginText_20 rfl (lv_at hl 0 rfl) ?_
  refine lv_iconst (v := I 0) hx hb dX11_beginText_21 (by decide) ?_
  refine ok.putJ hO h_a k13_19 (show rng 0 from ⟨by decide, by decide⟩) (by omega) (by omega) (fun _ he hl9 kk => th_put (ci := 11) (v := .int (I 0)) (ty := .int) (C := RX11) (T := TX11) (N := 66) hx hb hts inX11 tyX11 tyX11_ok nmX11 hown hK hH hS h00 he rfl 19 (by decide) fl4 rfl (by decide +kernel) rfl rfl hl9 dX11_beginText_22 kk) (fun σ_s_15 H locs hO hF9 hM9 hg9 ha9 hH hS => ?_)
  replace hM := hM.tu hM9 (by decide)
  replace hF := hF.tu hF9 (by decide)
  have e_16 : gV σ_s_15 a 9 = some (.ref (ad E a 6)) := (hM9.1 9 (by decide)).trans e_11
  have e_17 : gI σ_s_15 a 10 = pl := (hM9.i (by decide)).trans e_12
  have e_18 : gI σ_s_15 a 11 = nn := (hM9.i (by decide)).trans e_13
  have e_19 : gI σ_s_15 a 13 = 0 := (hM9.i (by decide)).trans e_14
  have e_20 := hg9
  refine lv_aload_n hx hb dX11_beginText_25 rfl (lv_at hl 0 rfl) ?_
  obtain ⟨Bf, hsr⟩ := sr_mk (j := 6) (N := 400) (by decide) e_16 e_17 e_18 (by omega) (by omega) (by omega) (by omega)
  obtain ⟨_, hc_21⟩ := hO.cell h_a (by decide) (ci := 11) rfl
  refine th_callv (va_runV (As := []) (rest := []) ⟨hx, hb, hml, hown, hts⟩ (m_stepOn l G y b0 σ_s_15 E hO a h_a Bf hsr (by omega)) (cwV 0 hts gX11_beginText_X11_stepOn rfl rfl rfl (by decide +kernel) ⟨Nat.le_of_ble_eq_true rfl, Nat.le_of_ble_eq_true rfl⟩) (th_PV hK hH rfl hc_21) rfl rfl hl.1 rfl (lv_room (Nat.le_of_ble_eq_true rfl)) dX11_beginText_26 ⟨Nat.le_of_ble_eq_true rfl, Nat.le_of_ble_eq_true rfl⟩) hS (fun σ_s_23 H locs hw_22 hH hS => ?_)
  obtain ⟨hO9, hF9, hM9, hw_22⟩ := hw_22
  replace hM := hM.tu hM9 (by decide)
  replace hF := hF.tu hF9 (by decide)
  have e_24 : gV σ_s_23 a 9 = some (.ref (ad E a 6)) := (hM9.1 9 (by decide)).trans e_16
  have e_25 : gI σ_s_23 a 10 = pl := (hM9.i (by decide)).trans e_17
  have e_26 : gI σ_s_23 a 11 = nn := (hM9.i (by decide)).trans e_18
  have e_27 : gI σ_s_23 a 19 = 0 := (hM9.i (by decide)).trans e_20
  replace hsr := hsr.mv hM9 (by decide) (by decide) (by decide) (by decide) (by decide)
  replace hO := hO9
  have hw_22 : gI σ_s_15 a 13 ≤ gI σ_s_23 a 13 ∧ gI σ_s_23 a 13 ≤ gI σ_s_15 a 11 ∧ 0 ≤ gI σ_s_23 a 17 ∧ gI σ_s_23 a 17 ≤ gI σ_s_23 a 13 ∧ (gI σ_s_23 a 14 = 0 ∨ gI σ_s_15 a 13 < gI σ_s_23 a 13) := hw_22
  exact th_vret hx hb hr hlocks hH hS ⟨hO, hF, hM, Bf, hsr, by omega⟩ dX11_beginText_29

set_option maxHeartbeats 1000000 in
set_option maxRecDepth 100000 in
theorem m_begin7 (l : Launch) (G : va_G) (y : Nat → ClassId) (b0 : Nat) (σ : th_M) (E : th_E) (hO : ok y E σ) (a : Nat) (h_a : kd E a = 13) (pl : Int) (rpl : rng pl) (l_pl : 0 ≤ pl) (u_pl : pl ≤ 1600) (nn : Int) (rnn : rng nn) (l_nn : 0 ≤ nn) (u_nn : nn ≤ 400) (hy0 : pl + nn ≤ 1600) : Met l yX11_beginText wsX11_beginText ({ frames := 2, cells := 0, slots := 0, locals := 66 }) (th_P G y b0 σ [.ref a, .ref (ad E a 7), .int (I pl), .int (I nn)]) (th_Qv G b0 (fun σ1 => ok y E σ1 ∧ fr [13] E σ σ1 ∧ fm [9, 10, 11, 13, 14, 15, 16, 17, 18, 19, 20] E σ σ1 a ∧ ∃ Bf, sr E σ1 a Bf ∧ (gI σ1 a 11 = nn ∧ 0 ≤ gI σ1 a 17 ∧ gI σ1 a 17 ≤ gI σ1 a 13 ∧ gI σ1 a 13 ≤ gI σ1 a 11 ∧ gI σ1 a 19 = 0))) 0 0 (th_A b0) := by
  refine Met.ofW (cc := cX11_beginText) (maxL := 4) (ret := none) (by decide) rfl ?_
  intro p e s m args below meth c s₁ B hml hv
  obtain ⟨rfl, hH, hK⟩ := hv
  have hx := B.exec
  have hb := B.bytes
  have hr := B.returns
  have hts := atoms_spec (ws := wsX11_beginText) B.pre
  have hown : s.vm.findClass RX11 = some m.cls := findClass_of_methodNamed B.named
  have hlocks := B.notSynchronized
  have h00 : b0 ≤ s.heap.size := hH.1
  have hS : va_S (th_A b0) s.heap s.heap [] := va_S.rf
  have hF : fr [13] E σ σ := fr.rf
  have hM : fm [9, 10, 11, 13, 14, 15, 16, 17, 18, 19, 20] E σ σ a := fm.rf
  have inX11 : ∀ w ∈ wsX110, w ∈ wsX11_beginText := by decide +kernel
  have fl0 := hts (.fieldLink RX11 120 "NestQueryModel" "source" "[I") (by decide +kernel)
  have fl1 := hts (.fieldLink RX11 123 "NestQueryModel" "from" "I") (by decide +kernel)
  have fl2 := hts (.fieldLink RX11 117 "NestQueryModel" "textSize" "I") (by decide +kernel)
  have fl3 := hts (.fieldLink RX11 126 "NestQueryModel" "at" "I") (by decide +kernel)
  have fl4 := hts (.fieldLink RX11 162 "NestQueryModel" "bad" "I") (by decide +kernel)
  have hl := lv_entry ([.ref a, .ref (ad E a 7), .int (I pl), .int (I nn)]) (n := 4) (Nat.le_of_ble_eq_true rfl)
  rw [lg_entry_eq]
  generalize (lg_sl ([.ref a, .ref (ad E a 7), .int (I pl), .int (I nn)]) ++ List.replicate (4 - (lg_sl ([.ref a, .ref (ad E a 7), .int (I pl), .int (I nn)])).length) Slot.unset).toArray = ls at hl ⊢
  have hl : lv_has ls 4 [(0, .ref a), (1, .ref (ad E a 7)), (2, .int (I pl)), (3, .int (I nn))] := hl
  refine lv_aload_n hx hb dX11_beginText_0 rfl (lv_at hl 0 rfl) ?_
  refine lv_aload_n hx hb dX11_beginText_1 rfl (lv_at hl 1 rfl) ?_
  refine ok.putS (j := 7) hO h_a (by decide) (fun _ he hl9 kk => th_put (ci := 11) (v := .ref (ad E a 7)) (ty := .array .int) (C := RX11) (T := TX11) (N := 66) hx hb hts inX11 tyX11 tyX11_ok nmX11 hown hK hH hS h00 he rfl 9 (by decide) fl0 rfl (by decide +kernel) rfl rfl hl9 dX11_beginText_2 kk) (fun σ_s_1 H locs hO hF9 hM9 hg9 ha9 hH hS => ?_)
  replace hM := hM.tu hM9 (by decide)
  replace hF := hF.tu hF9 (by decide)
  have es_2 := hg9
  refine lv_aload_n hx hb dX11_beginText_5 rfl (lv_at hl 0 rfl) ?_
  refine lv_iload_n hx hb dX11_beginText_6 rfl (lv_at hl 2 rfl) ?_
  refine ok.putJ hO h_a k13_10 rpl (by omega) (by omega) (fun _ he hl9 kk => th_put (ci := 11) (v := .int (I pl)) (ty := .int) (C := RX11) (T := TX11) (N := 66) hx hb hts inX11 tyX11 tyX11_ok nmX11 hown hK hH hS h00 he rfl 10 (by decide) fl1 rfl (by decide +kernel) rfl rfl hl9 dX11_beginText_7 kk) (fun σ_s_3 H locs hO hF9 hM9 hg9 ha9 hH hS => ?_)
  replace hM := hM.tu hM9 (by decide)
  replace hF := hF.tu hF9 (by decide)
  have e_4 : gV σ_s_3 a 9 = some (.ref (ad E a 7)) := (hM9.1 9 (by decide)).trans es_2
  have e_5 := hg9
  refine lv_aload_n hx hb dX11_beginText_10 rfl (lv_at hl 0 rfl) ?_
  refine lv_iload_n hx hb dX11_beginText_11 rfl (lv_at hl 3 rfl) ?_
  refine ok.putJ hO h_a k13_11 rnn (by omega) (by omega) (fun _ he hl9 kk => th_put (ci := 11) (v := .int (I nn)) (ty := .int) (C := RX11) (T := TX11) (N := 66) hx hb hts inX11 tyX11 tyX11_ok nmX11 hown hK hH hS h00 he rfl 11 (by decide) fl2 rfl (by decide +kernel) rfl rfl hl9 dX11_beginText_12 kk) (fun σ_s_6 H locs hO hF9 hM9 hg9 ha9 hH hS => ?_)
  replace hM := hM.tu hM9 (by decide)
  replace hF := hF.tu hF9 (by decide)
  have e_7 : gV σ_s_6 a 9 = some (.ref (ad E a 7)) := (hM9.1 9 (by decide)).trans e_4
  have e_8 : gI σ_s_6 a 10 = pl := (hM9.i (by decide)).trans e_5
  have e_9 := hg9
  refine lv_aload_n hx hb dX11_beginText_15 rfl (lv_at hl 0 rfl) ?_
  refine lv_iconst (v := I 0) hx hb dX11_beginText_16 (by decide) ?_
  refine ok.putJ hO h_a k13_13 (show rng 0 from ⟨by decide, by decide⟩) (by omega) (by omega) (fun _ he hl9 kk => th_put (ci := 11) (v := .int (I 0)) (ty := .int) (C := RX11) (T := TX11) (N := 66) hx hb hts inX11 tyX11 tyX11_ok nmX11 hown hK hH hS h00 he rfl 13 (by decide) fl3 rfl (by decide +kernel) rfl rfl hl9 dX11_beginText_17 kk) (fun σ_s_10 H locs hO hF9 hM9 hg9 ha9 hH hS => ?_)
  replace hM := hM.tu hM9 (by decide)
  replace hF := hF.tu hF9 (by decide)
  have e_11 : gV σ_s_10 a 9 = some (.ref (ad E a 7)) := (hM9.1 9 (by decide)).trans e_7
  have e_12 : gI σ_s_10 a 10 = pl := (hM9.i (by decide)).trans e_8
  have e_13 : gI σ_s_10 a 11 = nn := (hM9.i (by decide)).trans e_9
  have e_14 := hg9
  refine lv_aload_n hx hb dX11_beginText_20 rfl (lv_at hl 0 rfl) ?_
  refine lv_iconst (v := I 0) hx hb dX11_beginText_21 (by decide) ?_
  refine ok.putJ hO h_a k13_19 (show rng 0 from ⟨by decide, by decide⟩) (by omega) (by omega) (fun _ he hl9 kk => th_put (ci := 11) (v := .int (I 0)) (ty := .int) (C := RX11) (T := TX11) (N := 66) hx hb hts inX11 tyX11 tyX11_ok nmX11 hown hK hH hS h00 he rfl 19 (by decide) fl4 rfl (by decide +kernel) rfl rfl hl9 dX11_beginText_22 kk) (fun σ_s_15 H locs hO hF9 hM9 hg9 ha9 hH hS => ?_)
  replace hM := hM.tu hM9 (by decide)
  replace hF := hF.tu hF9 (by decide)
  have e_16 : gV σ_s_15 a 9 = some (.ref (ad E a 7)) := (hM9.1 9 (by decide)).trans e_11
  have e_17 : gI σ_s_15 a 10 = pl := (hM9.i (by decide)).trans e_12
  have e_18 : gI σ_s_15 a 11 = nn := (hM9.i (by decide)).trans e_13
  have e_19 : gI σ_s_15 a 13 = 0 := (hM9.i (by decide)).trans e_14
  have e_20 := hg9
  refine lv_aload_n hx hb dX11_beginText_25 rfl (lv_at hl 0 rfl) ?_
  obtain ⟨Bf, hsr⟩ := sr_mk (j := 7) (N := 1600) (by decide) e_16 e_17 e_18 (by omega) (by omega) (by omega) (by omega)
  obtain ⟨_, hc_21⟩ := hO.cell h_a (by decide) (ci := 11) rfl
  refine th_callv (va_runV (As := []) (rest := []) ⟨hx, hb, hml, hown, hts⟩ (m_stepOn l G y b0 σ_s_15 E hO a h_a Bf hsr (by omega)) (cwV 0 hts gX11_beginText_X11_stepOn rfl rfl rfl (by decide +kernel) ⟨Nat.le_of_ble_eq_true rfl, Nat.le_of_ble_eq_true rfl⟩) (th_PV hK hH rfl hc_21) rfl rfl hl.1 rfl (lv_room (Nat.le_of_ble_eq_true rfl)) dX11_beginText_26 ⟨Nat.le_of_ble_eq_true rfl, Nat.le_of_ble_eq_true rfl⟩) hS (fun σ_s_23 H locs hw_22 hH hS => ?_)
  obtain ⟨hO9, hF9, hM9, hw_22⟩ := hw_22
  replace hM := hM.tu hM9 (by decide)
  replace hF := hF.tu hF9 (by decide)
  have e_24 : gV σ_s_23 a 9 = some (.ref (ad E a 7)) := (hM9.1 9 (by decide)).trans e_16
  have e_25 : gI σ_s_23 a 10 = pl := (hM9.i (by decide)).trans e_17
  have e_26 : gI σ_s_23 a 11 = nn := (hM9.i (by decide)).trans e_18
  have e_27 : gI σ_s_23 a 19 = 0 := (hM9.i (by decide)).trans e_20
  replace hsr := hsr.mv hM9 (by decide) (by decide) (by decide) (by decide) (by decide)
  replace hO := hO9
  have hw_22 : gI σ_s_15 a 13 ≤ gI σ_s_23 a 13 ∧ gI σ_s_23 a 13 ≤ gI σ_s_15 a 11 ∧ 0 ≤ gI σ_s_23 a 17 ∧ gI σ_s_23 a 17 ≤ gI σ_s_23 a 13 ∧ (gI σ_s_23 a 14 = 0 ∨ gI σ_s_15 a 13 < gI σ_s_23 a 13) := hw_22
  exact th_vret hx hb hr hlocks hH hS ⟨hO, hF, hM, Bf, hsr, by omega⟩ dX11_beginText_29
