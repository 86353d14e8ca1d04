set_option maxHeartbeats 4000000 in
set_option maxRecDepth 100000 in
theorem c_has (l : Launch) (G : va_G) (y : Nat → ClassId) (sz : Nat) (h0 : Nat) (ak : Nat) (av : Nat) (ae : Nat) (ad : Nat) (fk : Nat → Int32) (i : Int32) (hfk0 : fk 0 = 3) : Met l yX9_has wsX9_has ({ frames := 0, cells := 0, slots := 0, locals := 0 }) (nq_P G y sz [.ref h0, .int i] [(h0, .inr (9, [.ref ak, .ref av, .ref ae, .ref ad, .int 1])), (ak, .inl (y 0, 60, .inl fk))]) (va_Qi (fun (r : Int32) (_ : Unit) => (i = 0 ∧ r = 1) ∨ (¬ i = 0 ∧ r = 0)) (fun _ _ => True) (va_A [] sz)) 0 0 (va_A [] sz) := by
  refine Met.ofW (cc := cX9_has) (maxL := 2) (ret := (some .boolean)) (by decide) rfl ?_
  intro p e s m args below meth c s₁ B hml hv
  obtain ⟨rfl, hsz, hP, hK, hD0⟩ := hv
  have hx := B.exec
  have hb := B.bytes
  have hr := B.returns
  have hts := atoms_spec (ws := wsX9_has) B.pre
  have hown : s.vm.findClass RX9 = some m.cls := findClass_of_methodNamed B.named
  have hlocks := B.notSynchronized
  subst hsz
  have hD := hD0
  have hA : ∀ q : Nat, s.heap.size ≤ q → va_A [] s.heap.size q := fun q h => Or.inr h
  have hS : va_S (va_A [] s.heap.size) s.heap s.heap [] := va_S.rf
  have hP : va_P G vwCl [(h0, .inr (9, [.ref ak, .ref av, .ref ae, .ref ad, .int 1])), (ak, .inl (y 0, 60, .inl fk))] s.heap := hP
  have inX9 : ∀ w ∈ wsX90, w ∈ wsX9_has := by decide +kernel
  have hl := lv_entry ([.ref h0, .int i]) (n := 2) (Nat.le_of_ble_eq_true rfl)
  rw [lg_entry_eq]
  generalize (lg_sl ([.ref h0, .int i]) ++ List.replicate (2 - (lg_sl ([.ref h0, .int i])).length) Slot.unset).toArray = ls at hl ⊢
  have hl : lv_has ls 2 [(0, .ref h0), (1, .int i)] := hl
  refine lv_iload_n hx hb dX9_has_0 rfl (lv_at hl 1 rfl) ?_
  refine lv_if_lt (tgt := 25) hx hb dX9_has_1 (by decide) (fun c_1 => ?_) (fun c_1 => ?_)
  · refine lv_iconst (v := 0) hx hb dX9_has_25 (by decide) ?_
    refine W.widen (k := 0) (n := 0) (Nat.le_of_ble_eq_true rfl) (Nat.le_of_ble_eq_true rfl) ?_
    exact W.zret (v := 0) hx hb hr (by decide) (fun t ht hW => ⟨⟨0, (), rfl, Or.inr (⟨nq_xeU (nq_hlt c_1 (j := (-1)) (by decide)) (by decide), rfl⟩), trivial⟩, hS.F ht⟩) hS.2.2 dX9_has_26
  · refine lv_iload_n hx hb dX9_has_4 rfl (lv_at hl 1 rfl) ?_
    refine lv_aload_n hx hb dX9_has_5 rfl (lv_at hl 0 rfl) ?_
    refine va_get (D := G) (ci := 9) (v := .int 1) (C := RX9) (T := TX9) (N := 5) hx hb hts inX9 hown hK.1 hP 0 rfl rfl 4 (by decide) (hts (.fieldLink RX9 24 "NestQuery$Tree" "size" "I") (by decide +kernel)) (fun _ h9 => h9) rfl dX9_has_6 ?_
    refine lv_icmp_ge (tgt := 25) hx hb dX9_has_9 (by decide) (fun c_2 => ?_) (fun c_2 => ?_)
    · refine lv_iconst (v := 0) hx hb dX9_has_25 (by decide) ?_
      refine W.widen (k := 0) (n := 0) (Nat.le_of_ble_eq_true rfl) (Nat.le_of_ble_eq_true rfl) ?_
      exact W.zret (v := 0) hx hb hr (by decide) (fun t ht hW => ⟨⟨0, (), rfl, Or.inr (⟨nq_xeL (nq_lge c_2) (by decide), rfl⟩), trivial⟩, hS.F ht⟩) hS.2.2 dX9_has_26
    · have e_3 : i = 0 := nq_pin 0 c_1 (nq_hnge c_2 (j := 0) (by decide))
      subst e_3
      refine lv_iload_n hx hb dX9_has_12 rfl (lv_at hl 1 rfl) ?_
      refine lv_aload_n hx hb dX9_has_13 rfl (lv_at hl 0 rfl) ?_
      refine va_get (D := G) (ci := 9) (v := .ref ak) (C := RX9) (T := TX9) (N := 5) hx hb hts inX9 hown hK.1 hP 0 rfl rfl 0 (by decide) (hts (.fieldLink RX9 9 "NestQuery$Tree" "kinds" "[I") (by decide +kernel)) (fun _ h9 => h9) rfl dX9_has_14 ?_
      refine va_alen hx hb hK.1 hP 1 0 rfl rfl (v := 60) rfl dX9_has_17 ?_
      refine lv_icmp_ge (tgt := 25) hx hb dX9_has_18 (by decide) (fun c_4 => absurd c_4 (by decide)) (fun _ => ?_)
      refine lv_iconst (v := 1) hx hb dX9_has_21 (by decide) ?_
      refine lv_goto (tgt := 26) hx hb dX9_has_22 (by decide) ?_
      refine W.widen (k := 0) (n := 0) (Nat.le_of_ble_eq_true rfl) (Nat.le_of_ble_eq_true rfl) ?_
      exact W.zret (v := 1) hx hb hr (by decide) (fun t ht hW => ⟨⟨1, (), rfl, Or.inl (⟨by decide, rfl⟩), trivial⟩, hS.F ht⟩) hS.2.2 dX9_has_26

set_option maxHeartbeats 4000000 in
set_option maxRecDepth 100000 in
theorem c_kindAt (l : Launch) (G : va_G) (y : Nat → ClassId) (sz : Nat) (h0 : Nat) (ak : Nat) (av : Nat) (ae : Nat) (ad : Nat) (fk : Nat → Int32) (hfk0 : fk 0 = 3) : Met l yX9_kindAt wsX9_kindAt ({ frames := 0, cells := 0, slots := 0, locals := 0 }) (nq_P G y sz [.ref h0, .int 0] [(h0, .inr (9, [.ref ak, .ref av, .ref ae, .ref ad, .int 1])), (ak, .inl (y 0, 60, .inl fk))]) (va_Qi (fun (r : Int32) (_ : Unit) => r = 3) (fun _ _ => True) (va_A [] sz)) 0 0 (va_A [] sz) := by
  refine Met.ofW (cc := cX9_kindAt) (maxL := 2) (ret := (some .int)) (by decide) rfl ?_
  intro p e s m args below meth c s₁ B hml hv
  obtain ⟨rfl, hsz, hP, hK, hD0⟩ := hv
  have hx := B.exec
  have hb := B.bytes
  have hr := B.returns
  have hts := atoms_spec (ws := wsX9_kindAt) B.pre
  have hown : s.vm.findClass RX9 = some m.cls := findClass_of_methodNamed B.named
  have hlocks := B.notSynchronized
  subst hsz
  have hD := hD0
  have hA : ∀ q : Nat, s.heap.size ≤ q → va_A [] s.heap.size q := fun q h => Or.inr h
  have hS : va_S (va_A [] s.heap.size) s.heap s.heap [] := va_S.rf
  have hP : va_P G vwCl [(h0, .inr (9, [.ref ak, .ref av, .ref ae, .ref ad, .int 1])), (ak, .inl (y 0, 60, .inl fk))] s.heap := hP
  have inX9 : ∀ w ∈ wsX90, w ∈ wsX9_kindAt := by decide +kernel
  have hl := lv_entry ([.ref h0, .int 0]) (n := 2) (Nat.le_of_ble_eq_true rfl)
  rw [lg_entry_eq]
  generalize (lg_sl ([.ref h0, .int 0]) ++ List.replicate (2 - (lg_sl ([.ref h0, .int 0])).length) Slot.unset).toArray = ls at hl ⊢
  have hl : lv_has ls 2 [(0, .ref h0), (1, .int 0)] := hl
  refine lv_iload_n hx hb dX9_kindAt_0 rfl (lv_at hl 1 rfl) ?_
  refine lv_if_lt (tgt := 12) hx hb dX9_kindAt_1 (by decide) (fun c_1 => absurd c_1 (by decide)) (fun _ => ?_)
  refine lv_iload_n hx hb dX9_kindAt_4 rfl (lv_at hl 1 rfl) ?_
  refine lv_aload_n hx hb dX9_kindAt_5 rfl (lv_at hl 0 rfl) ?_
  refine va_get (D := G) (ci := 9) (v := .int 1) (C := RX9) (T := TX9) (N := 5) hx hb hts inX9 hown hK.1 hP 0 rfl rfl 4 (by decide) (hts (.fieldLink RX9 24 "NestQuery$Tree" "size" "I") (by decide +kernel)) (fun _ h9 => h9) rfl dX9_kindAt_6 ?_
  refine lv_icmp_lt (tgt := 16) hx hb dX9_kindAt_9 (by decide) (fun _ => ?_) (fun c_2 => absurd c_2 (by decide))
  refine lv_aload_n hx hb dX9_kindAt_16 rfl (lv_at hl 0 rfl) ?_
  refine va_get (D := G) (ci := 9) (v := .ref ak) (C := RX9) (T := TX9) (N := 5) hx hb hts inX9 hown hK.1 hP 0 rfl rfl 0 (by decide) (hts (.fieldLink RX9 9 "NestQuery$Tree" "kinds" "[I") (by decide +kernel)) (fun _ h9 => h9) rfl dX9_kindAt_17 ?_
  refine lv_iload_n hx hb dX9_kindAt_20 rfl (lv_at hl 1 rfl) ?_
  refine va_iald hx hb hK.1 hP 1 0 rfl rfl (i := 0) (nq_in (by decide)) dX9_kindAt_21 ?_
  refine nq_top (z := 3) (hfk0) ?_
  refine W.widen (k := 0) (n := 0) (Nat.le_of_ble_eq_true rfl) (Nat.le_of_ble_eq_true rfl) ?_
  exact W.iret (v := 3) hx hb hr (fun t ht hW => ⟨⟨3, (), rfl, rfl, trivial⟩, hS.F ht⟩) hS.2.2 dX9_kindAt_22

set_option maxHeartbeats 4000000 in
set_option maxRecDepth 100000 in
theorem c_keyAt (l : Launch) (G : va_G) (y : Nat → ClassId) (sz : Nat) (h0 : Nat) (ak : Nat) (av : Nat) (ae : Nat) (ad : Nat) (fe : Nat → Int32) (hfe0 : fe 0 = 0) : Met l yX9_keyAt wsX9_keyAt ({ frames := 0, cells := 0, slots := 0, locals := 0 }) (nq_P G y sz [.ref h0, .int 0] [(h0, .inr (9, [.ref ak, .ref av, .ref ae, .ref ad, .int 1])), (ae, .inl (y 0, 60, .inl fe))]) (va_Qi (fun (r : Int32) (_ : Unit) => r = 0) (fun _ _ => True) (va_A [] sz)) 0 0 (va_A [] sz) := by
  refine Met.ofW (cc := cX9_keyAt) (maxL := 2) (ret := (some .int)) (by decide) rfl ?_
  intro p e s m args below meth c s₁ B hml hv
  obtain ⟨rfl, hsz, hP, hK, hD0⟩ := hv
  have hx := B.exec
  have hb := B.bytes
  have hr := B.returns
  have hts := atoms_spec (ws := wsX9_keyAt) B.pre
  have hown : s.vm.findClass RX9 = some m.cls := findClass_of_methodNamed B.named
  have hlocks := B.notSynchronized
  subst hsz
  have hD := hD0
  have hA : ∀ q : Nat, s.heap.size ≤ q → va_A [] s.heap.size q := fun q h => Or.inr h
  have hS : va_S (va_A [] s.heap.size) s.heap s.heap [] := va_S.rf
  have hP : va_P G vwCl [(h0, .inr (9, [.ref ak, .ref av, .ref ae, .ref ad, .int 1])), (ae, .inl (y 0, 60, .inl fe))] s.heap := hP
  have inX9 : ∀ w ∈ wsX90, w ∈ wsX9_keyAt := by decide +kernel
  have hl := lv_entry ([.ref h0, .int 0]) (n := 2) (Nat.le_of_ble_eq_true rfl)
  rw [lg_entry_eq]
  generalize (lg_sl ([.ref h0, .int 0]) ++ List.replicate (2 - (lg_sl ([.ref h0, .int 0])).length) Slot.unset).toArray = ls at hl ⊢
  have hl : lv_has ls 2 [(0, .ref h0), (1, .int 0)] := hl
  refine lv_iload_n hx hb dX9_keyAt_0 rfl (lv_at hl 1 rfl) ?_
  refine lv_if_lt (tgt := 12) hx hb dX9_keyAt_1 (by decide) (fun c_1 => absurd c_1 (by decide)) (fun _ => ?_)
  refine lv_iload_n hx hb dX9_keyAt_4 rfl (lv_at hl 1 rfl) ?_
  refine lv_aload_n hx hb dX9_keyAt_5 rfl (lv_at hl 0 rfl) ?_
  refine va_get (D := G) (ci := 9) (v := .int 1) (C := RX9) (T := TX9) (N := 5) hx hb hts inX9 hown hK.1 hP 0 rfl rfl 4 (by decide) (hts (.fieldLink RX9 24 "NestQuery$Tree" "size" "I") (by decide +kernel)) (fun _ h9 => h9) rfl dX9_keyAt_6 ?_
  refine lv_icmp_lt (tgt := 16) hx hb dX9_keyAt_9 (by decide) (fun _ => ?_) (fun c_2 => absurd c_2 (by decide))
  refine lv_aload_n hx hb dX9_keyAt_16 rfl (lv_at hl 0 rfl) ?_
  refine va_get (D := G) (ci := 9) (v := .ref ae) (C := RX9) (T := TX9) (N := 5) hx hb hts inX9 hown hK.1 hP 0 rfl rfl 2 (by decide) (hts (.fieldLink RX9 18 "NestQuery$Tree" "keys" "[I") (by decide +kernel)) (fun _ h9 => h9) rfl dX9_keyAt_17 ?_
  refine lv_iload_n hx hb dX9_keyAt_20 rfl (lv_at hl 1 rfl) ?_
  refine va_iald hx hb hK.1 hP 1 0 rfl rfl (i := 0) (nq_in (by decide)) dX9_keyAt_21 ?_
  refine nq_top (z := 0) (hfe0) ?_
  refine W.widen (k := 0) (n := 0) (Nat.le_of_ble_eq_true rfl) (Nat.le_of_ble_eq_true rfl) ?_
  exact W.iret (v := 0) hx hb hr (fun t ht hW => ⟨⟨0, (), rfl, rfl, trivial⟩, hS.F ht⟩) hS.2.2 dX9_keyAt_22

set_option maxHeartbeats 4000000 in
set_option maxRecDepth 100000 in
theorem c_depthAt (l : Launch) (G : va_G) (y : Nat → ClassId) (sz : Nat) (h0 : Nat) (ak : Nat) (av : Nat) (ae : Nat) (ad : Nat) (fd : Nat → Int32) (hfd0 : fd 0 = 0) : Met l yX9_depthAt wsX9_depthAt ({ frames := 0, cells := 0, slots := 0, locals := 0 }) (nq_P G y sz [.ref h0, .int 0] [(h0, .inr (9, [.ref ak, .ref av, .ref ae, .ref ad, .int 1])), (ad, .inl (y 0, 60, .inl fd))]) (va_Qi (fun (r : Int32) (_ : Unit) => r = 0) (fun _ _ => True) (va_A [] sz)) 0 0 (va_A [] sz) := by
  refine Met.ofW (cc := cX9_depthAt) (maxL := 2) (ret := (some .int)) (by decide) rfl ?_
  intro p e s m args below meth c s₁ B hml hv
  obtain ⟨rfl, hsz, hP, hK, hD0⟩ := hv
  have hx := B.exec
  have hb := B.bytes
  have hr := B.returns
  have hts := atoms_spec (ws := wsX9_depthAt) B.pre
  have hown : s.vm.findClass RX9 = some m.cls := findClass_of_methodNamed B.named
  have hlocks := B.notSynchronized
  subst hsz
  have hD := hD0
  have hA : ∀ q : Nat, s.heap.size ≤ q → va_A [] s.heap.size q := fun q h => Or.inr h
  have hS : va_S (va_A [] s.heap.size) s.heap s.heap [] := va_S.rf
  have hP : va_P G vwCl [(h0, .inr (9, [.ref ak, .ref av, .ref ae, .ref ad, .int 1])), (ad, .inl (y 0, 60, .inl fd))] s.heap := hP
  have inX9 : ∀ w ∈ wsX90, w ∈ wsX9_depthAt := by decide +kernel
  have hl := lv_entry ([.ref h0, .int 0]) (n := 2) (Nat.le_of_ble_eq_true rfl)
  rw [lg_entry_eq]
  generalize (lg_sl ([.ref h0, .int 0]) ++ List.replicate (2 - (lg_sl ([.ref h0, .int 0])).length) Slot.unset).toArray = ls at hl ⊢
  have hl : lv_has ls 2 [(0, .ref h0), (1, .int 0)] := hl
  refine lv_iload_n hx hb dX9_depthAt_0 rfl (lv_at hl 1 rfl) ?_
  refine lv_if_lt (tgt := 12) hx hb dX9_depthAt_1 (by decide) (fun c_1 => absurd c_1 (by decide)) (fun _ => ?_)
  refine lv_iload_n hx hb dX9_depthAt_4 rfl (lv_at hl 1 rfl) ?_
  refine lv_aload_n hx hb dX9_depthAt_5 rfl (lv_at hl 0 rfl) ?_
  refine va_get (D := G) (ci := 9) (v := .int 1) (C := RX9) (T := TX9) (N := 5) hx hb hts inX9 hown hK.1 hP 0 rfl rfl 4 (by decide) (hts (.fieldLink RX9 24 "NestQuery$Tree" "size" "I") (by decide +kernel)) (fun _ h9 => h9) rfl dX9_depthAt_6 ?_
  refine lv_icmp_lt (tgt := 16) hx hb dX9_depthAt_9 (by decide) (fun _ => ?_) (fun c_2 => absurd c_2 (by decide))
  refine lv_aload_n hx hb dX9_depthAt_16 rfl (lv_at hl 0 rfl) ?_
  refine va_get (D := G) (ci := 9) (v := .ref ad) (C := RX9) (T := TX9) (N := 5) hx hb hts inX9 hown hK.1 hP 0 rfl rfl 3 (by decide) (hts (.fieldLink RX9 21 "NestQuery$Tree" "depths" "[I") (by decide +kernel)) (fun _ h9 => h9) rfl dX9_depthAt_17 ?_
  refine lv_iload_n hx hb dX9_depthAt_20 rfl (lv_at hl 1 rfl) ?_
  refine va_iald hx hb hK.1 hP 1 0 rfl rfl (i := 0) (nq_in (by decide)) dX9_depthAt_21 ?_
  refine nq_top (z := 0) (hfd0) ?_
  refine W.widen (k := 0) (n := 0) (Nat.le_of_ble_eq_true rfl) (Nat.le_of_ble_eq_true rfl) ?_
  exact W.iret (v := 0) hx hb hr (fun t ht hW => ⟨⟨0, (), rfl, rfl, trivial⟩, hS.F ht⟩) hS.2.2 dX9_depthAt_22

set_option maxHeartbeats 4000000 in
set_option maxRecDepth 100000 in
theorem c_end (l : Launch) (G : va_G) (y : Nat → ClassId) (sz : Nat) (h0 : Nat) (ak : Nat) (av : Nat) (ae : Nat) (ad : Nat)  : Met l yX9_end wsX9_end ({ frames := 0, cells := 0, slots := 0, locals := 0 }) (nq_P G y sz [.ref h0, .int 0] [(h0, .inr (9, [.ref ak, .ref av, .ref ae, .ref ad, .int 1]))]) (va_Qi (fun (r : Int32) (_ : Unit) => r = 0) (fun _ _ => True) (va_A [] sz)) 0 0 (va_A [] sz) := by
  refine Met.ofW (cc := cX9_end) (maxL := 4) (ret := (some .int)) (by decide) rfl ?_
  intro p e s m args below meth c s₁ B hml hv
  obtain ⟨rfl, hsz, hP, hK, hD0⟩ := hv
  have hx := B.exec
  have hb := B.bytes
  have hr := B.returns
  have hts := atoms_spec (ws := wsX9_end) B.pre
  have hown : s.vm.findClass RX9 = some m.cls := findClass_of_methodNamed B.named
  have hlocks := B.notSynchronized
  subst hsz
  have hD := hD0
  have hA : ∀ q : Nat, s.heap.size ≤ q → va_A [] s.heap.size q := fun q h => Or.inr h
  have hS : va_S (va_A [] s.heap.size) s.heap s.heap [] := va_S.rf
  have hP : va_P G vwCl [(h0, .inr (9, [.ref ak, .ref av, .ref ae, .ref ad, .int 1]))] s.heap := hP
  have inX9 : ∀ w ∈ wsX90, w ∈ wsX9_end := by decide +kernel
  have hl := lv_entry ([.ref h0, .int 0]) (n := 4) (Nat.le_of_ble_eq_true rfl)
  rw [lg_entry_eq]
  generalize (lg_sl ([.ref h0, .int 0]) ++ List.replicate (4 - (lg_sl ([.ref h0, .int 0])).length) Slot.unset).toArray = ls at hl ⊢
  have hl : lv_has ls 4 [(0, .ref h0), (1, .int 0)] := hl
  refine lv_iload_n hx hb dX9_end_0 rfl (lv_at hl 1 rfl) ?_
  refine lv_if_lt (tgt := 12) hx hb dX9_end_1 (by decide) (fun c_1 => absurd c_1 (by decide)) (fun _ => ?_)
  refine lv_iload_n hx hb dX9_end_4 rfl (lv_at hl 1 rfl) ?_
  refine lv_aload_n hx hb dX9_end_5 rfl (lv_at hl 0 rfl) ?_
  refine va_get (D := G) (ci := 9) (v := .int 1) (C := RX9) (T := TX9) (N := 5) hx hb hts inX9 hown hK.1 hP 0 rfl rfl 4 (by decide) (hts (.fieldLink RX9 24 "NestQuery$Tree" "size" "I") (by decide +kernel)) (fun _ h9 => h9) rfl dX9_end_6 ?_
  refine lv_icmp_lt (tgt := 14) hx hb dX9_end_9 (by decide) (fun _ => ?_) (fun c_2 => absurd c_2 (by decide))
  refine lv_iload_n hx hb dX9_end_14 rfl (lv_at hl 1 rfl) ?_
  refine lv_istore_n (lv' := [(2, .int 0), (0, .ref h0), (1, .int 0)]) hx hb dX9_end_15 rfl hl (by decide) rfl (fun ls hl => ?_)
  refine lv_iload_n hx hb dX9_end_16 rfl (lv_at hl 2 rfl) ?_
  refine lv_iconst (v := 1) hx hb dX9_end_17 (by decide) ?_
  refine lv_iadd hx hb dX9_end_18 ?_
  refine nq_top (z := 1) (by decide) ?_
  refine lv_istore_n (lv' := [(3, .int 1), (2, .int 0), (0, .ref h0), (1, .int 0)]) hx hb dX9_end_19 rfl hl (by decide) rfl (fun ls hl => ?_)
  refine lv_iload_n hx hb dX9_end_20 rfl (lv_at hl 0 rfl) ?_
  refine lv_aload_n hx hb dX9_end_21 rfl (lv_at hl 2 rfl) ?_
  refine va_get (D := G) (ci := 9) (v := .int 1) (C := RX9) (T := TX9) (N := 5) hx hb hts inX9 hown hK.1 hP 0 rfl rfl 4 (by decide) (hts (.fieldLink RX9 24 "NestQuery$Tree" "size" "I") (by decide +kernel)) (fun _ h9 => h9) rfl dX9_end_22 ?_
  refine lv_icmp_ge (tgt := 51) hx hb dX9_end_25 (by decide) (fun _ => ?_) (fun c_3 => absurd c_3 (by decide))
  refine lv_iload_n hx hb dX9_end_51 rfl (lv_at hl 1 rfl) ?_
  refine W.widen (k := 0) (n := 0) (Nat.le_of_ble_eq_true rfl) (Nat.le_of_ble_eq_true rfl) ?_
  exact W.iret (v := 0) hx hb hr (fun t ht hW => ⟨⟨0, (), rfl, rfl, trivial⟩, hS.F ht⟩) hS.2.2 dX9_end_52

set_option maxHeartbeats 4000000 in
set_option maxRecDepth 100000 in
theorem c_sizeOf (l : Launch) (G : va_G) (y : Nat → ClassId) (sz : Nat) (h0 : Nat) (ak : Nat) (av : Nat) (ae : Nat) (ad : Nat)  : Met l yX9_sizeOf wsX9_sizeOf ({ frames := 1, cells := 0, slots := 0, locals := 23 }) (nq_P G y sz [.ref h0, .int 0] [(h0, .inr (9, [.ref ak, .ref av, .ref ae, .ref ad, .int 1]))]) (va_Qi (fun (r : Int32) (_ : Unit) => r = 1) (fun _ _ => True) (va_A [] sz)) 0 0 (va_A [] sz) := by
  refine Met.ofW (cc := cX9_sizeOf) (maxL := 2) (ret := (some .int)) (by decide) rfl ?_
  intro p e s m args below meth c s₁ B hml hv
  obtain ⟨rfl, hsz, hP, hK, hD0⟩ := hv
  have hx := B.exec
  have hb := B.bytes
  have hr := B.returns
  have hts := atoms_spec (ws := wsX9_sizeOf) B.pre
  have hown : s.vm.findClass RX9 = some m.cls := findClass_of_methodNamed B.named
  have hlocks := B.notSynchronized
  subst hsz
  have hD := hD0
  have hA : ∀ q : Nat, s.heap.size ≤ q → va_A [] s.heap.size q := fun q h => Or.inr h
  have hS : va_S (va_A [] s.heap.size) s.heap s.heap [] := va_S.rf
  have hP : va_P G vwCl [(h0, .inr (9, [.ref ak, .ref av, .ref ae, .ref ad, .int 1]))] s.heap := hP
  have inX9 : ∀ w ∈ wsX90, w ∈ wsX9_sizeOf := by decide +kernel
  have hl := lv_entry ([.ref h0, .int 0]) (n := 2) (Nat.le_of_ble_eq_true rfl)
  rw [lg_entry_eq]
  generalize (lg_sl ([.ref h0, .int 0]) ++ List.replicate (2 - (lg_sl ([.ref h0, .int 0])).length) Slot.unset).toArray = ls at hl ⊢
  have hl : lv_has ls 2 [(0, .ref h0), (1, .int 0)] := hl
  refine lv_iload_n hx hb dX9_sizeOf_0 rfl (lv_at hl 1 rfl) ?_
  refine lv_if_lt (tgt := 12) hx hb dX9_sizeOf_1 (by decide) (fun c_1 => absurd c_1 (by decide)) (fun _ => ?_)
  refine lv_iload_n hx hb dX9_sizeOf_4 rfl (lv_at hl 1 rfl) ?_
  refine lv_aload_n hx hb dX9_sizeOf_5 rfl (lv_at hl 0 rfl) ?_
  refine va_get (D := G) (ci := 9) (v := .int 1) (C := RX9) (T := TX9) (N := 5) hx hb hts inX9 hown hK.1 hP 0 rfl rfl 4 (by decide) (hts (.fieldLink RX9 24 "NestQuery$Tree" "size" "I") (by decide +kernel)) (fun _ h9 => h9) rfl dX9_sizeOf_6 ?_
  refine lv_icmp_lt (tgt := 16) hx hb dX9_sizeOf_9 (by decide) (fun _ => ?_) (fun c_2 => absurd c_2 (by decide))
  refine lv_aload_n hx hb dX9_sizeOf_16 rfl (lv_at hl 0 rfl) ?_
  refine lv_iload_n hx hb dX9_sizeOf_17 rfl (lv_at hl 1 rfl) ?_
  refine nq_rdi (va_runV (As := [.int 0]) (rest := []) ⟨hx, hb, hml, hown, hts⟩ (c_end l G y s.heap.size h0 ak av ae ad ) (cwV 1 hts gX9_sizeOf_X9_end rfl rfl rfl (by decide +kernel) ⟨Nat.le_of_ble_eq_true rfl, Nat.le_of_ble_eq_true rfl⟩) (nq_PV hK hP hD [0] rfl rfl 0 rfl rfl) rfl rfl hl.1 rfl (lv_room (Nat.le_of_ble_eq_true rfl)) dX9_sizeOf_18 ⟨Nat.le_of_ble_eq_true rfl, Nat.le_of_ble_eq_true rfl⟩) hP hS hA (fun r_3 H locs hw_4 hP hS => ?_)
  subst hw_4
  refine lv_iload_n hx hb dX9_sizeOf_21 rfl (lv_at hl 1 rfl) ?_
  refine lv_isub hx hb dX9_sizeOf_22 ?_
  refine nq_top (z := 0) (by decide) ?_
  refine lv_iconst (v := 1) hx hb dX9_sizeOf_23 (by decide) ?_
  refine lv_iadd hx hb dX9_sizeOf_24 ?_
  refine nq_top (z := 1) (by decide) ?_
  refine W.widen (k := 0) (n := 0) (Nat.le_of_ble_eq_true rfl) (Nat.le_of_ble_eq_true rfl) ?_
  exact W.iret (v := 1) hx hb hr (fun t ht hW => ⟨⟨1, (), rfl, rfl, trivial⟩, hS.F ht⟩) hS.2.2 dX9_sizeOf_25

set_option maxHeartbeats 4000000 in
set_option maxRecDepth 100000 in
theorem c_parentOf (l : Launch) (G : va_G) (y : Nat → ClassId) (sz : Nat) (h0 : Nat) (ak : Nat) (av : Nat) (ae : Nat) (ad : Nat)  : Met l yX9_parentOf wsX9_parentOf ({ frames := 0, cells := 0, slots := 0, locals := 0 }) (nq_P G y sz [.ref h0, .int 0] [(h0, .inr (9, [.ref ak, .ref av, .ref ae, .ref ad, .int 1]))]) (va_Qi (fun (r : Int32) (_ : Unit) => r = (-1)) (fun _ _ => True) (va_A [] sz)) 0 0 (va_A [] sz) := by
  refine Met.ofW (cc := cX9_parentOf) (maxL := 3) (ret := (some .int)) (by decide) rfl ?_
  intro p e s m args below meth c s₁ B hml hv
  obtain ⟨rfl, hsz, hP, hK, hD0⟩ := hv
  have hx := B.exec
  have hb := B.bytes
  have hr := B.returns
  have hts := atoms_spec (ws := wsX9_parentOf) B.pre
  have hown : s.vm.findClass RX9 = some m.cls := findClass_of_methodNamed B.named
  have hlocks := B.notSynchronized
  subst hsz
  have hD := hD0
  have hA : ∀ q : Nat, s.heap.size ≤ q → va_A [] s.heap.size q := fun q h => Or.inr h
  have hS : va_S (va_A [] s.heap.size) s.heap s.heap [] := va_S.rf
  have hP : va_P G vwCl [(h0, .inr (9, [.ref ak, .ref av, .ref ae, .ref ad, .int 1]))] s.heap := hP
  have inX9 : ∀ w ∈ wsX90, w ∈ wsX9_parentOf := by decide +kernel
  have hl := lv_entry ([.ref h0, .int 0]) (n := 3) (Nat.le_of_ble_eq_true rfl)
  rw [lg_entry_eq]
  generalize (lg_sl ([.ref h0, .int 0]) ++ List.replicate (3 - (lg_sl ([.ref h0, .int 0])).length) Slot.unset).toArray = ls at hl ⊢
  have hl : lv_has ls 3 [(0, .ref h0), (1, .int 0)] := hl
  refine lv_iload_n hx hb dX9_parentOf_0 rfl (lv_at hl 1 rfl) ?_
  refine lv_if_lt (tgt := 12) hx hb dX9_parentOf_1 (by decide) (fun c_1 => absurd c_1 (by decide)) (fun _ => ?_)
  refine lv_iload_n hx hb dX9_parentOf_4 rfl (lv_at hl 1 rfl) ?_
  refine lv_aload_n hx hb dX9_parentOf_5 rfl (lv_at hl 0 rfl) ?_
  refine va_get (D := G) (ci := 9) (v := .int 1) (C := RX9) (T := TX9) (N := 5) hx hb hts inX9 hown hK.1 hP 0 rfl rfl 4 (by decide) (hts (.fieldLink RX9 24 "NestQuery$Tree" "size" "I") (by decide +kernel)) (fun _ h9 => h9) rfl dX9_parentOf_6 ?_
  refine lv_icmp_lt (tgt := 14) hx hb dX9_parentOf_9 (by decide) (fun _ => ?_) (fun c_2 => absurd c_2 (by decide))
  refine lv_iload_n hx hb dX9_parentOf_14 rfl (lv_at hl 1 rfl) ?_
  refine lv_iconst (v := 1) hx hb dX9_parentOf_15 (by decide) ?_
  refine lv_isub hx hb dX9_parentOf_16 ?_
  refine nq_top (z := (-1)) (by decide) ?_
  refine lv_istore_n (lv' := [(2, .int (-1)), (0, .ref h0), (1, .int 0)]) hx hb dX9_parentOf_17 rfl hl (by decide) rfl (fun ls hl => ?_)
  refine lv_iload_n hx hb dX9_parentOf_18 rfl (lv_at hl 0 rfl) ?_
  refine lv_if_lt (tgt := 45) hx hb dX9_parentOf_19 (by decide) (fun _ => ?_) (fun c_3 => absurd c_3 (by decide))
  refine lv_iconst (v := (-1)) hx hb dX9_parentOf_45 (by decide) ?_
  refine W.widen (k := 0) (n := 0) (Nat.le_of_ble_eq_true rfl) (Nat.le_of_ble_eq_true rfl) ?_
  exact W.iret (v := (-1)) hx hb hr (fun t ht hW => ⟨⟨(-1), (), rfl, rfl, trivial⟩, hS.F ht⟩) hS.2.2 dX9_parentOf_46

set_option maxHeartbeats 4000000 in
set_option maxRecDepth 100000 in
theorem c_placeOf (l : Launch) (G : va_G) (y : Nat → ClassId) (sz : Nat) (h0 : Nat) (ak : Nat) (av : Nat) (ae : Nat) (ad : Nat)  : Met l yX9_placeOf wsX9_placeOf ({ frames := 0, cells := 0, slots := 0, locals := 0 }) (nq_P G y sz [.ref h0, .int 0] [(h0, .inr (9, [.ref ak, .ref av, .ref ae, .ref ad, .int 1]))]) (va_Qi (fun (r : Int32) (_ : Unit) => r = (-1)) (fun _ _ => True) (va_A [] sz)) 0 0 (va_A [] sz) := by
  refine Met.ofW (cc := cX9_placeOf) (maxL := 4) (ret := (some .int)) (by decide) rfl ?_
  intro p e s m args below meth c s₁ B hml hv
  obtain ⟨rfl, hsz, hP, hK, hD0⟩ := hv
  have hx := B.exec
  have hb := B.bytes
  have hr := B.returns
  have hts := atoms_spec (ws := wsX9_placeOf) B.pre
  have hown : s.vm.findClass RX9 = some m.cls := findClass_of_methodNamed B.named
  have hlocks := B.notSynchronized
  subst hsz
  have hD := hD0
  have hA : ∀ q : Nat, s.heap.size ≤ q → va_A [] s.heap.size q := fun q h => Or.inr h
  have hS : va_S (va_A [] s.heap.size) s.heap s.heap [] := va_S.rf
  have hP : va_P G vwCl [(h0, .inr (9, [.ref ak, .ref av, .ref ae, .ref ad, .int 1]))] s.heap := hP
  have hl := lv_entry ([.ref h0, .int 0]) (n := 4) (Nat.le_of_ble_eq_true rfl)
  rw [lg_entry_eq]
  generalize (lg_sl ([.ref h0, .int 0]) ++ List.replicate (4 - (lg_sl ([.ref h0, .int 0])).length) Slot.unset).toArray = ls at hl ⊢
  have hl : lv_has ls 4 [(0, .ref h0), (1, .int 0)] := hl
  refine lv_iload_n hx hb dX9_placeOf_0 rfl (lv_at hl 1 rfl) ?_
  refine lv_iconst (v := 1) hx hb dX9_placeOf_1 (by decide) ?_
  refine lv_icmp_lt (tgt := 13) hx hb dX9_placeOf_2 (by decide) (fun _ => ?_) (fun c_1 => absurd c_1 (by decide))
  refine lv_iconst (v := (-1)) hx hb dX9_placeOf_13 (by decide) ?_
  refine W.widen (k := 0) (n := 0) (Nat.le_of_ble_eq_true rfl) (Nat.le_of_ble_eq_true rfl) ?_
  exact W.iret (v := (-1)) hx hb hr (fun t ht hW => ⟨⟨(-1), (), rfl, rfl, trivial⟩, hS.F ht⟩) hS.2.2 dX9_placeOf_14

set_option maxHeartbeats 4000000 in
set_option maxRecDepth 100000 in
theorem c_childCount (l : Launch) (G : va_G) (y : Nat → ClassId) (sz : Nat) (h0 : Nat) (ak : Nat) (av : Nat) (ae : Nat) (ad : Nat)  : Met l yX9_childCount wsX9_childCount ({ frames := 0, cells := 0, slots := 0, locals := 0 }) (nq_P G y sz [.ref h0, .int 0] [(h0, .inr (9, [.ref ak, .ref av, .ref ae, .ref ad, .int 1]))]) (va_Qi (fun (r : Int32) (_ : Unit) => r = 0) (fun _ _ => True) (va_A [] sz)) 0 0 (va_A [] sz) := by
  refine Met.ofW (cc := cX9_childCount) (maxL := 4) (ret := (some .int)) (by decide) rfl ?_
  intro p e s m args below meth c s₁ B hml hv
  obtain ⟨rfl, hsz, hP, hK, hD0⟩ := hv
  have hx := B.exec
  have hb := B.bytes
  have hr := B.returns
  have hts := atoms_spec (ws := wsX9_childCount) B.pre
  have hown : s.vm.findClass RX9 = some m.cls := findClass_of_methodNamed B.named
  have hlocks := B.notSynchronized
  subst hsz
  have hD := hD0
  have hA : ∀ q : Nat, s.heap.size ≤ q → va_A [] s.heap.size q := fun q h => Or.inr h
  have hS : va_S (va_A [] s.heap.size) s.heap s.heap [] := va_S.rf
  have hP : va_P G vwCl [(h0, .inr (9, [.ref ak, .ref av, .ref ae, .ref ad, .int 1]))] s.heap := hP
  have inX9 : ∀ w ∈ wsX90, w ∈ wsX9_childCount := by decide +kernel
  have hl := lv_entry ([.ref h0, .int 0]) (n := 4) (Nat.le_of_ble_eq_true rfl)
  rw [lg_entry_eq]
  generalize (lg_sl ([.ref h0, .int 0]) ++ List.replicate (4 - (lg_sl ([.ref h0, .int 0])).length) Slot.unset).toArray = ls at hl ⊢
  have hl : lv_has ls 4 [(0, .ref h0), (1, .int 0)] := hl
  refine lv_iload_n hx hb dX9_childCount_0 rfl (lv_at hl 1 rfl) ?_
  refine lv_if_lt (tgt := 12) hx hb dX9_childCount_1 (by decide) (fun c_1 => absurd c_1 (by decide)) (fun _ => ?_)
  refine lv_iload_n hx hb dX9_childCount_4 rfl (lv_at hl 1 rfl) ?_
  refine lv_aload_n hx hb dX9_childCount_5 rfl (lv_at hl 0 rfl) ?_
  refine va_get (D := G) (ci := 9) (v := .int 1) (C := RX9) (T := TX9) (N := 5) hx hb hts inX9 hown hK.1 hP 0 rfl rfl 4 (by decide) (hts (.fieldLink RX9 24 "NestQuery$Tree" "size" "I") (by decide +kernel)) (fun _ h9 => h9) rfl dX9_childCount_6 ?_
  refine lv_icmp_lt (tgt := 14) hx hb dX9_childCount_9 (by decide) (fun _ => ?_) (fun c_2 => absurd c_2 (by decide))
  refine lv_iconst (v := 0) hx hb dX9_childCount_14 (by decide) ?_
  refine lv_istore_n (lv' := [(2, .int 0), (0, .ref h0), (1, .int 0)]) hx hb dX9_childCount_15 rfl hl (by decide) rfl (fun ls hl => ?_)
  refine lv_iload_n hx hb dX9_childCount_16 rfl (lv_at hl 2 rfl) ?_
  refine lv_iconst (v := 1) hx hb dX9_childCount_17 (by decide) ?_
  refine lv_iadd hx hb dX9_childCount_18 ?_
  refine nq_top (z := 1) (by decide) ?_
  refine lv_istore_n (lv' := [(3, .int 1), (2, .int 0), (0, .ref h0), (1, .int 0)]) hx hb dX9_childCount_19 rfl hl (by decide) rfl (fun ls hl => ?_)
  refine lv_iload_n hx hb dX9_childCount_20 rfl (lv_at hl 0 rfl) ?_
  refine lv_aload_n hx hb dX9_childCount_21 rfl (lv_at hl 2 rfl) ?_
  refine va_get (D := G) (ci := 9) (v := .int 1) (C := RX9) (T := TX9) (N := 5) hx hb hts inX9 hown hK.1 hP 0 rfl rfl 4 (by decide) (hts (.fieldLink RX9 24 "NestQuery$Tree" "size" "I") (by decide +kernel)) (fun _ h9 => h9) rfl dX9_childCount_22 ?_
  refine lv_icmp_ge (tgt := 69) hx hb dX9_childCount_25 (by decide) (fun _ => ?_) (fun c_3 => absurd c_3 (by decide))
  refine lv_iload_n hx hb dX9_childCount_69 rfl (lv_at hl 1 rfl) ?_
  refine W.widen (k := 0) (n := 0) (Nat.le_of_ble_eq_true rfl) (Nat.le_of_ble_eq_true rfl) ?_
  exact W.iret (v := 0) hx hb hr (fun t ht hW => ⟨⟨0, (), rfl, rfl, trivial⟩, hS.F ht⟩) hS.2.2 dX9_childCount_70

set_option maxHeartbeats 4000000 in
set_option maxRecDepth 100000 in
theorem c_childAt (l : Launch) (G : va_G) (y : Nat → ClassId) (sz : Nat) (h0 : Nat) (ak : Nat) (av : Nat) (ae : Nat) (ad : Nat) (i : Int32)  : Met l yX9_childAt wsX9_childAt ({ frames := 0, cells := 0, slots := 0, locals := 0 }) (nq_P G y sz [.ref h0, .int 0, .int i] [(h0, .inr (9, [.ref ak, .ref av, .ref ae, .ref ad, .int 1]))]) (va_Qi (fun (r : Int32) (_ : Unit) => r = (-1)) (fun _ _ => True) (va_A [] sz)) 0 0 (va_A [] sz) := by
  refine Met.ofW (cc := cX9_childAt) (maxL := 5) (ret := (some .int)) (by decide) rfl ?_
  intro p e s m args below meth c s₁ B hml hv
  obtain ⟨rfl, hsz, hP, hK, hD0⟩ := hv
  have hx := B.exec
  have hb := B.bytes
  have hr := B.returns
  have hts := atoms_spec (ws := wsX9_childAt) B.pre
  have hown : s.vm.findClass RX9 = some m.cls := findClass_of_methodNamed B.named
  have hlocks := B.notSynchronized
  subst hsz
  have hD := hD0
  have hA : ∀ q : Nat, s.heap.size ≤ q → va_A [] s.heap.size q := fun q h => Or.inr h
  have hS : va_S (va_A [] s.heap.size) s.heap s.heap [] := va_S.rf
  have hP : va_P G vwCl [(h0, .inr (9, [.ref ak, .ref av, .ref ae, .ref ad, .int 1]))] s.heap := hP
  have inX9 : ∀ w ∈ wsX90, w ∈ wsX9_childAt := by decide +kernel
  have hl := lv_entry ([.ref h0, .int 0, .int i]) (n := 5) (Nat.le_of_ble_eq_true rfl)
  rw [lg_entry_eq]
  generalize (lg_sl ([.ref h0, .int 0, .int i]) ++ List.replicate (5 - (lg_sl ([.ref h0, .int 0, .int i])).length) Slot.unset).toArray = ls at hl ⊢
  have hl : lv_has ls 5 [(0, .ref h0), (1, .int 0), (2, .int i)] := hl
  refine lv_iload_n hx hb dX9_childAt_0 rfl (lv_at hl 1 rfl) ?_
  refine lv_if_lt (tgt := 12) hx hb dX9_childAt_1 (by decide) (fun c_1 => absurd c_1 (by decide)) (fun _ => ?_)
  refine lv_iload_n hx hb dX9_childAt_4 rfl (lv_at hl 1 rfl) ?_
  refine lv_aload_n hx hb dX9_childAt_5 rfl (lv_at hl 0 rfl) ?_
  refine va_get (D := G) (ci := 9) (v := .int 1) (C := RX9) (T := TX9) (N := 5) hx hb hts inX9 hown hK.1 hP 0 rfl rfl 4 (by decide) (hts (.fieldLink RX9 24 "NestQuery$Tree" "size" "I") (by decide +kernel)) (fun _ h9 => h9) rfl dX9_childAt_6 ?_
  refine lv_icmp_lt (tgt := 14) hx hb dX9_childAt_9 (by decide) (fun _ => ?_) (fun c_2 => absurd c_2 (by decide))
  refine lv_iconst (v := 0) hx hb dX9_childAt_14 (by decide) ?_
  refine lv_istore_n (lv' := [(3, .int 0), (0, .ref h0), (1, .int 0), (2, .int i)]) hx hb dX9_childAt_15 rfl hl (by decide) rfl (fun ls hl => ?_)
  refine lv_iload_n hx hb dX9_childAt_16 rfl (lv_at hl 2 rfl) ?_
  refine lv_iconst (v := 1) hx hb dX9_childAt_17 (by decide) ?_
  refine lv_iadd hx hb dX9_childAt_18 ?_
  refine nq_top (z := 1) (by decide) ?_
  refine lv_istore (lv' := [(4, .int 1), (3, .int 0), (0, .ref h0), (1, .int 0), (2, .int i)]) hx hb dX9_childAt_19 hl (by decide) rfl (fun ls hl => ?_)
  refine lv_iload hx hb dX9_childAt_21 (lv_at hl 0 rfl) ?_
  refine lv_aload_n hx hb dX9_childAt_23 rfl (lv_at hl 2 rfl) ?_
  refine va_get (D := G) (ci := 9) (v := .int 1) (C := RX9) (T := TX9) (N := 5) hx hb hts inX9 hown hK.1 hP 0 rfl rfl 4 (by decide) (hts (.fieldLink RX9 24 "NestQuery$Tree" "size" "I") (by decide +kernel)) (fun _ h9 => h9) rfl dX9_childAt_24 ?_
  refine lv_icmp_ge (tgt := 81) hx hb dX9_childAt_27 (by decide) (fun _ => ?_) (fun c_3 => absurd c_3 (by decide))
  refine lv_iconst (v := (-1)) hx hb dX9_childAt_81 (by decide) ?_
  refine W.widen (k := 0) (n := 0) (Nat.le_of_ble_eq_true rfl) (Nat.le_of_ble_eq_true rfl) ?_
  exact W.iret (v := (-1)) hx hb hr (fun t ht hW => ⟨⟨(-1), (), rfl, rfl, trivial⟩, hS.F ht⟩) hS.2.2 dX9_childAt_82

set_option maxHeartbeats 4000000 in
set_option maxRecDepth 100000 in
theorem c_deepest (l : Launch) (G : va_G) (y : Nat → ClassId) (sz : Nat) (h0 : Nat) (ak : Nat) (av : Nat) (ae : Nat) (ad : Nat) (fd : Nat → Int32) (hfd0 : fd 0 = 0) : Met l yX9_deepest wsX9_deepest ({ frames := 1, cells := 0, slots := 0, locals := 40 }) (nq_P G y sz [.ref h0] [(h0, .inr (9, [.ref ak, .ref av, .ref ae, .ref ad, .int 1])), (ad, .inl (y 0, 60, .inl fd))]) (va_Qi (fun (r : Int32) (_ : Unit) => r = 0) (fun _ _ => True) (va_A [] sz)) 0 0 (va_A [] sz) := by
  refine Met.ofW (cc := cX9_deepest) (maxL := 3) (ret := (some .int)) (by decide) rfl ?_
  intro p e s m args below meth c s₁ B hml hv
  obtain ⟨rfl, hsz, hP, hK, hD0⟩ := hv
  have hx := B.exec
  have hb := B.bytes
  have hr := B.returns
  have hts := atoms_spec (ws := wsX9_deepest) B.pre
  have hown : s.vm.findClass RX9 = some m.cls := findClass_of_methodNamed B.named
  have hlocks := B.notSynchronized
  subst hsz
  have hD := hD0
  have hA : ∀ q : Nat, s.heap.size ≤ q → va_A [] s.heap.size q := fun q h => Or.inr h
  have hS : va_S (va_A [] s.heap.size) s.heap s.heap [] := va_S.rf
  have hP : va_P G vwCl [(h0, .inr (9, [.ref ak, .ref av, .ref ae, .ref ad, .int 1])), (ad, .inl (y 0, 60, .inl fd))] s.heap := hP
  have inX9 : ∀ w ∈ wsX90, w ∈ wsX9_deepest := by decide +kernel
  have hl := lv_entry ([.ref h0]) (n := 3) (Nat.le_of_ble_eq_true rfl)
  rw [lg_entry_eq]
  generalize (lg_sl ([.ref h0]) ++ List.replicate (3 - (lg_sl ([.ref h0])).length) Slot.unset).toArray = ls at hl ⊢
  have hl : lv_has ls 3 [(0, .ref h0)] := hl
  refine lv_iconst (v := 0) hx hb dX9_deepest_0 (by decide) ?_
  refine lv_istore_n (lv' := [(1, .int 0), (0, .ref h0)]) hx hb dX9_deepest_1 rfl hl (by decide) rfl (fun ls hl => ?_)
  refine lv_iconst (v := 0) hx hb dX9_deepest_2 (by decide) ?_
  refine lv_istore_n (lv' := [(2, .int 0), (1, .int 0), (0, .ref h0)]) hx hb dX9_deepest_3 rfl hl (by decide) rfl (fun ls hl => ?_)
  refine lv_iload_n hx hb dX9_deepest_4 rfl (lv_at hl 0 rfl) ?_
  refine lv_aload_n hx hb dX9_deepest_5 rfl (lv_at hl 2 rfl) ?_
  refine va_get (D := G) (ci := 9) (v := .int 1) (C := RX9) (T := TX9) (N := 5) hx hb hts inX9 hown hK.1 hP 0 rfl rfl 4 (by decide) (hts (.fieldLink RX9 24 "NestQuery$Tree" "size" "I") (by decide +kernel)) (fun _ h9 => h9) rfl dX9_deepest_6 ?_
  refine lv_icmp_ge (tgt := 29) hx hb dX9_deepest_9 (by decide) (fun c_1 => absurd c_1 (by decide)) (fun _ => ?_)
  refine lv_iload_n hx hb dX9_deepest_12 rfl (lv_at hl 1 rfl) ?_
  refine lv_aload_n hx hb dX9_deepest_13 rfl (lv_at hl 2 rfl) ?_
  refine va_get (D := G) (ci := 9) (v := .ref ad) (C := RX9) (T := TX9) (N := 5) hx hb hts inX9 hown hK.1 hP 0 rfl rfl 3 (by decide) (hts (.fieldLink RX9 21 "NestQuery$Tree" "depths" "[I") (by decide +kernel)) (fun _ h9 => h9) rfl dX9_deepest_14 ?_
  refine lv_iload_n hx hb dX9_deepest_17 rfl (lv_at hl 0 rfl) ?_
  refine va_iald hx hb hK.1 hP 1 0 rfl rfl (i := 0) (nq_in (by decide)) dX9_deepest_18 ?_
  refine nq_top (z := 0) (hfd0) ?_
  refine va_mmax hx hb (by rw [hml]; exact hl.1.symm) hown (hts (.methodLink RX9 32 Lib.Math.max.name) (by decide +kernel)) (hts (.static Lib.Math.max.name) (by decide +kernel)) (hts (.initialized "java/lang/Math") (by decide +kernel)) (hts (.code Lib.Math.max.name Lib.Math.max.code 2 (some .int)) (by decide +kernel)) (Nat.le_of_ble_eq_true rfl) (Nat.le_of_ble_eq_true rfl) (Nat.zero_le _) (Nat.zero_le _) dX9_deepest_19 ?_
  refine nq_top (z := 0) (by decide) ?_
  refine lv_istore_n (lv' := [(1, .int 0), (2, .int 0), (0, .ref h0)]) hx hb dX9_deepest_22 rfl hl (by decide) rfl (fun ls hl => ?_)
  refine lv_iinc (v := 1) (lv' := [(2, .int 1), (1, .int 0), (0, .ref h0)]) hx hb dX9_deepest_23 hl (k := 1) rfl (by decide) (by decide) rfl (fun ls hl => ?_)
  refine lv_goto (tgt := 4) hx hb dX9_deepest_26 (by decide) ?_
  refine lv_iload_n hx hb dX9_deepest_4 rfl (lv_at hl 0 rfl) ?_
  refine lv_aload_n hx hb dX9_deepest_5 rfl (lv_at hl 2 rfl) ?_
  refine va_get (D := G) (ci := 9) (v := .int 1) (C := RX9) (T := TX9) (N := 5) hx hb hts inX9 hown hK.1 hP 0 rfl rfl 4 (by decide) (hts (.fieldLink RX9 24 "NestQuery$Tree" "size" "I") (by decide +kernel)) (fun _ h9 => h9) rfl dX9_deepest_6 ?_
  refine lv_icmp_ge (tgt := 29) hx hb dX9_deepest_9 (by decide) (fun _ => ?_) (fun c_2 => absurd c_2 (by decide))
  refine lv_iload_n hx hb dX9_deepest_29 rfl (lv_at hl 1 rfl) ?_
  refine W.widen (k := 0) (n := 0) (Nat.le_of_ble_eq_true rfl) (Nat.le_of_ble_eq_true rfl) ?_
  exact W.iret (v := 0) hx hb hr (fun t ht hW => ⟨⟨0, (), rfl, rfl, trivial⟩, hS.F ht⟩) hS.2.2 dX9_deepest_30

set_option maxHeartbeats 4000000 in
set_option maxRecDepth 100000 in
theorem c_countKind0 (l : Launch) (G : va_G) (y : Nat → ClassId) (sz : Nat) (h0 : Nat) (ak : Nat) (av : Nat) (ae : Nat) (ad : Nat) (fk : Nat → Int32) (hfk0 : fk 0 = 3) : Met l yX9_countKind wsX9_countKind ({ frames := 0, cells := 0, slots := 0, locals := 0 }) (nq_P G y sz [.ref h0, .int 0] [(h0, .inr (9, [.ref ak, .ref av, .ref ae, .ref ad, .int 1])), (ak, .inl (y 0, 60, .inl fk))]) (va_Qi (fun (r : Int32) (_ : Unit) => r = 0) (fun _ _ => True) (va_A [] sz)) 0 0 (va_A [] sz) := by
  refine Met.ofW (cc := cX9_countKind) (maxL := 4) (ret := (some .int)) (by decide) rfl ?_
  intro p e s m args below meth c s₁ B hml hv
  obtain ⟨rfl, hsz, hP, hK, hD0⟩ := hv
  have hx := B.exec
  have hb := B.bytes
  have hr := B.returns
  have hts := atoms_spec (ws := wsX9_countKind) B.pre
  have hown : s.vm.findClass RX9 = some m.cls := findClass_of_methodNamed B.named
  have hlocks := B.notSynchronized
  subst hsz
  have hD := hD0
  have hA : ∀ q : Nat, s.heap.size ≤ q → va_A [] s.heap.size q := fun q h => Or.inr h
  have hS : va_S (va_A [] s.heap.size) s.heap s.heap [] := va_S.rf
  have hP : va_P G vwCl [(h0, .inr (9, [.ref ak, .ref av, .ref ae, .ref ad, .int 1])), (ak, .inl (y 0, 60, .inl fk))] s.heap := hP
  have inX9 : ∀ w ∈ wsX90, w ∈ wsX9_countKind := by decide +kernel
  have hl := lv_entry ([.ref h0, .int 0]) (n := 4) (Nat.le_of_ble_eq_true rfl)
  rw [lg_entry_eq]
  generalize (lg_sl ([.ref h0, .int 0]) ++ List.replicate (4 - (lg_sl ([.ref h0, .int 0])).length) Slot.unset).toArray = ls at hl ⊢
  have hl : lv_has ls 4 [(0, .ref h0), (1, .int 0)] := hl
  refine lv_iconst (v := 0) hx hb dX9_countKind_0 (by decide) ?_
  refine lv_istore_n (lv' := [(2, .int 0), (0, .ref h0), (1, .int 0)]) hx hb dX9_countKind_1 rfl hl (by decide) rfl (fun ls hl => ?_)
  refine lv_iconst (v := 0) hx hb dX9_countKind_2 (by decide) ?_
  refine lv_istore_n (lv' := [(3, .int 0), (2, .int 0), (0, .ref h0), (1, .int 0)]) hx hb dX9_countKind_3 rfl hl (by decide) rfl (fun ls hl => ?_)
  refine lv_iload_n hx hb dX9_countKind_4 rfl (lv_at hl 0 rfl) ?_
  refine lv_aload_n hx hb dX9_countKind_5 rfl (lv_at hl 2 rfl) ?_
  refine va_get (D := G) (ci := 9) (v := .int 1) (C := RX9) (T := TX9) (N := 5) hx hb hts inX9 hown hK.1 hP 0 rfl rfl 4 (by decide) (hts (.fieldLink RX9 24 "NestQuery$Tree" "size" "I") (by decide +kernel)) (fun _ h9 => h9) rfl dX9_countKind_6 ?_
  refine lv_icmp_ge (tgt := 31) hx hb dX9_countKind_9 (by decide) (fun c_1 => absurd c_1 (by decide)) (fun _ => ?_)
  refine lv_aload_n hx hb dX9_countKind_12 rfl (lv_at hl 2 rfl) ?_
  refine va_get (D := G) (ci := 9) (v := .ref ak) (C := RX9) (T := TX9) (N := 5) hx hb hts inX9 hown hK.1 hP 0 rfl rfl 0 (by decide) (hts (.fieldLink RX9 9 "NestQuery$Tree" "kinds" "[I") (by decide +kernel)) (fun _ h9 => h9) rfl dX9_countKind_13 ?_
  refine lv_iload_n hx hb dX9_countKind_16 rfl (lv_at hl 0 rfl) ?_
  refine va_iald hx hb hK.1 hP 1 0 rfl rfl (i := 0) (nq_in (by decide)) dX9_countKind_17 ?_
  refine nq_top (z := 3) (hfk0) ?_
  refine lv_iload_n hx hb dX9_countKind_18 rfl (lv_at hl 3 rfl) ?_
  refine lv_icmp_ne (tgt := 25) hx hb dX9_countKind_19 (by decide) (fun _ => ?_) (fun c_2 => absurd c_2 (by decide))
  refine lv_iinc (v := 1) (lv' := [(3, .int 1), (2, .int 0), (0, .ref h0), (1, .int 0)]) hx hb dX9_countKind_25 hl (k := 0) rfl (by decide) (by decide) rfl (fun ls hl => ?_)
  refine lv_goto (tgt := 4) hx hb dX9_countKind_28 (by decide) ?_
  refine lv_iload_n hx hb dX9_countKind_4 rfl (lv_at hl 0 rfl) ?_
  refine lv_aload_n hx hb dX9_countKind_5 rfl (lv_at hl 2 rfl) ?_
  refine va_get (D := G) (ci := 9) (v := .int 1) (C := RX9) (T := TX9) (N := 5) hx hb hts inX9 hown hK.1 hP 0 rfl rfl 4 (by decide) (hts (.fieldLink RX9 24 "NestQuery$Tree" "size" "I") (by decide +kernel)) (fun _ h9 => h9) rfl dX9_countKind_6 ?_
  refine lv_icmp_ge (tgt := 31) hx hb dX9_countKind_9 (by decide) (fun _ => ?_) (fun c_3 => absurd c_3 (by decide))
  refine lv_iload_n hx hb dX9_countKind_31 rfl (lv_at hl 1 rfl) ?_
  refine W.widen (k := 0) (n := 0) (Nat.le_of_ble_eq_true rfl) (Nat.le_of_ble_eq_true rfl) ?_
  exact W.iret (v := 0) hx hb hr (fun t ht hW => ⟨⟨0, (), rfl, rfl, trivial⟩, hS.F ht⟩) hS.2.2 dX9_countKind_32

set_option maxHeartbeats 4000000 in
set_option maxRecDepth 100000 in
theorem c_countKind1 (l : Launch) (G : va_G) (y : Nat → ClassId) (sz : Nat) (h0 : Nat) (ak : Nat) (av : Nat) (ae : Nat) (ad : Nat) (fk : Nat → Int32) (hfk0 : fk 0 = 3) : Met l yX9_countKind wsX9_countKind ({ frames := 0, cells := 0, slots := 0, locals := 0 }) (nq_P G y sz [.ref h0, .int 1] [(h0, .inr (9, [.ref ak, .ref av, .ref ae, .ref ad, .int 1])), (ak, .inl (y 0, 60, .inl fk))]) (va_Qi (fun (r : Int32) (_ : Unit) => r = 0) (fun _ _ => True) (va_A [] sz)) 0 0 (va_A [] sz) := by
  refine Met.ofW (cc := cX9_countKind) (maxL := 4) (ret := (some .int)) (by decide) rfl ?_
  intro p e s m args below meth c s₁ B hml hv
  obtain ⟨rfl, hsz, hP, hK, hD0⟩ := hv
  have hx := B.exec
  have hb := B.bytes
  have hr := B.returns
  have hts := atoms_spec (ws := wsX9_countKind) B.pre
  have hown : s.vm.findClass RX9 = some m.cls := findClass_of_methodNamed B.named
  have hlocks := B.notSynchronized
  subst hsz
  have hD := hD0
  have hA : ∀ q : Nat, s.heap.size ≤ q → va_A [] s.heap.size q := fun q h => Or.inr h
  have hS : va_S (va_A [] s.heap.size) s.heap s.heap [] := va_S.rf
  have hP : va_P G vwCl [(h0, .inr (9, [.ref ak, .ref av, .ref ae, .ref ad, .int 1])), (ak, .inl (y 0, 60, .inl fk))] s.heap := hP
  have inX9 : ∀ w ∈ wsX90, w ∈ wsX9_countKind := by decide +kernel
  have hl := lv_entry ([.ref h0, .int 1]) (n := 4) (Nat.le_of_ble_eq_true rfl)
  rw [lg_entry_eq]
  generalize (lg_sl ([.ref h0, .int 1]) ++ List.replicate (4 - (lg_sl ([.ref h0, .int 1])).length) Slot.unset).toArray = ls at hl ⊢
  have hl : lv_has ls 4 [(0, .ref h0), (1, .int 1)] := hl
  refine lv_iconst (v := 0) hx hb dX9_countKind_0 (by decide) ?_
  refine lv_istore_n (lv' := [(2, .int 0), (0, .ref h0), (1, .int 1)]) hx hb dX9_countKind_1 rfl hl (by decide) rfl (fun ls hl => ?_)
  refine lv_iconst (v := 0) hx hb dX9_countKind_2 (by decide) ?_
  refine lv_istore_n (lv' := [(3, .int 0), (2, .int 0), (0, .ref h0), (1, .int 1)]) hx hb dX9_countKind_3 rfl hl (by decide) rfl (fun ls hl => ?_)
  refine lv_iload_n hx hb dX9_countKind_4 rfl (lv_at hl 0 rfl) ?_
  refine lv_aload_n hx hb dX9_countKind_5 rfl (lv_at hl 2 rfl) ?_
  refine va_get (D := G) (ci := 9) (v := .int 1) (C := RX9) (T := TX9) (N := 5) hx hb hts inX9 hown hK.1 hP 0 rfl rfl 4 (by decide) (hts (.fieldLink RX9 24 "NestQuery$Tree" "size" "I") (by decide +kernel)) (fun _ h9 => h9) rfl dX9_countKind_6 ?_
  refine lv_icmp_ge (tgt := 31) hx hb dX9_countKind_9 (by decide) (fun c_1 => absurd c_1 (by decide)) (fun _ => ?_)
  refine lv_aload_n hx hb dX9_countKind_12 rfl (lv_at hl 2 rfl) ?_
  refine va_get (D := G) (ci := 9) (v := .ref ak) (C := RX9) (T := TX9) (N := 5) hx hb hts inX9 hown hK.1 hP 0 rfl rfl 0 (by decide) (hts (.fieldLink RX9 9 "NestQuery$Tree" "kinds" "[I") (by decide +kernel)) (fun _ h9 => h9) rfl dX9_countKind_13 ?_
  refine lv_iload_n hx hb dX9_countKind_16 rfl (lv_at hl 0 rfl) ?_
  refine va_iald hx hb hK.1 hP 1 0 rfl rfl (i := 0) (nq_in (by decide)) dX9_countKind_17 ?_
  refine nq_top (z := 3) (hfk0) ?_
  refine lv_iload_n hx hb dX9_countKind_18 rfl (lv_at hl 3 rfl) ?_
  refine lv_icmp_ne (tgt := 25) hx hb dX9_countKind_19 (by decide) (fun _ => ?_) (fun c_2 => absurd c_2 (by decide))
  refine lv_iinc (v := 1) (lv' := [(3, .int 1), (2, .int 0), (0, .ref h0), (1, .int 1)]) hx hb dX9_countKind_25 hl (k := 0) rfl (by decide) (by decide) rfl (fun ls hl => ?_)
  refine lv_goto (tgt := 4) hx hb dX9_countKind_28 (by decide) ?_
  refine lv_iload_n hx hb dX9_countKind_4 rfl (lv_at hl 0 rfl) ?_
  refine lv_aload_n hx hb dX9_countKind_5 rfl (lv_at hl 2 rfl) ?_
  refine va_get (D := G) (ci := 9) (v := .int 1) (C := RX9) (T := TX9) (N := 5) hx hb hts inX9 hown hK.1 hP 0 rfl rfl 4 (by decide) (hts (.fieldLink RX9 24 "NestQuery$Tree" "size" "I") (by decide +kernel)) (fun _ h9 => h9) rfl dX9_countKind_6 ?_
  refine lv_icmp_ge (tgt := 31) hx hb dX9_countKind_9 (by decide) (fun _ => ?_) (fun c_3 => absurd c_3 (by decide))
  refine lv_iload_n hx hb dX9_countKind_31 rfl (lv_at hl 1 rfl) ?_
  refine W.widen (k := 0) (n := 0) (Nat.le_of_ble_eq_true rfl) (Nat.le_of_ble_eq_true rfl) ?_
  exact W.iret (v := 0) hx hb hr (fun t ht hW => ⟨⟨0, (), rfl, rfl, trivial⟩, hS.F ht⟩) hS.2.2 dX9_countKind_32

set_option maxHeartbeats 4000000 in
set_option maxRecDepth 100000 in
theorem c_countKind2 (l : Launch) (G : va_G) (y : Nat → ClassId) (sz : Nat) (h0 : Nat) (ak : Nat) (av : Nat) (ae : Nat) (ad : Nat) (fk : Nat → Int32) (hfk0 : fk 0 = 3) : Met l yX9_countKind wsX9_countKind ({ frames := 0, cells := 0, slots := 0, locals := 0 }) (nq_P G y sz [.ref h0, .int 2] [(h0, .inr (9, [.ref ak, .ref av, .ref ae, .ref ad, .int 1])), (ak, .inl (y 0, 60, .inl fk))]) (va_Qi (fun (r : Int32) (_ : Unit) => r = 0) (fun _ _ => True) (va_A [] sz)) 0 0 (va_A [] sz) := by
  refine Met.ofW (cc := cX9_countKind) (maxL := 4) (ret := (some .int)) (by decide) rfl ?_
  intro p e s m args below meth c s₁ B hml hv
  obtain ⟨rfl, hsz, hP, hK, hD0⟩ := hv
  have hx := B.exec
  have hb := B.bytes
  have hr := B.returns
  have hts := atoms_spec (ws := wsX9_countKind) B.pre
  have hown : s.vm.findClass RX9 = some m.cls := findClass_of_methodNamed B.named
  have hlocks := B.notSynchronized
  subst hsz
  have hD := hD0
  have hA : ∀ q : Nat, s.heap.size ≤ q → va_A [] s.heap.size q := fun q h => Or.inr h
  have hS : va_S (va_A [] s.heap.size) s.heap s.heap [] := va_S.rf
  have hP : va_P G vwCl [(h0, .inr (9, [.ref ak, .ref av, .ref ae, .ref ad, .int 1])), (ak, .inl (y 0, 60, .inl fk))] s.heap := hP
  have inX9 : ∀ w ∈ wsX90, w ∈ wsX9_countKind := by decide +kernel
  have hl := lv_entry ([.ref h0, .int 2]) (n := 4) (Nat.le_of_ble_eq_true rfl)
  rw [lg_entry_eq]
  generalize (lg_sl ([.ref h0, .int 2]) ++ List.replicate (4 - (lg_sl ([.ref h0, .int 2])).length) Slot.unset).toArray = ls at hl ⊢
  have hl : lv_has ls 4 [(0, .ref h0), (1, .int 2)] := hl
  refine lv_iconst (v := 0) hx hb dX9_countKind_0 (by decide) ?_
  refine lv_istore_n (lv' := [(2, .int 0), (0, .ref h0), (1, .int 2)]) hx hb dX9_countKind_1 rfl hl (by decide) rfl (fun ls hl => ?_)
  refine lv_iconst (v := 0) hx hb dX9_countKind_2 (by decide) ?_
  refine lv_istore_n (lv' := [(3, .int 0), (2, .int 0), (0, .ref h0), (1, .int 2)]) hx hb dX9_countKind_3 rfl hl (by decide) rfl (fun ls hl => ?_)
  refine lv_iload_n hx hb dX9_countKind_4 rfl (lv_at hl 0 rfl) ?_
  refine lv_aload_n hx hb dX9_countKind_5 rfl (lv_at hl 2 rfl) ?_
  refine va_get (D := G) (ci := 9) (v := .int 1) (C := RX9) (T := TX9) (N := 5) hx hb hts inX9 hown hK.1 hP 0 rfl rfl 4 (by decide) (hts (.fieldLink RX9 24 "NestQuery$Tree" "size" "I") (by decide +kernel)) (fun _ h9 => h9) rfl dX9_countKind_6 ?_
  refine lv_icmp_ge (tgt := 31) hx hb dX9_countKind_9 (by decide) (fun c_1 => absurd c_1 (by decide)) (fun _ => ?_)
  refine lv_aload_n hx hb dX9_countKind_12 rfl (lv_at hl 2 rfl) ?_
  refine va_get (D := G) (ci := 9) (v := .ref ak) (C := RX9) (T := TX9) (N := 5) hx hb hts inX9 hown hK.1 hP 0 rfl rfl 0 (by decide) (hts (.fieldLink RX9 9 "NestQuery$Tree" "kinds" "[I") (by decide +kernel)) (fun _ h9 => h9) rfl dX9_countKind_13 ?_
  refine lv_iload_n hx hb dX9_countKind_16 rfl (lv_at hl 0 rfl) ?_
  refine va_iald hx hb hK.1 hP 1 0 rfl rfl (i := 0) (nq_in (by decide)) dX9_countKind_17 ?_
  refine nq_top (z := 3) (hfk0) ?_
  refine lv_iload_n hx hb dX9_countKind_18 rfl (lv_at hl 3 rfl) ?_
  refine lv_icmp_ne (tgt := 25) hx hb dX9_countKind_19 (by decide) (fun _ => ?_) (fun c_2 => absurd c_2 (by decide))
  refine lv_iinc (v := 1) (lv' := [(3, .int 1), (2, .int 0), (0, .ref h0), (1, .int 2)]) hx hb dX9_countKind_25 hl (k := 0) rfl (by decide) (by decide) rfl (fun ls hl => ?_)
  refine lv_goto (tgt := 4) hx hb dX9_countKind_28 (by decide) ?_
  refine lv_iload_n hx hb dX9_countKind_4 rfl (lv_at hl 0 rfl) ?_
  refine lv_aload_n hx hb dX9_countKind_5 rfl (lv_at hl 2 rfl) ?_
  refine va_get (D := G) (ci := 9) (v := .int 1) (C := RX9) (T := TX9) (N := 5) hx hb hts inX9 hown hK.1 hP 0 rfl rfl 4 (by decide) (hts (.fieldLink RX9 24 "NestQuery$Tree" "size" "I") (by decide +kernel)) (fun _ h9 => h9) rfl dX9_countKind_6 ?_
  refine lv_icmp_ge (tgt := 31) hx hb dX9_countKind_9 (by decide) (fun _ => ?_) (fun c_3 => absurd c_3 (by decide))
  refine lv_iload_n hx hb dX9_countKind_31 rfl (lv_at hl 1 rfl) ?_
  refine W.widen (k := 0) (n := 0) (Nat.le_of_ble_eq_true rfl) (Nat.le_of_ble_eq_true rfl) ?_
  exact W.iret (v := 0) hx hb hr (fun t ht hW => ⟨⟨0, (), rfl, rfl, trivial⟩, hS.F ht⟩) hS.2.2 dX9_countKind_32

set_option maxHeartbeats 4000000 in
set_option maxRecDepth 100000 in
theorem c_countKind3 (l : Launch) (G : va_G) (y : Nat → ClassId) (sz : Nat) (h0 : Nat) (ak : Nat) (av : Nat) (ae : Nat) (ad : Nat) (fk : Nat → Int32) (hfk0 : fk 0 = 3) : Met l yX9_countKind wsX9_countKind ({ frames := 0, cells := 0, slots := 0, locals := 0 }) (nq_P G y sz [.ref h0, .int 3] [(h0, .inr (9, [.ref ak, .ref av, .ref ae, .ref ad, .int 1])), (ak, .inl (y 0, 60, .inl fk))]) (va_Qi (fun (r : Int32) (_ : Unit) => r = 1) (fun _ _ => True) (va_A [] sz)) 0 0 (va_A [] sz) := by
  refine Met.ofW (cc := cX9_countKind) (maxL := 4) (ret := (some .int)) (by decide) rfl ?_
  intro p e s m args below meth c s₁ B hml hv
  obtain ⟨rfl, hsz, hP, hK, hD0⟩ := hv
  have hx := B.exec
  have hb := B.bytes
  have hr := B.returns
  have hts := atoms_spec (ws := wsX9_countKind) B.pre
  have hown : s.vm.findClass RX9 = some m.cls := findClass_of_methodNamed B.named
  have hlocks := B.notSynchronized
  subst hsz
  have hD := hD0
  have hA : ∀ q : Nat, s.heap.size ≤ q → va_A [] s.heap.size q := fun q h => Or.inr h
  have hS : va_S (va_A [] s.heap.size) s.heap s.heap [] := va_S.rf
  have hP : va_P G vwCl [(h0, .inr (9, [.ref ak, .ref av, .ref ae, .ref ad, .int 1])), (ak, .inl (y 0, 60, .inl fk))] s.heap := hP
  have inX9 : ∀ w ∈ wsX90, w ∈ wsX9_countKind := by decide +kernel
  have hl := lv_entry ([.ref h0, .int 3]) (n := 4) (Nat.le_of_ble_eq_true rfl)
  rw [lg_entry_eq]
  generalize (lg_sl ([.ref h0, .int 3]) ++ List.replicate (4 - (lg_sl ([.ref h0, .int 3])).length) Slot.unset).toArray = ls at hl ⊢
  have hl : lv_has ls 4 [(0, .ref h0), (1, .int 3)] := hl
  refine lv_iconst (v := 0) hx hb dX9_countKind_0 (by decide) ?_
  refine lv_istore_n (lv' := [(2, .int 0), (0, .ref h0), (1, .int 3)]) hx hb dX9_countKind_1 rfl hl (by decide) rfl (fun ls hl => ?_)
  refine lv_iconst (v := 0) hx hb dX9_countKind_2 (by decide) ?_
  refine lv_istore_n (lv' := [(3, .int 0), (2, .int 0), (0, .ref h0), (1, .int 3)]) hx hb dX9_countKind_3 rfl hl (by decide) rfl (fun ls hl => ?_)
  refine lv_iload_n hx hb dX9_countKind_4 rfl (lv_at hl 0 rfl) ?_
  refine lv_aload_n hx hb dX9_countKind_5 rfl (lv_at hl 2 rfl) ?_
  refine va_get (D := G) (ci := 9) (v := .int 1) (C := RX9) (T := TX9) (N := 5) hx hb hts inX9 hown hK.1 hP 0 rfl rfl 4 (by decide) (hts (.fieldLink RX9 24 "NestQuery$Tree" "size" "I") (by decide +kernel)) (fun _ h9 => h9) rfl dX9_countKind_6 ?_
  refine lv_icmp_ge (tgt := 31) hx hb dX9_countKind_9 (by decide) (fun c_1 => absurd c_1 (by decide)) (fun _ => ?_)
  refine lv_aload_n hx hb dX9_countKind_12 rfl (lv_at hl 2 rfl) ?_
  refine va_get (D := G) (ci := 9) (v := .ref ak) (C := RX9) (T := TX9) (N := 5) hx hb hts inX9 hown hK.1 hP 0 rfl rfl 0 (by decide) (hts (.fieldLink RX9 9 "NestQuery$Tree" "kinds" "[I") (by decide +kernel)) (fun _ h9 => h9) rfl dX9_countKind_13 ?_
  refine lv_iload_n hx hb dX9_countKind_16 rfl (lv_at hl 0 rfl) ?_
  refine va_iald hx hb hK.1 hP 1 0 rfl rfl (i := 0) (nq_in (by decide)) dX9_countKind_17 ?_
  refine nq_top (z := 3) (hfk0) ?_
  refine lv_iload_n hx hb dX9_countKind_18 rfl (lv_at hl 3 rfl) ?_
  refine lv_icmp_ne (tgt := 25) hx hb dX9_countKind_19 (by decide) (fun c_2 => absurd c_2 (by decide)) (fun _ => ?_)
  refine lv_iinc (v := 1) (lv' := [(2, .int 1), (3, .int 0), (0, .ref h0), (1, .int 3)]) hx hb dX9_countKind_22 hl (k := 1) rfl (by decide) (by decide) rfl (fun ls hl => ?_)
  refine lv_iinc (v := 1) (lv' := [(3, .int 1), (2, .int 1), (0, .ref h0), (1, .int 3)]) hx hb dX9_countKind_25 hl (k := 1) rfl (by decide) (by decide) rfl (fun ls hl => ?_)
  refine lv_goto (tgt := 4) hx hb dX9_countKind_28 (by decide) ?_
  refine lv_iload_n hx hb dX9_countKind_4 rfl (lv_at hl 0 rfl) ?_
  refine lv_aload_n hx hb dX9_countKind_5 rfl (lv_at hl 2 rfl) ?_
  refine va_get (D := G) (ci := 9) (v := .int 1) (C := RX9) (T := TX9) (N := 5) hx hb hts inX9 hown hK.1 hP 0 rfl rfl 4 (by decide) (hts (.fieldLink RX9 24 "NestQuery$Tree" "size" "I") (by decide +kernel)) (fun _ h9 => h9) rfl dX9_countKind_6 ?_
  refine lv_icmp_ge (tgt := 31) hx hb dX9_countKind_9 (by decide) (fun _ => ?_) (fun c_3 => absurd c_3 (by decide))
  refine lv_iload_n hx hb dX9_countKind_31 rfl (lv_at hl 1 rfl) ?_
  refine W.widen (k := 0) (n := 0) (Nat.le_of_ble_eq_true rfl) (Nat.le_of_ble_eq_true rfl) ?_
  exact W.iret (v := 1) hx hb hr (fun t ht hW => ⟨⟨1, (), rfl, rfl, trivial⟩, hS.F ht⟩) hS.2.2 dX9_countKind_32

set_option maxHeartbeats 4000000 in
set_option maxRecDepth 100000 in
theorem c_sum (l : Launch) (G : va_G) (y : Nat → ClassId) (sz : Nat) (h0 : Nat) (ak : Nat) (av : Nat) (ae : Nat) (ad : Nat) (fk : Nat → Int32) (hfk0 : fk 0 = 3) : Met l yX9_sum wsX9_sum ({ frames := 0, cells := 0, slots := 0, locals := 0 }) (nq_P G y sz [.ref h0] [(h0, .inr (9, [.ref ak, .ref av, .ref ae, .ref ad, .int 1])), (ak, .inl (y 0, 60, .inl fk))]) (va_Qi (fun (r : Int32) (_ : Unit) => r = 0) (fun _ _ => True) (va_A [] sz)) 0 0 (va_A [] sz) := by
  refine Met.ofW (cc := cX9_sum) (maxL := 3) (ret := (some .int)) (by decide) rfl ?_
  intro p e s m args below meth c s₁ B hml hv
  obtain ⟨rfl, hsz, hP, hK, hD0⟩ := hv
  have hx := B.exec
  have hb := B.bytes
  have hr := B.returns
  have hts := atoms_spec (ws := wsX9_sum) B.pre
  have hown : s.vm.findClass RX9 = some m.cls := findClass_of_methodNamed B.named
  have hlocks := B.notSynchronized
  subst hsz
  have hD := hD0
  have hA : ∀ q : Nat, s.heap.size ≤ q → va_A [] s.heap.size q := fun q h => Or.inr h
  have hS : va_S (va_A [] s.heap.size) s.heap s.heap [] := va_S.rf
  have hP : va_P G vwCl [(h0, .inr (9, [.ref ak, .ref av, .ref ae, .ref ad, .int 1])), (ak, .inl (y 0, 60, .inl fk))] s.heap := hP
  have inX9 : ∀ w ∈ wsX90, w ∈ wsX9_sum := by decide +kernel
  have hl := lv_entry ([.ref h0]) (n := 3) (Nat.le_of_ble_eq_true rfl)
  rw [lg_entry_eq]
  generalize (lg_sl ([.ref h0]) ++ List.replicate (3 - (lg_sl ([.ref h0])).length) Slot.unset).toArray = ls at hl ⊢
  have hl : lv_has ls 3 [(0, .ref h0)] := hl
  refine lv_iconst (v := 0) hx hb dX9_sum_0 (by decide) ?_
  refine lv_istore_n (lv' := [(1, .int 0), (0, .ref h0)]) hx hb dX9_sum_1 rfl hl (by decide) rfl (fun ls hl => ?_)
  refine lv_iconst (v := 0) hx hb dX9_sum_2 (by decide) ?_
  refine lv_istore_n (lv' := [(2, .int 0), (1, .int 0), (0, .ref h0)]) hx hb dX9_sum_3 rfl hl (by decide) rfl (fun ls hl => ?_)
  refine lv_iload_n hx hb dX9_sum_4 rfl (lv_at hl 0 rfl) ?_
  refine lv_aload_n hx hb dX9_sum_5 rfl (lv_at hl 2 rfl) ?_
  refine va_get (D := G) (ci := 9) (v := .int 1) (C := RX9) (T := TX9) (N := 5) hx hb hts inX9 hown hK.1 hP 0 rfl rfl 4 (by decide) (hts (.fieldLink RX9 24 "NestQuery$Tree" "size" "I") (by decide +kernel)) (fun _ h9 => h9) rfl dX9_sum_6 ?_
  refine lv_icmp_ge (tgt := 36) hx hb dX9_sum_9 (by decide) (fun c_1 => absurd c_1 (by decide)) (fun _ => ?_)
  refine lv_aload_n hx hb dX9_sum_12 rfl (lv_at hl 2 rfl) ?_
  refine va_get (D := G) (ci := 9) (v := .ref ak) (C := RX9) (T := TX9) (N := 5) hx hb hts inX9 hown hK.1 hP 0 rfl rfl 0 (by decide) (hts (.fieldLink RX9 9 "NestQuery$Tree" "kinds" "[I") (by decide +kernel)) (fun _ h9 => h9) rfl dX9_sum_13 ?_
  refine lv_iload_n hx hb dX9_sum_16 rfl (lv_at hl 0 rfl) ?_
  refine va_iald hx hb hK.1 hP 1 0 rfl rfl (i := 0) (nq_in (by decide)) dX9_sum_17 ?_
  refine nq_top (z := 3) (hfk0) ?_
  refine lv_if_ne (tgt := 30) hx hb dX9_sum_18 (by decide) (fun _ => ?_) (fun c_2 => absurd c_2 (by decide))
  refine lv_iinc (v := 1) (lv' := [(2, .int 1), (1, .int 0), (0, .ref h0)]) hx hb dX9_sum_30 hl (k := 0) rfl (by decide) (by decide) rfl (fun ls hl => ?_)
  refine lv_goto (tgt := 4) hx hb dX9_sum_33 (by decide) ?_
  refine lv_iload_n hx hb dX9_sum_4 rfl (lv_at hl 0 rfl) ?_
  refine lv_aload_n hx hb dX9_sum_5 rfl (lv_at hl 2 rfl) ?_
  refine va_get (D := G) (ci := 9) (v := .int 1) (C := RX9) (T := TX9) (N := 5) hx hb hts inX9 hown hK.1 hP 0 rfl rfl 4 (by decide) (hts (.fieldLink RX9 24 "NestQuery$Tree" "size" "I") (by decide +kernel)) (fun _ h9 => h9) rfl dX9_sum_6 ?_
  refine lv_icmp_ge (tgt := 36) hx hb dX9_sum_9 (by decide) (fun _ => ?_) (fun c_3 => absurd c_3 (by decide))
  refine lv_iload_n hx hb dX9_sum_36 rfl (lv_at hl 1 rfl) ?_
  refine W.widen (k := 0) (n := 0) (Nat.le_of_ble_eq_true rfl) (Nat.le_of_ble_eq_true rfl) ?_
  exact W.iret (v := 0) hx hb hr (fun t ht hW => ⟨⟨0, (), rfl, rfl, trivial⟩, hS.F ht⟩) hS.2.2 dX9_sum_37

set_option maxHeartbeats 4000000 in
set_option maxRecDepth 100000 in
theorem c_twinsOf (l : Launch) (G : va_G) (y : Nat → ClassId) (sz : Nat) (h0 : Nat) (ak : Nat) (av : Nat) (ae : Nat) (ad : Nat)  : Met l yX9_twinsOf wsX9_twinsOf ({ frames := 0, cells := 0, slots := 0, locals := 0 }) (nq_P G y sz [.ref h0, .int 0] [(h0, .inr (9, [.ref ak, .ref av, .ref ae, .ref ad, .int 1]))]) (va_Qi (fun (r : Int32) (_ : Unit) => r = 0) (fun _ _ => True) (va_A [] sz)) 0 0 (va_A [] sz) := by
  refine Met.ofW (cc := cX9_twinsOf) (maxL := 4) (ret := (some .int)) (by decide) rfl ?_
  intro p e s m args below meth c s₁ B hml hv
  obtain ⟨rfl, hsz, hP, hK, hD0⟩ := hv
  have hx := B.exec
  have hb := B.bytes
  have hr := B.returns
  have hts := atoms_spec (ws := wsX9_twinsOf) B.pre
  have hown : s.vm.findClass RX9 = some m.cls := findClass_of_methodNamed B.named
  have hlocks := B.notSynchronized
  subst hsz
  have hD := hD0
  have hA : ∀ q : Nat, s.heap.size ≤ q → va_A [] s.heap.size q := fun q h => Or.inr h
  have hS : va_S (va_A [] s.heap.size) s.heap s.heap [] := va_S.rf
  have hP : va_P G vwCl [(h0, .inr (9, [.ref ak, .ref av, .ref ae, .ref ad, .int 1]))] s.heap := hP
  have inX9 : ∀ w ∈ wsX90, w ∈ wsX9_twinsOf := by decide +kernel
  have hl := lv_entry ([.ref h0, .int 0]) (n := 4) (Nat.le_of_ble_eq_true rfl)
  rw [lg_entry_eq]
  generalize (lg_sl ([.ref h0, .int 0]) ++ List.replicate (4 - (lg_sl ([.ref h0, .int 0])).length) Slot.unset).toArray = ls at hl ⊢
  have hl : lv_has ls 4 [(0, .ref h0), (1, .int 0)] := hl
  refine lv_iconst (v := 0) hx hb dX9_twinsOf_0 (by decide) ?_
  refine lv_istore_n (lv' := [(2, .int 0), (0, .ref h0), (1, .int 0)]) hx hb dX9_twinsOf_1 rfl hl (by decide) rfl (fun ls hl => ?_)
  refine lv_iconst (v := 0) hx hb dX9_twinsOf_2 (by decide) ?_
  refine lv_istore_n (lv' := [(3, .int 0), (2, .int 0), (0, .ref h0), (1, .int 0)]) hx hb dX9_twinsOf_3 rfl hl (by decide) rfl (fun ls hl => ?_)
  refine lv_iload_n hx hb dX9_twinsOf_4 rfl (lv_at hl 0 rfl) ?_
  refine lv_aload_n hx hb dX9_twinsOf_5 rfl (lv_at hl 2 rfl) ?_
  refine va_get (D := G) (ci := 9) (v := .int 1) (C := RX9) (T := TX9) (N := 5) hx hb hts inX9 hown hK.1 hP 0 rfl rfl 4 (by decide) (hts (.fieldLink RX9 24 "NestQuery$Tree" "size" "I") (by decide +kernel)) (fun _ h9 => h9) rfl dX9_twinsOf_6 ?_
  refine lv_icmp_ge (tgt := 37) hx hb dX9_twinsOf_9 (by decide) (fun c_1 => absurd c_1 (by decide)) (fun _ => ?_)
  refine lv_iload_n hx hb dX9_twinsOf_12 rfl (lv_at hl 0 rfl) ?_
  refine lv_iload_n hx hb dX9_twinsOf_13 rfl (lv_at hl 3 rfl) ?_
  refine lv_icmp_eq (tgt := 31) hx hb dX9_twinsOf_14 (by decide) (fun _ => ?_) (fun c_2 => absurd c_2 (by decide))
  refine lv_iinc (v := 1) (lv' := [(3, .int 1), (2, .int 0), (0, .ref h0), (1, .int 0)]) hx hb dX9_twinsOf_31 hl (k := 0) rfl (by decide) (by decide) rfl (fun ls hl => ?_)
  refine lv_goto (tgt := 4) hx hb dX9_twinsOf_34 (by decide) ?_
  refine lv_iload_n hx hb dX9_twinsOf_4 rfl (lv_at hl 0 rfl) ?_
  refine lv_aload_n hx hb dX9_twinsOf_5 rfl (lv_at hl 2 rfl) ?_
  refine va_get (D := G) (ci := 9) (v := .int 1) (C := RX9) (T := TX9) (N := 5) hx hb hts inX9 hown hK.1 hP 0 rfl rfl 4 (by decide) (hts (.fieldLink RX9 24 "NestQuery$Tree" "size" "I") (by decide +kernel)) (fun _ h9 => h9) rfl dX9_twinsOf_6 ?_
  refine lv_icmp_ge (tgt := 37) hx hb dX9_twinsOf_9 (by decide) (fun _ => ?_) (fun c_3 => absurd c_3 (by decide))
  refine lv_iload_n hx hb dX9_twinsOf_37 rfl (lv_at hl 1 rfl) ?_
  refine W.widen (k := 0) (n := 0) (Nat.le_of_ble_eq_true rfl) (Nat.le_of_ble_eq_true rfl) ?_
  exact W.iret (v := 0) hx hb hr (fun t ht hW => ⟨⟨0, (), rfl, rfl, trivial⟩, hS.F ht⟩) hS.2.2 dX9_twinsOf_38

set_option maxHeartbeats 4000000 in
set_option maxRecDepth 100000 in
theorem c_unlike (l : Launch) (G : va_G) (y : Nat → ClassId) (sz : Nat) (h0 : Nat) (ak : Nat) (av : Nat) (ae : Nat) (ad : Nat)  : Met l yX9_unlike wsX9_unlike ({ frames := 0, cells := 0, slots := 0, locals := 0 }) (nq_P G y sz [.ref h0] [(h0, .inr (9, [.ref ak, .ref av, .ref ae, .ref ad, .int 1]))]) (va_Qi (fun (r : Int32) (_ : Unit) => r = 1) (fun _ _ => True) (va_A [] sz)) 0 0 (va_A [] sz) := by
  refine Met.ofW (cc := cX9_unlike) (maxL := 5) (ret := (some .int)) (by decide) rfl ?_
  intro p e s m args below meth c s₁ B hml hv
  obtain ⟨rfl, hsz, hP, hK, hD0⟩ := hv
  have hx := B.exec
  have hb := B.bytes
  have hr := B.returns
  have hts := atoms_spec (ws := wsX9_unlike) B.pre
  have hown : s.vm.findClass RX9 = some m.cls := findClass_of_methodNamed B.named
  have hlocks := B.notSynchronized
  subst hsz
  have hD := hD0
  have hA : ∀ q : Nat, s.heap.size ≤ q → va_A [] s.heap.size q := fun q h => Or.inr h
  have hS : va_S (va_A [] s.heap.size) s.heap s.heap [] := va_S.rf
  have hP : va_P G vwCl [(h0, .inr (9, [.ref ak, .ref av, .ref ae, .ref ad, .int 1]))] s.heap := hP
  have inX9 : ∀ w ∈ wsX90, w ∈ wsX9_unlike := by decide +kernel
  have hl := lv_entry ([.ref h0]) (n := 5) (Nat.le_of_ble_eq_true rfl)
  rw [lg_entry_eq]
  generalize (lg_sl ([.ref h0]) ++ List.replicate (5 - (lg_sl ([.ref h0])).length) Slot.unset).toArray = ls at hl ⊢
  have hl : lv_has ls 5 [(0, .ref h0)] := hl
  refine lv_iconst (v := 0) hx hb dX9_unlike_0 (by decide) ?_
  refine lv_istore_n (lv' := [(1, .int 0), (0, .ref h0)]) hx hb dX9_unlike_1 rfl hl (by decide) rfl (fun ls hl => ?_)
  refine lv_iconst (v := 0) hx hb dX9_unlike_2 (by decide) ?_
  refine lv_istore_n (lv' := [(2, .int 0), (1, .int 0), (0, .ref h0)]) hx hb dX9_unlike_3 rfl hl (by decide) rfl (fun ls hl => ?_)
  refine lv_iload_n hx hb dX9_unlike_4 rfl (lv_at hl 0 rfl) ?_
  refine lv_aload_n hx hb dX9_unlike_5 rfl (lv_at hl 2 rfl) ?_
  refine va_get (D := G) (ci := 9) (v := .int 1) (C := RX9) (T := TX9) (N := 5) hx hb hts inX9 hown hK.1 hP 0 rfl rfl 4 (by decide) (hts (.fieldLink RX9 24 "NestQuery$Tree" "size" "I") (by decide +kernel)) (fun _ h9 => h9) rfl dX9_unlike_6 ?_
  refine lv_icmp_ge (tgt := 64) hx hb dX9_unlike_9 (by decide) (fun c_1 => absurd c_1 (by decide)) (fun _ => ?_)
  refine lv_iconst (v := 1) hx hb dX9_unlike_12 (by decide) ?_
  refine lv_istore_n (lv' := [(3, .int 1), (2, .int 0), (1, .int 0), (0, .ref h0)]) hx hb dX9_unlike_13 rfl hl (by decide) rfl (fun ls hl => ?_)
  refine lv_iconst (v := 0) hx hb dX9_unlike_14 (by decide) ?_
  refine lv_istore (lv' := [(4, .int 0), (3, .int 1), (2, .int 0), (1, .int 0), (0, .ref h0)]) hx hb dX9_unlike_15 hl (by decide) rfl (fun ls hl => ?_)
  refine lv_iload hx hb dX9_unlike_17 (lv_at hl 0 rfl) ?_
  refine lv_iload_n hx hb dX9_unlike_19 rfl (lv_at hl 2 rfl) ?_
  refine lv_icmp_ge (tgt := 51) hx hb dX9_unlike_20 (by decide) (fun _ => ?_) (fun c_2 => absurd c_2 (by decide))
  refine lv_iload_n hx hb dX9_unlike_51 rfl (lv_at hl 1 rfl) ?_
  refine lv_if_eq (tgt := 58) hx hb dX9_unlike_52 (by decide) (fun c_3 => absurd c_3 (by decide)) (fun _ => ?_)
  refine lv_iinc (v := 1) (lv' := [(1, .int 1), (4, .int 0), (3, .int 1), (2, .int 0), (0, .ref h0)]) hx hb dX9_unlike_55 hl (k := 3) rfl (by decide) (by decide) rfl (fun ls hl => ?_)
  refine lv_iinc (v := 1) (lv' := [(2, .int 1), (1, .int 1), (4, .int 0), (3, .int 1), (0, .ref h0)]) hx hb dX9_unlike_58 hl (k := 3) rfl (by decide) (by decide) rfl (fun ls hl => ?_)
  refine lv_goto (tgt := 4) hx hb dX9_unlike_61 (by decide) ?_
  refine lv_iload_n hx hb dX9_unlike_4 rfl (lv_at hl 0 rfl) ?_
  refine lv_aload_n hx hb dX9_unlike_5 rfl (lv_at hl 4 rfl) ?_
  refine va_get (D := G) (ci := 9) (v := .int 1) (C := RX9) (T := TX9) (N := 5) hx hb hts inX9 hown hK.1 hP 0 rfl rfl 4 (by decide) (hts (.fieldLink RX9 24 "NestQuery$Tree" "size" "I") (by decide +kernel)) (fun _ h9 => h9) rfl dX9_unlike_6 ?_
  refine lv_icmp_ge (tgt := 64) hx hb dX9_unlike_9 (by decide) (fun _ => ?_) (fun c_4 => absurd c_4 (by decide))
  refine lv_iload_n hx hb dX9_unlike_64 rfl (lv_at hl 1 rfl) ?_
  refine W.widen (k := 0) (n := 0) (Nat.le_of_ble_eq_true rfl) (Nat.le_of_ble_eq_true rfl) ?_
  exact W.iret (v := 1) hx hb hr (fun t ht hW => ⟨⟨1, (), rfl, rfl, trivial⟩, hS.F ht⟩) hS.2.2 dX9_unlike_65
