set_option maxHeartbeats 4000000 in
set_option maxRecDepth 100000 in
theorem i_Tree60 (l : Launch) (G : va_G) (y : Nat → ClassId) (sz : Nat) (h0 : Nat)  : Met l yX9_init wsX9_init ({ frames := 1, cells := 4, slots := 240, locals := 20 }) (nq_P G y sz [.ref h0, .int 60] [(h0, .inr (9, [.null, .null, .null, .null, .int 0]))]) (va_Qv (fun (_ : Nat × Nat × Nat × Nat) => True) (fun (u : Nat × Nat × Nat × Nat) t9 => va_P G vwCl ([(h0, .inr (9, [.ref u.1, .ref u.2.1, .ref u.2.2.1, .ref u.2.2.2, .int 0])), (u.1, .inl (y 0, 60, .inl (fun _ => 0))), (u.2.1, .inl (y 0, 60, .inl (fun _ => 0))), (u.2.2.1, .inl (y 0, 60, .inl (fun _ => 0))), (u.2.2.2, .inl (y 0, 60, .inl (fun _ => 0)))]) t9.heap ∧ va_D (va_A [(h0, .inr (9, [.null, .null, .null, .null, .int 0]))] sz) ([(h0, .inr (9, [.ref u.1, .ref u.2.1, .ref u.2.2.1, .ref u.2.2.2, .int 0])), (u.1, .inl (y 0, 60, .inl (fun _ => 0))), (u.2.1, .inl (y 0, 60, .inl (fun _ => 0))), (u.2.2.1, .inl (y 0, 60, .inl (fun _ => 0))), (u.2.2.2, .inl (y 0, 60, .inl (fun _ => 0)))])) (va_A [(h0, .inr (9, [.null, .null, .null, .null, .int 0]))] sz)) 4 240 (va_A [(h0, .inr (9, [.null, .null, .null, .null, .int 0]))] sz) := by
  refine Met.ofW (cc := cX9_init) (maxL := 3) (ret := none) (by decide) rfl ?_
  intro p e s m args below meth c s₁ B hml hv
  obtain ⟨rfl, hsz, hP, hK, hD0⟩ := hv
  have hx := B.exec
  have hb := B.bytes
  have hr := B.returns
  have hts := atoms_spec (ws := wsX9_init) B.pre
  have hown : s.vm.findClass RX9 = some m.cls := findClass_of_methodNamed B.named
  have hlocks := B.notSynchronized
  have hin : meth.name = "<init>" := (name_of_methodNamed B.named B.method).1
  subst hsz
  have hD := hD0.self (sz := s.heap.size)
  generalize hAe : va_A [(h0, .inr (9, [.null, .null, .null, .null, .int 0]))] s.heap.size = A at hD ⊢
  have hA : ∀ q : Nat, s.heap.size ≤ q → A q := fun q h => by rw [← hAe]; exact Or.inr h
  have hS : va_S A s.heap s.heap [] := va_S.rf
  have hP : va_P G vwCl [(h0, .inr (9, [.null, .null, .null, .null, .int 0]))] s.heap := hP
  have inX9 : ∀ w ∈ wsX90, w ∈ wsX9_init := by decide +kernel
  have hl := lv_entry ([.ref h0, .int 60]) (n := 3) (Nat.le_of_ble_eq_true rfl)
  rw [lg_entry_eq]
  generalize (lg_sl ([.ref h0, .int 60]) ++ List.replicate (3 - (lg_sl ([.ref h0, .int 60])).length) Slot.unset).toArray = ls at hl ⊢
  have hl : lv_has ls 3 [(0, .ref h0), (1, .int 60)] := hl
  refine lv_aload_n hx hb dX9_init_0 rfl (lv_at hl 0 rfl) ?_
  refine W.objInit hx hb hown (hts (.methodLink RX9 3 objectInit) (by decide +kernel)) (hts (.instanceMethod objectInit) (by decide +kernel)) (hts (.code objectInit ⟨#[0xb1]⟩ 1 none) (by decide +kernel)) rfl (by rw [hml]; exact hl.1) rfl dX9_init_1 (Nat.le_of_ble_eq_true rfl) (Nat.le_of_ble_eq_true rfl) ?_
  refine W.eq (g2 := F0 m 4 ls []) rfl ?_
  refine lv_iload_n hx hb dX9_init_4 rfl (lv_at hl 1 rfl) ?_
  refine lv_iconst (v := 1) hx hb dX9_init_5 (by decide) ?_
  refine lv_icmp_ge (tgt := 13) hx hb dX9_init_6 (by decide) (fun _ => ?_) (fun c_1 => absurd c_1 (by decide))
  refine lv_iload_n hx hb dX9_init_13 rfl (lv_at hl 1 rfl) ?_
  refine lv_istore_n (lv' := [(2, .int 60), (0, .ref h0), (1, .int 60)]) hx hb dX9_init_14 rfl hl (by decide) rfl (fun ls hl => ?_)
  refine lv_aload_n hx hb dX9_init_15 rfl (lv_at hl 1 rfl) ?_
  refine lv_iload_n hx hb dX9_init_16 rfl (lv_at hl 0 rfl) ?_
  refine nq_newa (atype := .int) (ty := .int) (a0 := (60, .inl (fun _ => 0))) (N' := 60) (n := 60) hx hb (hts (.arrayClass .int) (by decide +kernel)) rfl hK.1 0 rfl hP hD hS hA (fun _ => rfl) (by decide) rfl (Nat.le_of_ble_eq_true rfl) (Nat.le_of_ble_eq_true rfl) (Nat.le_of_ble_eq_true rfl) dX9_init_17 (fun q_2 H hP hD hS => ?_)
  have hP : va_P G vwCl [(h0, .inr (9, [.null, .null, .null, .null, .int 0])), (q_2, .inl (y 0, 60, .inl (fun _ => 0)))] H := hP
  have hD : va_D A [(h0, .inr (9, [.null, .null, .null, .null, .int 0])), (q_2, .inl (y 0, 60, .inl (fun _ => 0)))] := hD
  refine va_putF (D := G) (ci := 9) (v := .ref q_2) (ty := .array .int) (C := RX9) (T := TX9) (N := 5) hx hb hts inX9 tyX9 tyX9_ok nmX9 hown hK.1 hP hD hS 0 rfl rfl 0 (by decide) (hts (.fieldLink RX9 9 "NestQuery$Tree" "kinds" "[I") (by decide +kernel)) (fun _ h9 => h9) rfl hin rfl (by decide +kernel) rfl rfl (Nat.le_of_ble_eq_true rfl) dX9_init_19 (fun H locs hP hD hS => ?_)
  have hP : va_P G vwCl [(h0, .inr (9, [.ref q_2, .null, .null, .null, .int 0])), (q_2, .inl (y 0, 60, .inl (fun _ => 0)))] H := hP
  have hD : va_D A [(h0, .inr (9, [.ref q_2, .null, .null, .null, .int 0])), (q_2, .inl (y 0, 60, .inl (fun _ => 0)))] := hD
  refine lv_aload_n hx hb dX9_init_22 rfl (lv_at hl 1 rfl) ?_
  refine lv_iload_n hx hb dX9_init_23 rfl (lv_at hl 0 rfl) ?_
  refine nq_newa (atype := .int) (ty := .int) (a0 := (60, .inl (fun _ => 0))) (N' := 60) (n := 60) hx hb (hts (.arrayClass .int) (by decide +kernel)) rfl hK.1 0 rfl hP hD hS hA (fun _ => rfl) (by decide) rfl (Nat.le_of_ble_eq_true rfl) (Nat.le_of_ble_eq_true rfl) (Nat.le_of_ble_eq_true rfl) dX9_init_24 (fun q_3 H hP hD hS => ?_)
  have hP : va_P G vwCl [(h0, .inr (9, [.ref q_2, .null, .null, .null, .int 0])), (q_2, .inl (y 0, 60, .inl (fun _ => 0))), (q_3, .inl (y 0, 60, .inl (fun _ => 0)))] H := hP
  have hD : va_D A [(h0, .inr (9, [.ref q_2, .null, .null, .null, .int 0])), (q_2, .inl (y 0, 60, .inl (fun _ => 0))), (q_3, .inl (y 0, 60, .inl (fun _ => 0)))] := hD
  refine va_putF (D := G) (ci := 9) (v := .ref q_3) (ty := .array .int) (C := RX9) (T := TX9) (N := 5) hx hb hts inX9 tyX9 tyX9_ok nmX9 hown hK.1 hP hD hS 0 rfl rfl 1 (by decide) (hts (.fieldLink RX9 15 "NestQuery$Tree" "values" "[I") (by decide +kernel)) (fun _ h9 => h9) rfl hin rfl (by decide +kernel) rfl rfl (Nat.le_of_ble_eq_true rfl) dX9_init_26 (fun H locs hP hD hS => ?_)
  have hP : va_P G vwCl [(h0, .inr (9, [.ref q_2, .ref q_3, .null, .null, .int 0])), (q_2, .inl (y 0, 60, .inl (fun _ => 0))), (q_3, .inl (y 0, 60, .inl (fun _ => 0)))] H := hP
  have hD : va_D A [(h0, .inr (9, [.ref q_2, .ref q_3, .null, .null, .int 0])), (q_2, .inl (y 0, 60, .inl (fun _ => 0))), (q_3, .inl (y 0, 60, .inl (fun _ => 0)))] := hD
  refine lv_aload_n hx hb dX9_init_29 rfl (lv_at hl 1 rfl) ?_
  refine lv_iload_n hx hb dX9_init_30 rfl (lv_at hl 0 rfl) ?_
  refine nq_newa (atype := .int) (ty := .int) (a0 := (60, .inl (fun _ => 0))) (N' := 60) (n := 60) hx hb (hts (.arrayClass .int) (by decide +kernel)) rfl hK.1 0 rfl hP hD hS hA (fun _ => rfl) (by decide) rfl (Nat.le_of_ble_eq_true rfl) (Nat.le_of_ble_eq_true rfl) (Nat.le_of_ble_eq_true rfl) dX9_init_31 (fun q_4 H hP hD hS => ?_)
  have hP : va_P G vwCl [(h0, .inr (9, [.ref q_2, .ref q_3, .null, .null, .int 0])), (q_2, .inl (y 0, 60, .inl (fun _ => 0))), (q_3, .inl (y 0, 60, .inl (fun _ => 0))), (q_4, .inl (y 0, 60, .inl (fun _ => 0)))] H := hP
  have hD : va_D A [(h0, .inr (9, [.ref q_2, .ref q_3, .null, .null, .int 0])), (q_2, .inl (y 0, 60, .inl (fun _ => 0))), (q_3, .inl (y 0, 60, .inl (fun _ => 0))), (q_4, .inl (y 0, 60, .inl (fun _ => 0)))] := hD
  refine va_putF (D := G) (ci := 9) (v := .ref q_4) (ty := .array .int) (C := RX9) (T := TX9) (N := 5) hx hb hts inX9 tyX9 tyX9_ok nmX9 hown hK.1 hP hD hS 0 rfl rfl 2 (by decide) (hts (.fieldLink RX9 18 "NestQuery$Tree" "keys" "[I") (by decide +kernel)) (fun _ h9 => h9) rfl hin rfl (by decide +kernel) rfl rfl (Nat.le_of_ble_eq_true rfl) dX9_init_33 (fun H locs hP hD hS => ?_)
  have hP : va_P G vwCl [(h0, .inr (9, [.ref q_2, .ref q_3, .ref q_4, .null, .int 0])), (q_2, .inl (y 0, 60, .inl (fun _ => 0))), (q_3, .inl (y 0, 60, .inl (fun _ => 0))), (q_4, .inl (y 0, 60, .inl (fun _ => 0)))] H := hP
  have hD : va_D A [(h0, .inr (9, [.ref q_2, .ref q_3, .ref q_4, .null, .int 0])), (q_2, .inl (y 0, 60, .inl (fun _ => 0))), (q_3, .inl (y 0, 60, .inl (fun _ => 0))), (q_4, .inl (y 0, 60, .inl (fun _ => 0)))] := hD
  refine lv_aload_n hx hb dX9_init_36 rfl (lv_at hl 1 rfl) ?_
  refine lv_iload_n hx hb dX9_init_37 rfl (lv_at hl 0 rfl) ?_
  refine nq_newa (atype := .int) (ty := .int) (a0 := (60, .inl (fun _ => 0))) (N' := 60) (n := 60) hx hb (hts (.arrayClass .int) (by decide +kernel)) rfl hK.1 0 rfl hP hD hS hA (fun _ => rfl) (by decide) rfl (Nat.le_of_ble_eq_true rfl) (Nat.le_of_ble_eq_true rfl) (Nat.le_of_ble_eq_true rfl) dX9_init_38 (fun q_5 H hP hD hS => ?_)
  have hP : va_P G vwCl [(h0, .inr (9, [.ref q_2, .ref q_3, .ref q_4, .null, .int 0])), (q_2, .inl (y 0, 60, .inl (fun _ => 0))), (q_3, .inl (y 0, 60, .inl (fun _ => 0))), (q_4, .inl (y 0, 60, .inl (fun _ => 0))), (q_5, .inl (y 0, 60, .inl (fun _ => 0)))] H := hP
  have hD : va_D A [(h0, .inr (9, [.ref q_2, .ref q_3, .ref q_4, .null, .int 0])), (q_2, .inl (y 0, 60, .inl (fun _ => 0))), (q_3, .inl (y 0, 60, .inl (fun _ => 0))), (q_4, .inl (y 0, 60, .inl (fun _ => 0))), (q_5, .inl (y 0, 60, .inl (fun _ => 0)))] := hD
  refine va_putF (D := G) (ci := 9) (v := .ref q_5) (ty := .array .int) (C := RX9) (T := TX9) (N := 5) hx hb hts inX9 tyX9 tyX9_ok nmX9 hown hK.1 hP hD hS 0 rfl rfl 3 (by decide) (hts (.fieldLink RX9 21 "NestQuery$Tree" "depths" "[I") (by decide +kernel)) (fun _ h9 => h9) rfl hin rfl (by decide +kernel) rfl rfl (Nat.le_of_ble_eq_true rfl) dX9_init_40 (fun H locs hP hD hS => ?_)
  have hP : va_P G vwCl [(h0, .inr (9, [.ref q_2, .ref q_3, .ref q_4, .ref q_5, .int 0])), (q_2, .inl (y 0, 60, .inl (fun _ => 0))), (q_3, .inl (y 0, 60, .inl (fun _ => 0))), (q_4, .inl (y 0, 60, .inl (fun _ => 0))), (q_5, .inl (y 0, 60, .inl (fun _ => 0)))] H := hP
  have hD : va_D A [(h0, .inr (9, [.ref q_2, .ref q_3, .ref q_4, .ref q_5, .int 0])), (q_2, .inl (y 0, 60, .inl (fun _ => 0))), (q_3, .inl (y 0, 60, .inl (fun _ => 0))), (q_4, .inl (y 0, 60, .inl (fun _ => 0))), (q_5, .inl (y 0, 60, .inl (fun _ => 0)))] := hD
  have hP9 := hP.sub (ws' := [(h0, .inr (9, [.ref q_2, .ref q_3, .ref q_4, .ref q_5, .int 0])), (q_2, .inl (y 0, 60, .inl (fun _ => 0))), (q_3, .inl (y 0, 60, .inl (fun _ => 0))), (q_4, .inl (y 0, 60, .inl (fun _ => 0))), (q_5, .inl (y 0, 60, .inl (fun _ => 0)))]) [0, 1, 2, 3, 4] rfl
  have hD9 := hD.sub (ws' := [(h0, .inr (9, [.ref q_2, .ref q_3, .ref q_4, .ref q_5, .int 0])), (q_2, .inl (y 0, 60, .inl (fun _ => 0))), (q_3, .inl (y 0, 60, .inl (fun _ => 0))), (q_4, .inl (y 0, 60, .inl (fun _ => 0))), (q_5, .inl (y 0, 60, .inl (fun _ => 0)))]) [0, 1, 2, 3, 4] (by decide) rfl
  refine W.widen (k := 4) (n := 240) (Nat.le_of_ble_eq_true rfl) (Nat.le_of_ble_eq_true rfl) ?_
  exact W.vret hx hb hr (fun t ht hW => ⟨⟨(q_2, q_3, q_4, q_5), rfl, trivial, by rw [ht]; exact hP9, by first | exact hD9 | (rw [hAe]; exact hD9)⟩, hS.F ht⟩) hS.2.2 dX9_init_43

set_option maxHeartbeats 4000000 in
set_option maxRecDepth 100000 in
theorem i_Tree128 (l : Launch) (G : va_G) (y : Nat → ClassId) (sz : Nat) (h0 : Nat)  : Met l yX9_init wsX9_init ({ frames := 1, cells := 4, slots := 512, locals := 20 }) (nq_P G y sz [.ref h0, .int 128] [(h0, .inr (9, [.null, .null, .null, .null, .int 0]))]) (va_Qv (fun (_ : Nat × Nat × Nat × Nat) => True) (fun (u : Nat × Nat × Nat × Nat) t9 => va_P G vwCl ([(h0, .inr (9, [.ref u.1, .ref u.2.1, .ref u.2.2.1, .ref u.2.2.2, .int 0])), (u.1, .inl (y 0, 128, .inl (fun _ => 0))), (u.2.1, .inl (y 0, 128, .inl (fun _ => 0))), (u.2.2.1, .inl (y 0, 128, .inl (fun _ => 0))), (u.2.2.2, .inl (y 0, 128, .inl (fun _ => 0)))]) t9.heap ∧ va_D (va_A [(h0, .inr (9, [.null, .null, .null, .null, .int 0]))] sz) ([(h0, .inr (9, [.ref u.1, .ref u.2.1, .ref u.2.2.1, .ref u.2.2.2, .int 0])), (u.1, .inl (y 0, 128, .inl (fun _ => 0))), (u.2.1, .inl (y 0, 128, .inl (fun _ => 0))), (u.2.2.1, .inl (y 0, 128, .inl (fun _ => 0))), (u.2.2.2, .inl (y 0, 128, .inl (fun _ => 0)))])) (va_A [(h0, .inr (9, [.null, .null, .null, .null, .int 0]))] sz)) 4 512 (va_A [(h0, .inr (9, [.null, .null, .null, .null, .int 0]))] sz) := by
  refine Met.ofW (cc := cX9_init) (maxL := 3) (ret := none) (by decide) rfl ?_
  intro p e s m args below meth c s₁ B hml hv
  obtain ⟨rfl, hsz, hP, hK, hD0⟩ := hv
  have hx := B.exec
  have hb := B.bytes
  have hr := B.returns
  have hts := atoms_spec (ws := wsX9_init) B.pre
  have hown : s.vm.findClass RX9 = some m.cls := findClass_of_methodNamed B.named
  have hlocks := B.notSynchronized
  have hin : meth.name = "<init>" := (name_of_methodNamed B.named B.method).1
  subst hsz
  have hD := hD0.self (sz := s.heap.size)
  generalize hAe : va_A [(h0, .inr (9, [.null, .null, .null, .null, .int 0]))] s.heap.size = A at hD ⊢
  have hA : ∀ q : Nat, s.heap.size ≤ q → A q := fun q h => by rw [← hAe]; exact Or.inr h
  have hS : va_S A s.heap s.heap [] := va_S.rf
  have hP : va_P G vwCl [(h0, .inr (9, [.null, .null, .null, .null, .int 0]))] s.heap := hP
  have inX9 : ∀ w ∈ wsX90, w ∈ wsX9_init := by decide +kernel
  have hl := lv_entry ([.ref h0, .int 128]) (n := 3) (Nat.le_of_ble_eq_true rfl)
  rw [lg_entry_eq]
  generalize (lg_sl ([.ref h0, .int 128]) ++ List.replicate (3 - (lg_sl ([.ref h0, .int 128])).length) Slot.unset).toArray = ls at hl ⊢
  have hl : lv_has ls 3 [(0, .ref h0), (1, .int 128)] := hl
  refine lv_aload_n hx hb dX9_init_0 rfl (lv_at hl 0 rfl) ?_
  refine W.objInit hx hb hown (hts (.methodLink RX9 3 objectInit) (by decide +kernel)) (hts (.instanceMethod objectInit) (by decide +kernel)) (hts (.code objectInit ⟨#[0xb1]⟩ 1 none) (by decide +kernel)) rfl (by rw [hml]; exact hl.1) rfl dX9_init_1 (Nat.le_of_ble_eq_true rfl) (Nat.le_of_ble_eq_true rfl) ?_
  refine W.eq (g2 := F0 m 4 ls []) rfl ?_
  refine lv_iload_n hx hb dX9_init_4 rfl (lv_at hl 1 rfl) ?_
  refine lv_iconst (v := 1) hx hb dX9_init_5 (by decide) ?_
  refine lv_icmp_ge (tgt := 13) hx hb dX9_init_6 (by decide) (fun _ => ?_) (fun c_1 => absurd c_1 (by decide))
  refine lv_iload_n hx hb dX9_init_13 rfl (lv_at hl 1 rfl) ?_
  refine lv_istore_n (lv' := [(2, .int 128), (0, .ref h0), (1, .int 128)]) hx hb dX9_init_14 rfl hl (by decide) rfl (fun ls hl => ?_)
  refine lv_aload_n hx hb dX9_init_15 rfl (lv_at hl 1 rfl) ?_
  refine lv_iload_n hx hb dX9_init_16 rfl (lv_at hl 0 rfl) ?_
  refine nq_newa (atype := .int) (ty := .int) (a0 := (128, .inl (fun _ => 0))) (N' := 128) (n := 128) hx hb (hts (.arrayClass .int) (by decide +kernel)) rfl hK.1 0 rfl hP hD hS hA (fun _ => rfl) (by decide) rfl (Nat.le_of_ble_eq_true rfl) (Nat.le_of_ble_eq_true rfl) (Nat.le_of_ble_eq_true rfl) dX9_init_17 (fun q_2 H hP hD hS => ?_)
  have hP : va_P G vwCl [(h0, .inr (9, [.null, .null, .null, .null, .int 0])), (q_2, .inl (y 0, 128, .inl (fun _ => 0)))] H := hP
  have hD : va_D A [(h0, .inr (9, [.null, .null, .null, .null, .int 0])), (q_2, .inl (y 0, 128, .inl (fun _ => 0)))] := hD
  refine va_putF (D := G) (ci := 9) (v := .ref q_2) (ty := .array .int) (C := RX9) (T := TX9) (N := 5) hx hb hts inX9 tyX9 tyX9_ok nmX9 hown hK.1 hP hD hS 0 rfl rfl 0 (by decide) (hts (.fieldLink RX9 9 "NestQuery$Tree" "kinds" "[I") (by decide +kernel)) (fun _ h9 => h9) rfl hin rfl (by decide +kernel) rfl rfl (Nat.le_of_ble_eq_true rfl) dX9_init_19 (fun H locs hP hD hS => ?_)
  have hP : va_P G vwCl [(h0, .inr (9, [.ref q_2, .null, .null, .null, .int 0])), (q_2, .inl (y 0, 128, .inl (fun _ => 0)))] H := hP
  have hD : va_D A [(h0, .inr (9, [.ref q_2, .null, .null, .null, .int 0])), (q_2, .inl (y 0, 128, .inl (fun _ => 0)))] := hD
  refine lv_aload_n hx hb dX9_init_22 rfl (lv_at hl 1 rfl) ?_
  refine lv_iload_n hx hb dX9_init_23 rfl (lv_at hl 0 rfl) ?_
  refine nq_newa (atype := .int) (ty := .int) (a0 := (128, .inl (fun _ => 0))) (N' := 128) (n := 128) hx hb (hts (.arrayClass .int) (by decide +kernel)) rfl hK.1 0 rfl hP hD hS hA (fun _ => rfl) (by decide) rfl (Nat.le_of_ble_eq_true rfl) (Nat.le_of_ble_eq_true rfl) (Nat.le_of_ble_eq_true rfl) dX9_init_24 (fun q_3 H hP hD hS => ?_)
  have hP : va_P G vwCl [(h0, .inr (9, [.ref q_2, .null, .null, .null, .int 0])), (q_2, .inl (y 0, 128, .inl (fun _ => 0))), (q_3, .inl (y 0, 128, .inl (fun _ => 0)))] H := hP
  have hD : va_D A [(h0, .inr (9, [.ref q_2, .null, .null, .null, .int 0])), (q_2, .inl (y 0, 128, .inl (fun _ => 0))), (q_3, .inl (y 0, 128, .inl (fun _ => 0)))] := hD
  refine va_putF (D := G) (ci := 9) (v := .ref q_3) (ty := .array .int) (C := RX9) (T := TX9) (N := 5) hx hb hts inX9 tyX9 tyX9_ok nmX9 hown hK.1 hP hD hS 0 rfl rfl 1 (by decide) (hts (.fieldLink RX9 15 "NestQuery$Tree" "values" "[I") (by decide +kernel)) (fun _ h9 => h9) rfl hin rfl (by decide +kernel) rfl rfl (Nat.le_of_ble_eq_true rfl) dX9_init_26 (fun H locs hP hD hS => ?_)
  have hP : va_P G vwCl [(h0, .inr (9, [.ref q_2, .ref q_3, .null, .null, .int 0])), (q_2, .inl (y 0, 128, .inl (fun _ => 0))), (q_3, .inl (y 0, 128, .inl (fun _ => 0)))] H := hP
  have hD : va_D A [(h0, .inr (9, [.ref q_2, .ref q_3, .null, .null, .int 0])), (q_2, .inl (y 0, 128, .inl (fun _ => 0))), (q_3, .inl (y 0, 128, .inl (fun _ => 0)))] := hD
  refine lv_aload_n hx hb dX9_init_29 rfl (lv_at hl 1 rfl) ?_
  refine lv_iload_n hx hb dX9_init_30 rfl (lv_at hl 0 rfl) ?_
  refine nq_newa (atype := .int) (ty := .int) (a0 := (128, .inl (fun _ => 0))) (N' := 128) (n := 128) hx hb (hts (.arrayClass .int) (by decide +kernel)) rfl hK.1 0 rfl hP hD hS hA (fun _ => rfl) (by decide) rfl (Nat.le_of_ble_eq_true rfl) (Nat.le_of_ble_eq_true rfl) (Nat.le_of_ble_eq_true rfl) dX9_init_31 (fun q_4 H hP hD hS => ?_)
  have hP : va_P G vwCl [(h0, .inr (9, [.ref q_2, .ref q_3, .null, .null, .int 0])), (q_2, .inl (y 0, 128, .inl (fun _ => 0))), (q_3, .inl (y 0, 128, .inl (fun _ => 0))), (q_4, .inl (y 0, 128, .inl (fun _ => 0)))] H := hP
  have hD : va_D A [(h0, .inr (9, [.ref q_2, .ref q_3, .null, .null, .int 0])), (q_2, .inl (y 0, 128, .inl (fun _ => 0))), (q_3, .inl (y 0, 128, .inl (fun _ => 0))), (q_4, .inl (y 0, 128, .inl (fun _ => 0)))] := hD
  refine va_putF (D := G) (ci := 9) (v := .ref q_4) (ty := .array .int) (C := RX9) (T := TX9) (N := 5) hx hb hts inX9 tyX9 tyX9_ok nmX9 hown hK.1 hP hD hS 0 rfl rfl 2 (by decide) (hts (.fieldLink RX9 18 "NestQuery$Tree" "keys" "[I") (by decide +kernel)) (fun _ h9 => h9) rfl hin rfl (by decide +kernel) rfl rfl (Nat.le_of_ble_eq_true rfl) dX9_init_33 (fun H locs hP hD hS => ?_)
  have hP : va_P G vwCl [(h0, .inr (9, [.ref q_2, .ref q_3, .ref q_4, .null, .int 0])), (q_2, .inl (y 0, 128, .inl (fun _ => 0))), (q_3, .inl (y 0, 128, .inl (fun _ => 0))), (q_4, .inl (y 0, 128, .inl (fun _ => 0)))] H := hP
  have hD : va_D A [(h0, .inr (9, [.ref q_2, .ref q_3, .ref q_4, .null, .int 0])), (q_2, .inl (y 0, 128, .inl (fun _ => 0))), (q_3, .inl (y 0, 128, .inl (fun _ => 0))), (q_4, .inl (y 0, 128, .inl (fun _ => 0)))] := hD
  refine lv_aload_n hx hb dX9_init_36 rfl (lv_at hl 1 rfl) ?_
  refine lv_iload_n hx hb dX9_init_37 rfl (lv_at hl 0 rfl) ?_
  refine nq_newa (atype := .int) (ty := .int) (a0 := (128, .inl (fun _ => 0))) (N' := 128) (n := 128) hx hb (hts (.arrayClass .int) (by decide +kernel)) rfl hK.1 0 rfl hP hD hS hA (fun _ => rfl) (by decide) rfl (Nat.le_of_ble_eq_true rfl) (Nat.le_of_ble_eq_true rfl) (Nat.le_of_ble_eq_true rfl) dX9_init_38 (fun q_5 H hP hD hS => ?_)
  have hP : va_P G vwCl [(h0, .inr (9, [.ref q_2, .ref q_3, .ref q_4, .null, .int 0])), (q_2, .inl (y 0, 128, .inl (fun _ => 0))), (q_3, .inl (y 0, 128, .inl (fun _ => 0))), (q_4, .inl (y 0, 128, .inl (fun _ => 0))), (q_5, .inl (y 0, 128, .inl (fun _ => 0)))] H := hP
  have hD : va_D A [(h0, .inr (9, [.ref q_2, .ref q_3, .ref q_4, .null, .int 0])), (q_2, .inl (y 0, 128, .inl (fun _ => 0))), (q_3, .inl (y 0, 128, .inl (fun _ => 0))), (q_4, .inl (y 0, 128, .inl (fun _ => 0))), (q_5, .inl (y 0, 128, .inl (fun _ => 0)))] := hD
  refine va_putF (D := G) (ci := 9) (v := .ref q_5) (ty := .array .int) (C := RX9) (T := TX9) (N := 5) hx hb hts inX9 tyX9 tyX9_ok nmX9 hown hK.1 hP hD hS 0 rfl rfl 3 (by decide) (hts (.fieldLink RX9 21 "NestQuery$Tree" "depths" "[I") (by decide +kernel)) (fun _ h9 => h9) rfl hin rfl (by decide +kernel) rfl rfl (Nat.le_of_ble_eq_true rfl) dX9_init_40 (fun H locs hP hD hS => ?_)
  have hP : va_P G vwCl [(h0, .inr (9, [.ref q_2, .ref q_3, .ref q_4, .ref q_5, .int 0])), (q_2, .inl (y 0, 128, .inl (fun _ => 0))), (q_3, .inl (y 0, 128, .inl (fun _ => 0))), (q_4, .inl (y 0, 128, .inl (fun _ => 0))), (q_5, .inl (y 0, 128, .inl (fun _ => 0)))] H := hP
  have hD : va_D A [(h0, .inr (9, [.ref q_2, .ref q_3, .ref q_4, .ref q_5, .int 0])), (q_2, .inl (y 0, 128, .inl (fun _ => 0))), (q_3, .inl (y 0, 128, .inl (fun _ => 0))), (q_4, .inl (y 0, 128, .inl (fun _ => 0))), (q_5, .inl (y 0, 128, .inl (fun _ => 0)))] := hD
  have hP9 := hP.sub (ws' := [(h0, .inr (9, [.ref q_2, .ref q_3, .ref q_4, .ref q_5, .int 0])), (q_2, .inl (y 0, 128, .inl (fun _ => 0))), (q_3, .inl (y 0, 128, .inl (fun _ => 0))), (q_4, .inl (y 0, 128, .inl (fun _ => 0))), (q_5, .inl (y 0, 128, .inl (fun _ => 0)))]) [0, 1, 2, 3, 4] rfl
  have hD9 := hD.sub (ws' := [(h0, .inr (9, [.ref q_2, .ref q_3, .ref q_4, .ref q_5, .int 0])), (q_2, .inl (y 0, 128, .inl (fun _ => 0))), (q_3, .inl (y 0, 128, .inl (fun _ => 0))), (q_4, .inl (y 0, 128, .inl (fun _ => 0))), (q_5, .inl (y 0, 128, .inl (fun _ => 0)))]) [0, 1, 2, 3, 4] (by decide) rfl
  refine W.widen (k := 4) (n := 512) (Nat.le_of_ble_eq_true rfl) (Nat.le_of_ble_eq_true rfl) ?_
  exact W.vret hx hb hr (fun t ht hW => ⟨⟨(q_2, q_3, q_4, q_5), rfl, trivial, by rw [ht]; exact hP9, by first | exact hD9 | (rw [hAe]; exact hD9)⟩, hS.F ht⟩) hS.2.2 dX9_init_43

set_option maxHeartbeats 4000000 in
set_option maxRecDepth 100000 in
theorem i_Path (l : Launch) (G : va_G) (y : Nat → ClassId) (sz : Nat) (h0 : Nat)  : Met l yX4_init wsX4_init ({ frames := 1, cells := 10, slots := 600, locals := 20 }) (nq_P G y sz [.ref h0] [(h0, .inr (4, [.null, .null, .null, .int 0, .null, .int 0, .null, .null, .int 0, .null, .null, .null, .null, .int 0]))]) (va_Qv (fun (_ : Nat × Nat × Nat × Nat × Nat × Nat × Nat × Nat × Nat × Nat) => True) (fun (u : Nat × Nat × Nat × Nat × Nat × Nat × Nat × Nat × Nat × Nat) t9 => va_P G vwCl ([(h0, .inr (4, [.ref u.1, .ref u.2.1, .ref u.2.2.1, .int 0, .ref u.2.2.2.1, .int 0, .ref u.2.2.2.2.1, .ref u.2.2.2.2.2.1, .int 0, .ref u.2.2.2.2.2.2.1, .ref u.2.2.2.2.2.2.2.1, .ref u.2.2.2.2.2.2.2.2.1, .ref u.2.2.2.2.2.2.2.2.2, .int 0])), (u.1, .inl (y 0, 8, .inl (fun _ => 0))), (u.2.1, .inl (y 0, 8, .inl (fun _ => 0))), (u.2.2.1, .inl (y 0, 8, .inl (fun _ => 0))), (u.2.2.2.1, .inl (y 0, 128, .inl (fun _ => 0))), (u.2.2.2.2.1, .inl (y 2, 200, .inl (fun _ => 0))), (u.2.2.2.2.2.1, .inl (y 0, 200, .inl (fun _ => 0))), (u.2.2.2.2.2.2.1, .inl (y 0, 12, .inl (fun _ => 0))), (u.2.2.2.2.2.2.2.1, .inl (y 0, 12, .inl (fun _ => 0))), (u.2.2.2.2.2.2.2.2.1, .inl (y 0, 12, .inl (fun _ => 0))), (u.2.2.2.2.2.2.2.2.2, .inl (y 0, 12, .inl (fun _ => 0)))]) t9.heap ∧ va_D (va_A [(h0, .inr (4, [.null, .null, .null, .int 0, .null, .int 0, .null, .null, .int 0, .null, .null, .null, .null, .int 0]))] sz) ([(h0, .inr (4, [.ref u.1, .ref u.2.1, .ref u.2.2.1, .int 0, .ref u.2.2.2.1, .int 0, .ref u.2.2.2.2.1, .ref u.2.2.2.2.2.1, .int 0, .ref u.2.2.2.2.2.2.1, .ref u.2.2.2.2.2.2.2.1, .ref u.2.2.2.2.2.2.2.2.1, .ref u.2.2.2.2.2.2.2.2.2, .int 0])), (u.1, .inl (y 0, 8, .inl (fun _ => 0))), (u.2.1, .inl (y 0, 8, .inl (fun _ => 0))), (u.2.2.1, .inl (y 0, 8, .inl (fun _ => 0))), (u.2.2.2.1, .inl (y 0, 128, .inl (fun _ => 0))), (u.2.2.2.2.1, .inl (y 2, 200, .inl (fun _ => 0))), (u.2.2.2.2.2.1, .inl (y 0, 200, .inl (fun _ => 0))), (u.2.2.2.2.2.2.1, .inl (y 0, 12, .inl (fun _ => 0))), (u.2.2.2.2.2.2.2.1, .inl (y 0, 12, .inl (fun _ => 0))), (u.2.2.2.2.2.2.2.2.1, .inl (y 0, 12, .inl (fun _ => 0))), (u.2.2.2.2.2.2.2.2.2, .inl (y 0, 12, .inl (fun _ => 0)))])) (va_A [(h0, .inr (4, [.null, .null, .null, .int 0, .null, .int 0, .null, .null, .int 0, .null, .null, .null, .null, .int 0]))] sz)) 10 600 (va_A [(h0, .inr (4, [.null, .null, .null, .int 0, .null, .int 0, .null, .null, .int 0, .null, .null, .null, .null, .int 0]))] sz) := by
  refine Met.ofW (cc := cX4_init) (maxL := 1) (ret := none) (by decide) rfl ?_
  intro p e s m args below meth c s₁ B hml hv
  obtain ⟨rfl, hsz, hP, hK, hD0⟩ := hv
  have hx := B.exec
  have hb := B.bytes
  have hr := B.returns
  have hts := atoms_spec (ws := wsX4_init) B.pre
  have hown : s.vm.findClass RX4 = some m.cls := findClass_of_methodNamed B.named
  have hlocks := B.notSynchronized
  have hin : meth.name = "<init>" := (name_of_methodNamed B.named B.method).1
  subst hsz
  have hD := hD0.self (sz := s.heap.size)
  generalize hAe : va_A [(h0, .inr (4, [.null, .null, .null, .int 0, .null, .int 0, .null, .null, .int 0, .null, .null, .null, .null, .int 0]))] s.heap.size = A at hD ⊢
  have hA : ∀ q : Nat, s.heap.size ≤ q → A q := fun q h => by rw [← hAe]; exact Or.inr h
  have hS : va_S A s.heap s.heap [] := va_S.rf
  have hP : va_P G vwCl [(h0, .inr (4, [.null, .null, .null, .int 0, .null, .int 0, .null, .null, .int 0, .null, .null, .null, .null, .int 0]))] s.heap := hP
  have inX4 : ∀ w ∈ wsX40, w ∈ wsX4_init := by decide +kernel
  have hl := lv_entry ([.ref h0]) (n := 1) (Nat.le_of_ble_eq_true rfl)
  rw [lg_entry_eq]
  generalize (lg_sl ([.ref h0]) ++ List.replicate (1 - (lg_sl ([.ref h0])).length) Slot.unset).toArray = ls at hl ⊢
  have hl : lv_has ls 1 [(0, .ref h0)] := hl
  refine lv_aload_n hx hb dX4_init_0 rfl (lv_at hl 0 rfl) ?_
  refine W.objInit hx hb hown (hts (.methodLink RX4 3 objectInit) (by decide +kernel)) (hts (.instanceMethod objectInit) (by decide +kernel)) (hts (.code objectInit ⟨#[0xb1]⟩ 1 none) (by decide +kernel)) rfl (by rw [hml]; exact hl.1) rfl dX4_init_1 (Nat.le_of_ble_eq_true rfl) (Nat.le_of_ble_eq_true rfl) ?_
  refine W.eq (g2 := F0 m 4 ls []) rfl ?_
  refine lv_aload_n hx hb dX4_init_4 rfl (lv_at hl 0 rfl) ?_
  refine lv_bipush (v := 8) hx hb dX4_init_5 (by decide) ?_
  refine nq_newa (atype := .int) (ty := .int) (a0 := (8, .inl (fun _ => 0))) (N' := 8) (n := 8) hx hb (hts (.arrayClass .int) (by decide +kernel)) rfl hK.1 0 rfl hP hD hS hA (fun _ => rfl) (by decide) rfl (Nat.le_of_ble_eq_true rfl) (Nat.le_of_ble_eq_true rfl) (Nat.le_of_ble_eq_true rfl) dX4_init_7 (fun q_1 H hP hD hS => ?_)
  have hP : va_P G vwCl [(h0, .inr (4, [.null, .null, .null, .int 0, .null, .int 0, .null, .null, .int 0, .null, .null, .null, .null, .int 0])), (q_1, .inl (y 0, 8, .inl (fun _ => 0)))] H := hP
  have hD : va_D A [(h0, .inr (4, [.null, .null, .null, .int 0, .null, .int 0, .null, .null, .int 0, .null, .null, .null, .null, .int 0])), (q_1, .inl (y 0, 8, .inl (fun _ => 0)))] := hD
  refine va_putF (D := G) (ci := 4) (v := .ref q_1) (ty := .array .int) (C := RX4) (T := TX4) (N := 14) hx hb hts inX4 tyX4 tyX4_ok nmX4 hown hK.1 hP hD hS 0 rfl rfl 0 (by decide) (hts (.fieldLink RX4 9 "NestQuery$Path" "stepKinds" "[I") (by decide +kernel)) (fun _ h9 => h9) rfl hin rfl (by decide +kernel) rfl rfl (Nat.le_of_ble_eq_true rfl) dX4_init_9 (fun H locs hP hD hS => ?_)
  have hP : va_P G vwCl [(h0, .inr (4, [.ref q_1, .null, .null, .int 0, .null, .int 0, .null, .null, .int 0, .null, .null, .null, .null, .int 0])), (q_1, .inl (y 0, 8, .inl (fun _ => 0)))] H := hP
  have hD : va_D A [(h0, .inr (4, [.ref q_1, .null, .null, .int 0, .null, .int 0, .null, .null, .int 0, .null, .null, .null, .null, .int 0])), (q_1, .inl (y 0, 8, .inl (fun _ => 0)))] := hD
  refine lv_aload_n hx hb dX4_init_12 rfl (lv_at hl 0 rfl) ?_
  refine lv_bipush (v := 8) hx hb dX4_init_13 (by decide) ?_
  refine nq_newa (atype := .int) (ty := .int) (a0 := (8, .inl (fun _ => 0))) (N' := 8) (n := 8) hx hb (hts (.arrayClass .int) (by decide +kernel)) rfl hK.1 0 rfl hP hD hS hA (fun _ => rfl) (by decide) rfl (Nat.le_of_ble_eq_true rfl) (Nat.le_of_ble_eq_true rfl) (Nat.le_of_ble_eq_true rfl) dX4_init_15 (fun q_2 H hP hD hS => ?_)
  have hP : va_P G vwCl [(h0, .inr (4, [.ref q_1, .null, .null, .int 0, .null, .int 0, .null, .null, .int 0, .null, .null, .null, .null, .int 0])), (q_1, .inl (y 0, 8, .inl (fun _ => 0))), (q_2, .inl (y 0, 8, .inl (fun _ => 0)))] H := hP
  have hD : va_D A [(h0, .inr (4, [.ref q_1, .null, .null, .int 0, .null, .int 0, .null, .null, .int 0, .null, .null, .null, .null, .int 0])), (q_1, .inl (y 0, 8, .inl (fun _ => 0))), (q_2, .inl (y 0, 8, .inl (fun _ => 0)))] := hD
  refine va_putF (D := G) (ci := 4) (v := .ref q_2) (ty := .array .int) (C := RX4) (T := TX4) (N := 14) hx hb hts inX4 tyX4 tyX4_ok nmX4 hown hK.1 hP hD hS 0 rfl rfl 1 (by decide) (hts (.fieldLink RX4 15 "NestQuery$Path" "stepFirsts" "[I") (by decide +kernel)) (fun _ h9 => h9) rfl hin rfl (by decide +kernel) rfl rfl (Nat.le_of_ble_eq_true rfl) dX4_init_17 (fun H locs hP hD hS => ?_)
  have hP : va_P G vwCl [(h0, .inr (4, [.ref q_1, .ref q_2, .null, .int 0, .null, .int 0, .null, .null, .int 0, .null, .null, .null, .null, .int 0])), (q_1, .inl (y 0, 8, .inl (fun _ => 0))), (q_2, .inl (y 0, 8, .inl (fun _ => 0)))] H := hP
  have hD : va_D A [(h0, .inr (4, [.ref q_1, .ref q_2, .null, .int 0, .null, .int 0, .null, .null, .int 0, .null, .null, .null, .null, .int 0])), (q_1, .inl (y 0, 8, .inl (fun _ => 0))), (q_2, .inl (y 0, 8, .inl (fun _ => 0)))] := hD
  refine lv_aload_n hx hb dX4_init_20 rfl (lv_at hl 0 rfl) ?_
  refine lv_bipush (v := 8) hx hb dX4_init_21 (by decide) ?_
  refine nq_newa (atype := .int) (ty := .int) (a0 := (8, .inl (fun _ => 0))) (N' := 8) (n := 8) hx hb (hts (.arrayClass .int) (by decide +kernel)) rfl hK.1 0 rfl hP hD hS hA (fun _ => rfl) (by decide) rfl (Nat.le_of_ble_eq_true rfl) (Nat.le_of_ble_eq_true rfl) (Nat.le_of_ble_eq_true rfl) dX4_init_23 (fun q_3 H hP hD hS => ?_)
  have hP : va_P G vwCl [(h0, .inr (4, [.ref q_1, .ref q_2, .null, .int 0, .null, .int 0, .null, .null, .int 0, .null, .null, .null, .null, .int 0])), (q_1, .inl (y 0, 8, .inl (fun _ => 0))), (q_2, .inl (y 0, 8, .inl (fun _ => 0))), (q_3, .inl (y 0, 8, .inl (fun _ => 0)))] H := hP
  have hD : va_D A [(h0, .inr (4, [.ref q_1, .ref q_2, .null, .int 0, .null, .int 0, .null, .null, .int 0, .null, .null, .null, .null, .int 0])), (q_1, .inl (y 0, 8, .inl (fun _ => 0))), (q_2, .inl (y 0, 8, .inl (fun _ => 0))), (q_3, .inl (y 0, 8, .inl (fun _ => 0)))] := hD
  refine va_putF (D := G) (ci := 4) (v := .ref q_3) (ty := .array .int) (C := RX4) (T := TX4) (N := 14) hx hb hts inX4 tyX4 tyX4_ok nmX4 hown hK.1 hP hD hS 0 rfl rfl 2 (by decide) (hts (.fieldLink RX4 18 "NestQuery$Path" "stepSeconds" "[I") (by decide +kernel)) (fun _ h9 => h9) rfl hin rfl (by decide +kernel) rfl rfl (Nat.le_of_ble_eq_true rfl) dX4_init_25 (fun H locs hP hD hS => ?_)
  have hP : va_P G vwCl [(h0, .inr (4, [.ref q_1, .ref q_2, .ref q_3, .int 0, .null, .int 0, .null, .null, .int 0, .null, .null, .null, .null, .int 0])), (q_1, .inl (y 0, 8, .inl (fun _ => 0))), (q_2, .inl (y 0, 8, .inl (fun _ => 0))), (q_3, .inl (y 0, 8, .inl (fun _ => 0)))] H := hP
  have hD : va_D A [(h0, .inr (4, [.ref q_1, .ref q_2, .ref q_3, .int 0, .null, .int 0, .null, .null, .int 0, .null, .null, .null, .null, .int 0])), (q_1, .inl (y 0, 8, .inl (fun _ => 0))), (q_2, .inl (y 0, 8, .inl (fun _ => 0))), (q_3, .inl (y 0, 8, .inl (fun _ => 0)))] := hD
  refine lv_aload_n hx hb dX4_init_28 rfl (lv_at hl 0 rfl) ?_
  refine lv_sipush (v := 128) hx hb dX4_init_29 (by decide) ?_
  refine nq_newa (atype := .int) (ty := .int) (a0 := (128, .inl (fun _ => 0))) (N' := 128) (n := 128) hx hb (hts (.arrayClass .int) (by decide +kernel)) rfl hK.1 0 rfl hP hD hS hA (fun _ => rfl) (by decide) rfl (Nat.le_of_ble_eq_true rfl) (Nat.le_of_ble_eq_true rfl) (Nat.le_of_ble_eq_true rfl) dX4_init_32 (fun q_4 H hP hD hS => ?_)
  have hP : va_P G vwCl [(h0, .inr (4, [.ref q_1, .ref q_2, .ref q_3, .int 0, .null, .int 0, .null, .null, .int 0, .null, .null, .null, .null, .int 0])), (q_1, .inl (y 0, 8, .inl (fun _ => 0))), (q_2, .inl (y 0, 8, .inl (fun _ => 0))), (q_3, .inl (y 0, 8, .inl (fun _ => 0))), (q_4, .inl (y 0, 128, .inl (fun _ => 0)))] H := hP
  have hD : va_D A [(h0, .inr (4, [.ref q_1, .ref q_2, .ref q_3, .int 0, .null, .int 0, .null, .null, .int 0, .null, .null, .null, .null, .int 0])), (q_1, .inl (y 0, 8, .inl (fun _ => 0))), (q_2, .inl (y 0, 8, .inl (fun _ => 0))), (q_3, .inl (y 0, 8, .inl (fun _ => 0))), (q_4, .inl (y 0, 128, .inl (fun _ => 0)))] := hD
  refine va_putF (D := G) (ci := 4) (v := .ref q_4) (ty := .array .int) (C := RX4) (T := TX4) (N := 14) hx hb hts inX4 tyX4 tyX4_ok nmX4 hown hK.1 hP hD hS 0 rfl rfl 4 (by decide) (hts (.fieldLink RX4 21 "NestQuery$Path" "code" "[I") (by decide +kernel)) (fun _ h9 => h9) rfl hin rfl (by decide +kernel) rfl rfl (Nat.le_of_ble_eq_true rfl) dX4_init_34 (fun H locs hP hD hS => ?_)
  have hP : va_P G vwCl [(h0, .inr (4, [.ref q_1, .ref q_2, .ref q_3, .int 0, .ref q_4, .int 0, .null, .null, .int 0, .null, .null, .null, .null, .int 0])), (q_1, .inl (y 0, 8, .inl (fun _ => 0))), (q_2, .inl (y 0, 8, .inl (fun _ => 0))), (q_3, .inl (y 0, 8, .inl (fun _ => 0))), (q_4, .inl (y 0, 128, .inl (fun _ => 0)))] H := hP
  have hD : va_D A [(h0, .inr (4, [.ref q_1, .ref q_2, .ref q_3, .int 0, .ref q_4, .int 0, .null, .null, .int 0, .null, .null, .null, .null, .int 0])), (q_1, .inl (y 0, 8, .inl (fun _ => 0))), (q_2, .inl (y 0, 8, .inl (fun _ => 0))), (q_3, .inl (y 0, 8, .inl (fun _ => 0))), (q_4, .inl (y 0, 128, .inl (fun _ => 0)))] := hD
  refine lv_aload_n hx hb dX4_init_37 rfl (lv_at hl 0 rfl) ?_
  refine lv_sipush (v := 200) hx hb dX4_init_38 (by decide) ?_
  refine nq_newa (atype := .boolean) (ty := .boolean) (a0 := (200, .inl (fun _ => 0))) (N' := 200) (n := 200) hx hb (hts (.arrayClass .boolean) (by decide +kernel)) rfl hK.1 2 rfl hP hD hS hA (fun _ => rfl) (by decide) rfl (Nat.le_of_ble_eq_true rfl) (Nat.le_of_ble_eq_true rfl) (Nat.le_of_ble_eq_true rfl) dX4_init_41 (fun q_5 H hP hD hS => ?_)
  have hP : va_P G vwCl [(h0, .inr (4, [.ref q_1, .ref q_2, .ref q_3, .int 0, .ref q_4, .int 0, .null, .null, .int 0, .null, .null, .null, .null, .int 0])), (q_1, .inl (y 0, 8, .inl (fun _ => 0))), (q_2, .inl (y 0, 8, .inl (fun _ => 0))), (q_3, .inl (y 0, 8, .inl (fun _ => 0))), (q_4, .inl (y 0, 128, .inl (fun _ => 0))), (q_5, .inl (y 2, 200, .inl (fun _ => 0)))] H := hP
  have hD : va_D A [(h0, .inr (4, [.ref q_1, .ref q_2, .ref q_3, .int 0, .ref q_4, .int 0, .null, .null, .int 0, .null, .null, .null, .null, .int 0])), (q_1, .inl (y 0, 8, .inl (fun _ => 0))), (q_2, .inl (y 0, 8, .inl (fun _ => 0))), (q_3, .inl (y 0, 8, .inl (fun _ => 0))), (q_4, .inl (y 0, 128, .inl (fun _ => 0))), (q_5, .inl (y 2, 200, .inl (fun _ => 0)))] := hD
  refine va_putF (D := G) (ci := 4) (v := .ref q_5) (ty := .array .boolean) (C := RX4) (T := TX4) (N := 14) hx hb hts inX4 tyX4 tyX4_ok nmX4 hown hK.1 hP hD hS 0 rfl rfl 6 (by decide) (hts (.fieldLink RX4 24 "NestQuery$Path" "littleByKey" "[Z") (by decide +kernel)) (fun _ h9 => h9) rfl hin rfl (by decide +kernel) rfl rfl (Nat.le_of_ble_eq_true rfl) dX4_init_43 (fun H locs hP hD hS => ?_)
  have hP : va_P G vwCl [(h0, .inr (4, [.ref q_1, .ref q_2, .ref q_3, .int 0, .ref q_4, .int 0, .ref q_5, .null, .int 0, .null, .null, .null, .null, .int 0])), (q_1, .inl (y 0, 8, .inl (fun _ => 0))), (q_2, .inl (y 0, 8, .inl (fun _ => 0))), (q_3, .inl (y 0, 8, .inl (fun _ => 0))), (q_4, .inl (y 0, 128, .inl (fun _ => 0))), (q_5, .inl (y 2, 200, .inl (fun _ => 0)))] H := hP
  have hD : va_D A [(h0, .inr (4, [.ref q_1, .ref q_2, .ref q_3, .int 0, .ref q_4, .int 0, .ref q_5, .null, .int 0, .null, .null, .null, .null, .int 0])), (q_1, .inl (y 0, 8, .inl (fun _ => 0))), (q_2, .inl (y 0, 8, .inl (fun _ => 0))), (q_3, .inl (y 0, 8, .inl (fun _ => 0))), (q_4, .inl (y 0, 128, .inl (fun _ => 0))), (q_5, .inl (y 2, 200, .inl (fun _ => 0)))] := hD
  refine lv_aload_n hx hb dX4_init_46 rfl (lv_at hl 0 rfl) ?_
  refine lv_sipush (v := 200) hx hb dX4_init_47 (by decide) ?_
  refine nq_newa (atype := .int) (ty := .int) (a0 := (200, .inl (fun _ => 0))) (N' := 200) (n := 200) hx hb (hts (.arrayClass .int) (by decide +kernel)) rfl hK.1 0 rfl hP hD hS hA (fun _ => rfl) (by decide) rfl (Nat.le_of_ble_eq_true rfl) (Nat.le_of_ble_eq_true rfl) (Nat.le_of_ble_eq_true rfl) dX4_init_50 (fun q_6 H hP hD hS => ?_)
  have hP : va_P G vwCl [(h0, .inr (4, [.ref q_1, .ref q_2, .ref q_3, .int 0, .ref q_4, .int 0, .ref q_5, .null, .int 0, .null, .null, .null, .null, .int 0])), (q_1, .inl (y 0, 8, .inl (fun _ => 0))), (q_2, .inl (y 0, 8, .inl (fun _ => 0))), (q_3, .inl (y 0, 8, .inl (fun _ => 0))), (q_4, .inl (y 0, 128, .inl (fun _ => 0))), (q_5, .inl (y 2, 200, .inl (fun _ => 0))), (q_6, .inl (y 0, 200, .inl (fun _ => 0)))] H := hP
  have hD : va_D A [(h0, .inr (4, [.ref q_1, .ref q_2, .ref q_3, .int 0, .ref q_4, .int 0, .ref q_5, .null, .int 0, .null, .null, .null, .null, .int 0])), (q_1, .inl (y 0, 8, .inl (fun _ => 0))), (q_2, .inl (y 0, 8, .inl (fun _ => 0))), (q_3, .inl (y 0, 8, .inl (fun _ => 0))), (q_4, .inl (y 0, 128, .inl (fun _ => 0))), (q_5, .inl (y 2, 200, .inl (fun _ => 0))), (q_6, .inl (y 0, 200, .inl (fun _ => 0)))] := hD
  refine va_putF (D := G) (ci := 4) (v := .ref q_6) (ty := .array .int) (C := RX4) (T := TX4) (N := 14) hx hb hts inX4 tyX4 tyX4_ok nmX4 hown hK.1 hP hD hS 0 rfl rfl 7 (by decide) (hts (.fieldLink RX4 28 "NestQuery$Path" "littleValues" "[I") (by decide +kernel)) (fun _ h9 => h9) rfl hin rfl (by decide +kernel) rfl rfl (Nat.le_of_ble_eq_true rfl) dX4_init_52 (fun H locs hP hD hS => ?_)
  have hP : va_P G vwCl [(h0, .inr (4, [.ref q_1, .ref q_2, .ref q_3, .int 0, .ref q_4, .int 0, .ref q_5, .ref q_6, .int 0, .null, .null, .null, .null, .int 0])), (q_1, .inl (y 0, 8, .inl (fun _ => 0))), (q_2, .inl (y 0, 8, .inl (fun _ => 0))), (q_3, .inl (y 0, 8, .inl (fun _ => 0))), (q_4, .inl (y 0, 128, .inl (fun _ => 0))), (q_5, .inl (y 2, 200, .inl (fun _ => 0))), (q_6, .inl (y 0, 200, .inl (fun _ => 0)))] H := hP
  have hD : va_D A [(h0, .inr (4, [.ref q_1, .ref q_2, .ref q_3, .int 0, .ref q_4, .int 0, .ref q_5, .ref q_6, .int 0, .null, .null, .null, .null, .int 0])), (q_1, .inl (y 0, 8, .inl (fun _ => 0))), (q_2, .inl (y 0, 8, .inl (fun _ => 0))), (q_3, .inl (y 0, 8, .inl (fun _ => 0))), (q_4, .inl (y 0, 128, .inl (fun _ => 0))), (q_5, .inl (y 2, 200, .inl (fun _ => 0))), (q_6, .inl (y 0, 200, .inl (fun _ => 0)))] := hD
  refine lv_aload_n hx hb dX4_init_55 rfl (lv_at hl 0 rfl) ?_
  refine lv_bipush (v := 12) hx hb dX4_init_56 (by decide) ?_
  refine nq_newa (atype := .int) (ty := .int) (a0 := (12, .inl (fun _ => 0))) (N' := 12) (n := 12) hx hb (hts (.arrayClass .int) (by decide +kernel)) rfl hK.1 0 rfl hP hD hS hA (fun _ => rfl) (by decide) rfl (Nat.le_of_ble_eq_true rfl) (Nat.le_of_ble_eq_true rfl) (Nat.le_of_ble_eq_true rfl) dX4_init_58 (fun q_7 H hP hD hS => ?_)
  have hP : va_P G vwCl [(h0, .inr (4, [.ref q_1, .ref q_2, .ref q_3, .int 0, .ref q_4, .int 0, .ref q_5, .ref q_6, .int 0, .null, .null, .null, .null, .int 0])), (q_1, .inl (y 0, 8, .inl (fun _ => 0))), (q_2, .inl (y 0, 8, .inl (fun _ => 0))), (q_3, .inl (y 0, 8, .inl (fun _ => 0))), (q_4, .inl (y 0, 128, .inl (fun _ => 0))), (q_5, .inl (y 2, 200, .inl (fun _ => 0))), (q_6, .inl (y 0, 200, .inl (fun _ => 0))), (q_7, .inl (y 0, 12, .inl (fun _ => 0)))] H := hP
  have hD : va_D A [(h0, .inr (4, [.ref q_1, .ref q_2, .ref q_3, .int 0, .ref q_4, .int 0, .ref q_5, .ref q_6, .int 0, .null, .null, .null, .null, .int 0])), (q_1, .inl (y 0, 8, .inl (fun _ => 0))), (q_2, .inl (y 0, 8, .inl (fun _ => 0))), (q_3, .inl (y 0, 8, .inl (fun _ => 0))), (q_4, .inl (y 0, 128, .inl (fun _ => 0))), (q_5, .inl (y 2, 200, .inl (fun _ => 0))), (q_6, .inl (y 0, 200, .inl (fun _ => 0))), (q_7, .inl (y 0, 12, .inl (fun _ => 0)))] := hD
  refine va_putF (D := G) (ci := 4) (v := .ref q_7) (ty := .array .int) (C := RX4) (T := TX4) (N := 14) hx hb hts inX4 tyX4 tyX4_ok nmX4 hown hK.1 hP hD hS 0 rfl rfl 9 (by decide) (hts (.fieldLink RX4 31 "NestQuery$Path" "testEnds" "[I") (by decide +kernel)) (fun _ h9 => h9) rfl hin rfl (by decide +kernel) rfl rfl (Nat.le_of_ble_eq_true rfl) dX4_init_60 (fun H locs hP hD hS => ?_)
  have hP : va_P G vwCl [(h0, .inr (4, [.ref q_1, .ref q_2, .ref q_3, .int 0, .ref q_4, .int 0, .ref q_5, .ref q_6, .int 0, .ref q_7, .null, .null, .null, .int 0])), (q_1, .inl (y 0, 8, .inl (fun _ => 0))), (q_2, .inl (y 0, 8, .inl (fun _ => 0))), (q_3, .inl (y 0, 8, .inl (fun _ => 0))), (q_4, .inl (y 0, 128, .inl (fun _ => 0))), (q_5, .inl (y 2, 200, .inl (fun _ => 0))), (q_6, .inl (y 0, 200, .inl (fun _ => 0))), (q_7, .inl (y 0, 12, .inl (fun _ => 0)))] H := hP
  have hD : va_D A [(h0, .inr (4, [.ref q_1, .ref q_2, .ref q_3, .int 0, .ref q_4, .int 0, .ref q_5, .ref q_6, .int 0, .ref q_7, .null, .null, .null, .int 0])), (q_1, .inl (y 0, 8, .inl (fun _ => 0))), (q_2, .inl (y 0, 8, .inl (fun _ => 0))), (q_3, .inl (y 0, 8, .inl (fun _ => 0))), (q_4, .inl (y 0, 128, .inl (fun _ => 0))), (q_5, .inl (y 2, 200, .inl (fun _ => 0))), (q_6, .inl (y 0, 200, .inl (fun _ => 0))), (q_7, .inl (y 0, 12, .inl (fun _ => 0)))] := hD
  refine lv_aload_n hx hb dX4_init_63 rfl (lv_at hl 0 rfl) ?_
  refine lv_bipush (v := 12) hx hb dX4_init_64 (by decide) ?_
  refine nq_newa (atype := .int) (ty := .int) (a0 := (12, .inl (fun _ => 0))) (N' := 12) (n := 12) hx hb (hts (.arrayClass .int) (by decide +kernel)) rfl hK.1 0 rfl hP hD hS hA (fun _ => rfl) (by decide) rfl (Nat.le_of_ble_eq_true rfl) (Nat.le_of_ble_eq_true rfl) (Nat.le_of_ble_eq_true rfl) dX4_init_66 (fun q_8 H hP hD hS => ?_)
  have hP : va_P G vwCl [(h0, .inr (4, [.ref q_1, .ref q_2, .ref q_3, .int 0, .ref q_4, .int 0, .ref q_5, .ref q_6, .int 0, .ref q_7, .null, .null, .null, .int 0])), (q_1, .inl (y 0, 8, .inl (fun _ => 0))), (q_2, .inl (y 0, 8, .inl (fun _ => 0))), (q_3, .inl (y 0, 8, .inl (fun _ => 0))), (q_4, .inl (y 0, 128, .inl (fun _ => 0))), (q_5, .inl (y 2, 200, .inl (fun _ => 0))), (q_6, .inl (y 0, 200, .inl (fun _ => 0))), (q_7, .inl (y 0, 12, .inl (fun _ => 0))), (q_8, .inl (y 0, 12, .inl (fun _ => 0)))] H := hP
  have hD : va_D A [(h0, .inr (4, [.ref q_1, .ref q_2, .ref q_3, .int 0, .ref q_4, .int 0, .ref q_5, .ref q_6, .int 0, .ref q_7, .null, .null, .null, .int 0])), (q_1, .inl (y 0, 8, .inl (fun _ => 0))), (q_2, .inl (y 0, 8, .inl (fun _ => 0))), (q_3, .inl (y 0, 8, .inl (fun _ => 0))), (q_4, .inl (y 0, 128, .inl (fun _ => 0))), (q_5, .inl (y 2, 200, .inl (fun _ => 0))), (q_6, .inl (y 0, 200, .inl (fun _ => 0))), (q_7, .inl (y 0, 12, .inl (fun _ => 0))), (q_8, .inl (y 0, 12, .inl (fun _ => 0)))] := hD
  refine va_putF (D := G) (ci := 4) (v := .ref q_8) (ty := .array .int) (C := RX4) (T := TX4) (N := 14) hx hb hts inX4 tyX4 tyX4_ok nmX4 hown hK.1 hP hD hS 0 rfl rfl 10 (by decide) (hts (.fieldLink RX4 34 "NestQuery$Path" "testSigns" "[I") (by decide +kernel)) (fun _ h9 => h9) rfl hin rfl (by decide +kernel) rfl rfl (Nat.le_of_ble_eq_true rfl) dX4_init_68 (fun H locs hP hD hS => ?_)
  have hP : va_P G vwCl [(h0, .inr (4, [.ref q_1, .ref q_2, .ref q_3, .int 0, .ref q_4, .int 0, .ref q_5, .ref q_6, .int 0, .ref q_7, .ref q_8, .null, .null, .int 0])), (q_1, .inl (y 0, 8, .inl (fun _ => 0))), (q_2, .inl (y 0, 8, .inl (fun _ => 0))), (q_3, .inl (y 0, 8, .inl (fun _ => 0))), (q_4, .inl (y 0, 128, .inl (fun _ => 0))), (q_5, .inl (y 2, 200, .inl (fun _ => 0))), (q_6, .inl (y 0, 200, .inl (fun _ => 0))), (q_7, .inl (y 0, 12, .inl (fun _ => 0))), (q_8, .inl (y 0, 12, .inl (fun _ => 0)))] H := hP
  have hD : va_D A [(h0, .inr (4, [.ref q_1, .ref q_2, .ref q_3, .int 0, .ref q_4, .int 0, .ref q_5, .ref q_6, .int 0, .ref q_7, .ref q_8, .null, .null, .int 0])), (q_1, .inl (y 0, 8, .inl (fun _ => 0))), (q_2, .inl (y 0, 8, .inl (fun _ => 0))), (q_3, .inl (y 0, 8, .inl (fun _ => 0))), (q_4, .inl (y 0, 128, .inl (fun _ => 0))), (q_5, .inl (y 2, 200, .inl (fun _ => 0))), (q_6, .inl (y 0, 200, .inl (fun _ => 0))), (q_7, .inl (y 0, 12, .inl (fun _ => 0))), (q_8, .inl (y 0, 12, .inl (fun _ => 0)))] := hD
  refine lv_aload_n hx hb dX4_init_71 rfl (lv_at hl 0 rfl) ?_
  refine lv_bipush (v := 12) hx hb dX4_init_72 (by decide) ?_
  refine nq_newa (atype := .int) (ty := .int) (a0 := (12, .inl (fun _ => 0))) (N' := 12) (n := 12) hx hb (hts (.arrayClass .int) (by decide +kernel)) rfl hK.1 0 rfl hP hD hS hA (fun _ => rfl) (by decide) rfl (Nat.le_of_ble_eq_true rfl) (Nat.le_of_ble_eq_true rfl) (Nat.le_of_ble_eq_true rfl) dX4_init_74 (fun q_9 H hP hD hS => ?_)
  have hP : va_P G vwCl [(h0, .inr (4, [.ref q_1, .ref q_2, .ref q_3, .int 0, .ref q_4, .int 0, .ref q_5, .ref q_6, .int 0, .ref q_7, .ref q_8, .null, .null, .int 0])), (q_1, .inl (y 0, 8, .inl (fun _ => 0))), (q_2, .inl (y 0, 8, .inl (fun _ => 0))), (q_3, .inl (y 0, 8, .inl (fun _ => 0))), (q_4, .inl (y 0, 128, .inl (fun _ => 0))), (q_5, .inl (y 2, 200, .inl (fun _ => 0))), (q_6, .inl (y 0, 200, .inl (fun _ => 0))), (q_7, .inl (y 0, 12, .inl (fun _ => 0))), (q_8, .inl (y 0, 12, .inl (fun _ => 0))), (q_9, .inl (y 0, 12, .inl (fun _ => 0)))] H := hP
  have hD : va_D A [(h0, .inr (4, [.ref q_1, .ref q_2, .ref q_3, .int 0, .ref q_4, .int 0, .ref q_5, .ref q_6, .int 0, .ref q_7, .ref q_8, .null, .null, .int 0])), (q_1, .inl (y 0, 8, .inl (fun _ => 0))), (q_2, .inl (y 0, 8, .inl (fun _ => 0))), (q_3, .inl (y 0, 8, .inl (fun _ => 0))), (q_4, .inl (y 0, 128, .inl (fun _ => 0))), (q_5, .inl (y 2, 200, .inl (fun _ => 0))), (q_6, .inl (y 0, 200, .inl (fun _ => 0))), (q_7, .inl (y 0, 12, .inl (fun _ => 0))), (q_8, .inl (y 0, 12, .inl (fun _ => 0))), (q_9, .inl (y 0, 12, .inl (fun _ => 0)))] := hD
  refine va_putF (D := G) (ci := 4) (v := .ref q_9) (ty := .array .int) (C := RX4) (T := TX4) (N := 14) hx hb hts inX4 tyX4 tyX4_ok nmX4 hown hK.1 hP hD hS 0 rfl rfl 11 (by decide) (hts (.fieldLink RX4 37 "NestQuery$Path" "testKinds" "[I") (by decide +kernel)) (fun _ h9 => h9) rfl hin rfl (by decide +kernel) rfl rfl (Nat.le_of_ble_eq_true rfl) dX4_init_76 (fun H locs hP hD hS => ?_)
  have hP : va_P G vwCl [(h0, .inr (4, [.ref q_1, .ref q_2, .ref q_3, .int 0, .ref q_4, .int 0, .ref q_5, .ref q_6, .int 0, .ref q_7, .ref q_8, .ref q_9, .null, .int 0])), (q_1, .inl (y 0, 8, .inl (fun _ => 0))), (q_2, .inl (y 0, 8, .inl (fun _ => 0))), (q_3, .inl (y 0, 8, .inl (fun _ => 0))), (q_4, .inl (y 0, 128, .inl (fun _ => 0))), (q_5, .inl (y 2, 200, .inl (fun _ => 0))), (q_6, .inl (y 0, 200, .inl (fun _ => 0))), (q_7, .inl (y 0, 12, .inl (fun _ => 0))), (q_8, .inl (y 0, 12, .inl (fun _ => 0))), (q_9, .inl (y 0, 12, .inl (fun _ => 0)))] H := hP
  have hD : va_D A [(h0, .inr (4, [.ref q_1, .ref q_2, .ref q_3, .int 0, .ref q_4, .int 0, .ref q_5, .ref q_6, .int 0, .ref q_7, .ref q_8, .ref q_9, .null, .int 0])), (q_1, .inl (y 0, 8, .inl (fun _ => 0))), (q_2, .inl (y 0, 8, .inl (fun _ => 0))), (q_3, .inl (y 0, 8, .inl (fun _ => 0))), (q_4, .inl (y 0, 128, .inl (fun _ => 0))), (q_5, .inl (y 2, 200, .inl (fun _ => 0))), (q_6, .inl (y 0, 200, .inl (fun _ => 0))), (q_7, .inl (y 0, 12, .inl (fun _ => 0))), (q_8, .inl (y 0, 12, .inl (fun _ => 0))), (q_9, .inl (y 0, 12, .inl (fun _ => 0)))] := hD
  refine lv_aload_n hx hb dX4_init_79 rfl (lv_at hl 0 rfl) ?_
  refine lv_bipush (v := 12) hx hb dX4_init_80 (by decide) ?_
  refine nq_newa (atype := .int) (ty := .int) (a0 := (12, .inl (fun _ => 0))) (N' := 12) (n := 12) hx hb (hts (.arrayClass .int) (by decide +kernel)) rfl hK.1 0 rfl hP hD hS hA (fun _ => rfl) (by decide) rfl (Nat.le_of_ble_eq_true rfl) (Nat.le_of_ble_eq_true rfl) (Nat.le_of_ble_eq_true rfl) dX4_init_82 (fun q_10 H hP hD hS => ?_)
  have hP : va_P G vwCl [(h0, .inr (4, [.ref q_1, .ref q_2, .ref q_3, .int 0, .ref q_4, .int 0, .ref q_5, .ref q_6, .int 0, .ref q_7, .ref q_8, .ref q_9, .null, .int 0])), (q_1, .inl (y 0, 8, .inl (fun _ => 0))), (q_2, .inl (y 0, 8, .inl (fun _ => 0))), (q_3, .inl (y 0, 8, .inl (fun _ => 0))), (q_4, .inl (y 0, 128, .inl (fun _ => 0))), (q_5, .inl (y 2, 200, .inl (fun _ => 0))), (q_6, .inl (y 0, 200, .inl (fun _ => 0))), (q_7, .inl (y 0, 12, .inl (fun _ => 0))), (q_8, .inl (y 0, 12, .inl (fun _ => 0))), (q_9, .inl (y 0, 12, .inl (fun _ => 0))), (q_10, .inl (y 0, 12, .inl (fun _ => 0)))] H := hP
  have hD : va_D A [(h0, .inr (4, [.ref q_1, .ref q_2, .ref q_3, .int 0, .ref q_4, .int 0, .ref q_5, .ref q_6, .int 0, .ref q_7, .ref q_8, .ref q_9, .null, .int 0])), (q_1, .inl (y 0, 8, .inl (fun _ => 0))), (q_2, .inl (y 0, 8, .inl (fun _ => 0))), (q_3, .inl (y 0, 8, .inl (fun _ => 0))), (q_4, .inl (y 0, 128, .inl (fun _ => 0))), (q_5, .inl (y 2, 200, .inl (fun _ => 0))), (q_6, .inl (y 0, 200, .inl (fun _ => 0))), (q_7, .inl (y 0, 12, .inl (fun _ => 0))), (q_8, .inl (y 0, 12, .inl (fun _ => 0))), (q_9, .inl (y 0, 12, .inl (fun _ => 0))), (q_10, .inl (y 0, 12, .inl (fun _ => 0)))] := hD
  refine va_putF (D := G) (ci := 4) (v := .ref q_10) (ty := .array .int) (C := RX4) (T := TX4) (N := 14) hx hb hts inX4 tyX4 tyX4_ok nmX4 hown hK.1 hP hD hS 0 rfl rfl 12 (by decide) (hts (.fieldLink RX4 40 "NestQuery$Path" "testValues" "[I") (by decide +kernel)) (fun _ h9 => h9) rfl hin rfl (by decide +kernel) rfl rfl (Nat.le_of_ble_eq_true rfl) dX4_init_84 (fun H locs hP hD hS => ?_)
  have hP : va_P G vwCl [(h0, .inr (4, [.ref q_1, .ref q_2, .ref q_3, .int 0, .ref q_4, .int 0, .ref q_5, .ref q_6, .int 0, .ref q_7, .ref q_8, .ref q_9, .ref q_10, .int 0])), (q_1, .inl (y 0, 8, .inl (fun _ => 0))), (q_2, .inl (y 0, 8, .inl (fun _ => 0))), (q_3, .inl (y 0, 8, .inl (fun _ => 0))), (q_4, .inl (y 0, 128, .inl (fun _ => 0))), (q_5, .inl (y 2, 200, .inl (fun _ => 0))), (q_6, .inl (y 0, 200, .inl (fun _ => 0))), (q_7, .inl (y 0, 12, .inl (fun _ => 0))), (q_8, .inl (y 0, 12, .inl (fun _ => 0))), (q_9, .inl (y 0, 12, .inl (fun _ => 0))), (q_10, .inl (y 0, 12, .inl (fun _ => 0)))] H := hP
  have hD : va_D A [(h0, .inr (4, [.ref q_1, .ref q_2, .ref q_3, .int 0, .ref q_4, .int 0, .ref q_5, .ref q_6, .int 0, .ref q_7, .ref q_8, .ref q_9, .ref q_10, .int 0])), (q_1, .inl (y 0, 8, .inl (fun _ => 0))), (q_2, .inl (y 0, 8, .inl (fun _ => 0))), (q_3, .inl (y 0, 8, .inl (fun _ => 0))), (q_4, .inl (y 0, 128, .inl (fun _ => 0))), (q_5, .inl (y 2, 200, .inl (fun _ => 0))), (q_6, .inl (y 0, 200, .inl (fun _ => 0))), (q_7, .inl (y 0, 12, .inl (fun _ => 0))), (q_8, .inl (y 0, 12, .inl (fun _ => 0))), (q_9, .inl (y 0, 12, .inl (fun _ => 0))), (q_10, .inl (y 0, 12, .inl (fun _ => 0)))] := hD
  have hP9 := hP.sub (ws' := [(h0, .inr (4, [.ref q_1, .ref q_2, .ref q_3, .int 0, .ref q_4, .int 0, .ref q_5, .ref q_6, .int 0, .ref q_7, .ref q_8, .ref q_9, .ref q_10, .int 0])), (q_1, .inl (y 0, 8, .inl (fun _ => 0))), (q_2, .inl (y 0, 8, .inl (fun _ => 0))), (q_3, .inl (y 0, 8, .inl (fun _ => 0))), (q_4, .inl (y 0, 128, .inl (fun _ => 0))), (q_5, .inl (y 2, 200, .inl (fun _ => 0))), (q_6, .inl (y 0, 200, .inl (fun _ => 0))), (q_7, .inl (y 0, 12, .inl (fun _ => 0))), (q_8, .inl (y 0, 12, .inl (fun _ => 0))), (q_9, .inl (y 0, 12, .inl (fun _ => 0))), (q_10, .inl (y 0, 12, .inl (fun _ => 0)))]) [0, 1, 2, 3, 4, 5, 6, 7, 8, 9, 10] rfl
  have hD9 := hD.sub (ws' := [(h0, .inr (4, [.ref q_1, .ref q_2, .ref q_3, .int 0, .ref q_4, .int 0, .ref q_5, .ref q_6, .int 0, .ref q_7, .ref q_8, .ref q_9, .ref q_10, .int 0])), (q_1, .inl (y 0, 8, .inl (fun _ => 0))), (q_2, .inl (y 0, 8, .inl (fun _ => 0))), (q_3, .inl (y 0, 8, .inl (fun _ => 0))), (q_4, .inl (y 0, 128, .inl (fun _ => 0))), (q_5, .inl (y 2, 200, .inl (fun _ => 0))), (q_6, .inl (y 0, 200, .inl (fun _ => 0))), (q_7, .inl (y 0, 12, .inl (fun _ => 0))), (q_8, .inl (y 0, 12, .inl (fun _ => 0))), (q_9, .inl (y 0, 12, .inl (fun _ => 0))), (q_10, .inl (y 0, 12, .inl (fun _ => 0)))]) [0, 1, 2, 3, 4, 5, 6, 7, 8, 9, 10] (by decide) rfl
  refine W.widen (k := 10) (n := 600) (Nat.le_of_ble_eq_true rfl) (Nat.le_of_ble_eq_true rfl) ?_
  exact W.vret hx hb hr (fun t ht hW => ⟨⟨(q_1, q_2, q_3, q_4, q_5, q_6, q_7, q_8, q_9, q_10), rfl, trivial, by rw [ht]; exact hP9, by first | exact hD9 | (rw [hAe]; exact hD9)⟩, hS.F ht⟩) hS.2.2 dX4_init_87

set_option maxHeartbeats 4000000 in
set_option maxRecDepth 100000 in
theorem i_Tokens (l : Launch) (G : va_G) (y : Nat → ClassId) (sz : Nat) (h0 : Nat)  : Met l yX8_init wsX8_init ({ frames := 1, cells := 4, slots := 1604, locals := 20 }) (nq_P G y sz [.ref h0] [(h0, .inr (8, [.null, .null, .null, .null, .int 0, .int 0, .int 0, .int 0, .int 0]))]) (va_Qv (fun (_ : Nat × Nat × Nat × Nat) => True) (fun (u : Nat × Nat × Nat × Nat) t9 => va_P G vwCl ([(h0, .inr (8, [.ref u.1, .ref u.2.1, .ref u.2.2.1, .ref u.2.2.2, .int 0, .int 0, .int 0, .int 0, .int (-1)])), (u.1, .inl (y 0, 401, .inl (fun _ => 0))), (u.2.1, .inl (y 0, 401, .inl (fun _ => 0))), (u.2.2.1, .inl (y 0, 401, .inl (fun _ => 0))), (u.2.2.2, .inl (y 0, 401, .inl (fun _ => 0)))]) t9.heap ∧ va_D (va_A [(h0, .inr (8, [.null, .null, .null, .null, .int 0, .int 0, .int 0, .int 0, .int 0]))] sz) ([(h0, .inr (8, [.ref u.1, .ref u.2.1, .ref u.2.2.1, .ref u.2.2.2, .int 0, .int 0, .int 0, .int 0, .int (-1)])), (u.1, .inl (y 0, 401, .inl (fun _ => 0))), (u.2.1, .inl (y 0, 401, .inl (fun _ => 0))), (u.2.2.1, .inl (y 0, 401, .inl (fun _ => 0))), (u.2.2.2, .inl (y 0, 401, .inl (fun _ => 0)))])) (va_A [(h0, .inr (8, [.null, .null, .null, .null, .int 0, .int 0, .int 0, .int 0, .int 0]))] sz)) 4 1604 (va_A [(h0, .inr (8, [.null, .null, .null, .null, .int 0, .int 0, .int 0, .int 0, .int 0]))] sz) := by
  refine Met.ofW (cc := cX8_init) (maxL := 1) (ret := none) (by decide) rfl ?_
  intro p e s m args below meth c s₁ B hml hv
  obtain ⟨rfl, hsz, hP, hK, hD0⟩ := hv
  have hx := B.exec
  have hb := B.bytes
  have hr := B.returns
  have hts := atoms_spec (ws := wsX8_init) B.pre
  have hown : s.vm.findClass RX8 = some m.cls := findClass_of_methodNamed B.named
  have hlocks := B.notSynchronized
  have hin : meth.name = "<init>" := (name_of_methodNamed B.named B.method).1
  subst hsz
  have hD := hD0.self (sz := s.heap.size)
  generalize hAe : va_A [(h0, .inr (8, [.null, .null, .null, .null, .int 0, .int 0, .int 0, .int 0, .int 0]))] s.heap.size = A at hD ⊢
  have hA : ∀ q : Nat, s.heap.size ≤ q → A q := fun q h => by rw [← hAe]; exact Or.inr h
  have hS : va_S A s.heap s.heap [] := va_S.rf
  have hP : va_P G vwCl [(h0, .inr (8, [.null, .null, .null, .null, .int 0, .int 0, .int 0, .int 0, .int 0]))] s.heap := hP
  have inX8 : ∀ w ∈ wsX80, w ∈ wsX8_init := by decide +kernel
  have hl := lv_entry ([.ref h0]) (n := 1) (Nat.le_of_ble_eq_true rfl)
  rw [lg_entry_eq]
  generalize (lg_sl ([.ref h0]) ++ List.replicate (1 - (lg_sl ([.ref h0])).length) Slot.unset).toArray = ls at hl ⊢
  have hl : lv_has ls 1 [(0, .ref h0)] := hl
  refine lv_aload_n hx hb dX8_init_0 rfl (lv_at hl 0 rfl) ?_
  refine W.objInit hx hb hown (hts (.methodLink RX8 3 objectInit) (by decide +kernel)) (hts (.instanceMethod objectInit) (by decide +kernel)) (hts (.code objectInit ⟨#[0xb1]⟩ 1 none) (by decide +kernel)) rfl (by rw [hml]; exact hl.1) rfl dX8_init_1 (Nat.le_of_ble_eq_true rfl) (Nat.le_of_ble_eq_true rfl) ?_
  refine W.eq (g2 := F0 m 4 ls []) rfl ?_
  refine lv_aload_n hx hb dX8_init_4 rfl (lv_at hl 0 rfl) ?_
  refine lv_sipush (v := 401) hx hb dX8_init_5 (by decide) ?_
  refine nq_newa (atype := .int) (ty := .int) (a0 := (401, .inl (fun _ => 0))) (N' := 401) (n := 401) hx hb (hts (.arrayClass .int) (by decide +kernel)) rfl hK.1 0 rfl hP hD hS hA (fun _ => rfl) (by decide) rfl (Nat.le_of_ble_eq_true rfl) (Nat.le_of_ble_eq_true rfl) (Nat.le_of_ble_eq_true rfl) dX8_init_8 (fun q_1 H hP hD hS => ?_)
  have hP : va_P G vwCl [(h0, .inr (8, [.null, .null, .null, .null, .int 0, .int 0, .int 0, .int 0, .int 0])), (q_1, .inl (y 0, 401, .inl (fun _ => 0)))] H := hP
  have hD : va_D A [(h0, .inr (8, [.null, .null, .null, .null, .int 0, .int 0, .int 0, .int 0, .int 0])), (q_1, .inl (y 0, 401, .inl (fun _ => 0)))] := hD
  refine va_putF (D := G) (ci := 8) (v := .ref q_1) (ty := .array .int) (C := RX8) (T := TX8) (N := 9) hx hb hts inX8 tyX8 tyX8_ok nmX8 hown hK.1 hP hD hS 0 rfl rfl 0 (by decide) (hts (.fieldLink RX8 11 "NestQuery$Tokens" "kinds" "[I") (by decide +kernel)) (fun _ h9 => h9) rfl hin rfl (by decide +kernel) rfl rfl (Nat.le_of_ble_eq_true rfl) dX8_init_10 (fun H locs hP hD hS => ?_)
  have hP : va_P G vwCl [(h0, .inr (8, [.ref q_1, .null, .null, .null, .int 0, .int 0, .int 0, .int 0, .int 0])), (q_1, .inl (y 0, 401, .inl (fun _ => 0)))] H := hP
  have hD : va_D A [(h0, .inr (8, [.ref q_1, .null, .null, .null, .int 0, .int 0, .int 0, .int 0, .int 0])), (q_1, .inl (y 0, 401, .inl (fun _ => 0)))] := hD
  refine lv_aload_n hx hb dX8_init_13 rfl (lv_at hl 0 rfl) ?_
  refine lv_sipush (v := 401) hx hb dX8_init_14 (by decide) ?_
  refine nq_newa (atype := .int) (ty := .int) (a0 := (401, .inl (fun _ => 0))) (N' := 401) (n := 401) hx hb (hts (.arrayClass .int) (by decide +kernel)) rfl hK.1 0 rfl hP hD hS hA (fun _ => rfl) (by decide) rfl (Nat.le_of_ble_eq_true rfl) (Nat.le_of_ble_eq_true rfl) (Nat.le_of_ble_eq_true rfl) dX8_init_17 (fun q_2 H hP hD hS => ?_)
  have hP : va_P G vwCl [(h0, .inr (8, [.ref q_1, .null, .null, .null, .int 0, .int 0, .int 0, .int 0, .int 0])), (q_1, .inl (y 0, 401, .inl (fun _ => 0))), (q_2, .inl (y 0, 401, .inl (fun _ => 0)))] H := hP
  have hD : va_D A [(h0, .inr (8, [.ref q_1, .null, .null, .null, .int 0, .int 0, .int 0, .int 0, .int 0])), (q_1, .inl (y 0, 401, .inl (fun _ => 0))), (q_2, .inl (y 0, 401, .inl (fun _ => 0)))] := hD
  refine va_putF (D := G) (ci := 8) (v := .ref q_2) (ty := .array .int) (C := RX8) (T := TX8) (N := 9) hx hb hts inX8 tyX8 tyX8_ok nmX8 hown hK.1 hP hD hS 0 rfl rfl 1 (by decide) (hts (.fieldLink RX8 15 "NestQuery$Tokens" "starts" "[I") (by decide +kernel)) (fun _ h9 => h9) rfl hin rfl (by decide +kernel) rfl rfl (Nat.le_of_ble_eq_true rfl) dX8_init_19 (fun H locs hP hD hS => ?_)
  have hP : va_P G vwCl [(h0, .inr (8, [.ref q_1, .ref q_2, .null, .null, .int 0, .int 0, .int 0, .int 0, .int 0])), (q_1, .inl (y 0, 401, .inl (fun _ => 0))), (q_2, .inl (y 0, 401, .inl (fun _ => 0)))] H := hP
  have hD : va_D A [(h0, .inr (8, [.ref q_1, .ref q_2, .null, .null, .int 0, .int 0, .int 0, .int 0, .int 0])), (q_1, .inl (y 0, 401, .inl (fun _ => 0))), (q_2, .inl (y 0, 401, .inl (fun _ => 0)))] := hD
  refine lv_aload_n hx hb dX8_init_22 rfl (lv_at hl 0 rfl) ?_
  refine lv_sipush (v := 401) hx hb dX8_init_23 (by decide) ?_
  refine nq_newa (atype := .int) (ty := .int) (a0 := (401, .inl (fun _ => 0))) (N' := 401) (n := 401) hx hb (hts (.arrayClass .int) (by decide +kernel)) rfl hK.1 0 rfl hP hD hS hA (fun _ => rfl) (by decide) rfl (Nat.le_of_ble_eq_true rfl) (Nat.le_of_ble_eq_true rfl) (Nat.le_of_ble_eq_true rfl) dX8_init_26 (fun q_3 H hP hD hS => ?_)
  have hP : va_P G vwCl [(h0, .inr (8, [.ref q_1, .ref q_2, .null, .null, .int 0, .int 0, .int 0, .int 0, .int 0])), (q_1, .inl (y 0, 401, .inl (fun _ => 0))), (q_2, .inl (y 0, 401, .inl (fun _ => 0))), (q_3, .inl (y 0, 401, .inl (fun _ => 0)))] H := hP
  have hD : va_D A [(h0, .inr (8, [.ref q_1, .ref q_2, .null, .null, .int 0, .int 0, .int 0, .int 0, .int 0])), (q_1, .inl (y 0, 401, .inl (fun _ => 0))), (q_2, .inl (y 0, 401, .inl (fun _ => 0))), (q_3, .inl (y 0, 401, .inl (fun _ => 0)))] := hD
  refine va_putF (D := G) (ci := 8) (v := .ref q_3) (ty := .array .int) (C := RX8) (T := TX8) (N := 9) hx hb hts inX8 tyX8 tyX8_ok nmX8 hown hK.1 hP hD hS 0 rfl rfl 2 (by decide) (hts (.fieldLink RX8 18 "NestQuery$Tokens" "values" "[I") (by decide +kernel)) (fun _ h9 => h9) rfl hin rfl (by decide +kernel) rfl rfl (Nat.le_of_ble_eq_true rfl) dX8_init_28 (fun H locs hP hD hS => ?_)
  have hP : va_P G vwCl [(h0, .inr (8, [.ref q_1, .ref q_2, .ref q_3, .null, .int 0, .int 0, .int 0, .int 0, .int 0])), (q_1, .inl (y 0, 401, .inl (fun _ => 0))), (q_2, .inl (y 0, 401, .inl (fun _ => 0))), (q_3, .inl (y 0, 401, .inl (fun _ => 0)))] H := hP
  have hD : va_D A [(h0, .inr (8, [.ref q_1, .ref q_2, .ref q_3, .null, .int 0, .int 0, .int 0, .int 0, .int 0])), (q_1, .inl (y 0, 401, .inl (fun _ => 0))), (q_2, .inl (y 0, 401, .inl (fun _ => 0))), (q_3, .inl (y 0, 401, .inl (fun _ => 0)))] := hD
  refine lv_aload_n hx hb dX8_init_31 rfl (lv_at hl 0 rfl) ?_
  refine lv_sipush (v := 401) hx hb dX8_init_32 (by decide) ?_
  refine nq_newa (atype := .int) (ty := .int) (a0 := (401, .inl (fun _ => 0))) (N' := 401) (n := 401) hx hb (hts (.arrayClass .int) (by decide +kernel)) rfl hK.1 0 rfl hP hD hS hA (fun _ => rfl) (by decide) rfl (Nat.le_of_ble_eq_true rfl) (Nat.le_of_ble_eq_true rfl) (Nat.le_of_ble_eq_true rfl) dX8_init_35 (fun q_4 H hP hD hS => ?_)
  have hP : va_P G vwCl [(h0, .inr (8, [.ref q_1, .ref q_2, .ref q_3, .null, .int 0, .int 0, .int 0, .int 0, .int 0])), (q_1, .inl (y 0, 401, .inl (fun _ => 0))), (q_2, .inl (y 0, 401, .inl (fun _ => 0))), (q_3, .inl (y 0, 401, .inl (fun _ => 0))), (q_4, .inl (y 0, 401, .inl (fun _ => 0)))] H := hP
  have hD : va_D A [(h0, .inr (8, [.ref q_1, .ref q_2, .ref q_3, .null, .int 0, .int 0, .int 0, .int 0, .int 0])), (q_1, .inl (y 0, 401, .inl (fun _ => 0))), (q_2, .inl (y 0, 401, .inl (fun _ => 0))), (q_3, .inl (y 0, 401, .inl (fun _ => 0))), (q_4, .inl (y 0, 401, .inl (fun _ => 0)))] := hD
  refine va_putF (D := G) (ci := 8) (v := .ref q_4) (ty := .array .int) (C := RX8) (T := TX8) (N := 9) hx hb hts inX8 tyX8 tyX8_ok nmX8 hown hK.1 hP hD hS 0 rfl rfl 3 (by decide) (hts (.fieldLink RX8 21 "NestQuery$Tokens" "lengths" "[I") (by decide +kernel)) (fun _ h9 => h9) rfl hin rfl (by decide +kernel) rfl rfl (Nat.le_of_ble_eq_true rfl) dX8_init_37 (fun H locs hP hD hS => ?_)
  have hP : va_P G vwCl [(h0, .inr (8, [.ref q_1, .ref q_2, .ref q_3, .ref q_4, .int 0, .int 0, .int 0, .int 0, .int 0])), (q_1, .inl (y 0, 401, .inl (fun _ => 0))), (q_2, .inl (y 0, 401, .inl (fun _ => 0))), (q_3, .inl (y 0, 401, .inl (fun _ => 0))), (q_4, .inl (y 0, 401, .inl (fun _ => 0)))] H := hP
  have hD : va_D A [(h0, .inr (8, [.ref q_1, .ref q_2, .ref q_3, .ref q_4, .int 0, .int 0, .int 0, .int 0, .int 0])), (q_1, .inl (y 0, 401, .inl (fun _ => 0))), (q_2, .inl (y 0, 401, .inl (fun _ => 0))), (q_3, .inl (y 0, 401, .inl (fun _ => 0))), (q_4, .inl (y 0, 401, .inl (fun _ => 0)))] := hD
  refine lv_aload_n hx hb dX8_init_40 rfl (lv_at hl 0 rfl) ?_
  refine lv_iconst (v := (-1)) hx hb dX8_init_41 (by decide) ?_
  refine va_put (D := G) (ci := 8) (v := .int (-1)) (ty := .int) (C := RX8) (T := TX8) (N := 9) hx hb hts inX8 tyX8 tyX8_ok nmX8 hown hK.1 hP hD hS 0 rfl rfl 8 (by decide) (hts (.fieldLink RX8 24 "NestQuery$Tokens" "faultPlace" "I") (by decide +kernel)) (fun _ h9 => h9) rfl (by decide +kernel) rfl rfl (Nat.le_of_ble_eq_true rfl) dX8_init_42 (fun H locs hP hD hS => ?_)
  have hP : va_P G vwCl [(h0, .inr (8, [.ref q_1, .ref q_2, .ref q_3, .ref q_4, .int 0, .int 0, .int 0, .int 0, .int (-1)])), (q_1, .inl (y 0, 401, .inl (fun _ => 0))), (q_2, .inl (y 0, 401, .inl (fun _ => 0))), (q_3, .inl (y 0, 401, .inl (fun _ => 0))), (q_4, .inl (y 0, 401, .inl (fun _ => 0)))] H := hP
  have hD : va_D A [(h0, .inr (8, [.ref q_1, .ref q_2, .ref q_3, .ref q_4, .int 0, .int 0, .int 0, .int 0, .int (-1)])), (q_1, .inl (y 0, 401, .inl (fun _ => 0))), (q_2, .inl (y 0, 401, .inl (fun _ => 0))), (q_3, .inl (y 0, 401, .inl (fun _ => 0))), (q_4, .inl (y 0, 401, .inl (fun _ => 0)))] := hD
  have hP9 := hP.sub (ws' := [(h0, .inr (8, [.ref q_1, .ref q_2, .ref q_3, .ref q_4, .int 0, .int 0, .int 0, .int 0, .int (-1)])), (q_1, .inl (y 0, 401, .inl (fun _ => 0))), (q_2, .inl (y 0, 401, .inl (fun _ => 0))), (q_3, .inl (y 0, 401, .inl (fun _ => 0))), (q_4, .inl (y 0, 401, .inl (fun _ => 0)))]) [0, 1, 2, 3, 4] rfl
  have hD9 := hD.sub (ws' := [(h0, .inr (8, [.ref q_1, .ref q_2, .ref q_3, .ref q_4, .int 0, .int 0, .int 0, .int 0, .int (-1)])), (q_1, .inl (y 0, 401, .inl (fun _ => 0))), (q_2, .inl (y 0, 401, .inl (fun _ => 0))), (q_3, .inl (y 0, 401, .inl (fun _ => 0))), (q_4, .inl (y 0, 401, .inl (fun _ => 0)))]) [0, 1, 2, 3, 4] (by decide) rfl
  refine W.widen (k := 4) (n := 1604) (Nat.le_of_ble_eq_true rfl) (Nat.le_of_ble_eq_true rfl) ?_
  exact W.vret hx hb hr (fun t ht hW => ⟨⟨(q_1, q_2, q_3, q_4), rfl, trivial, by rw [ht]; exact hP9, by first | exact hD9 | (rw [hAe]; exact hD9)⟩, hS.F ht⟩) hS.2.2 dX8_init_45

set_option maxHeartbeats 4000000 in
set_option maxRecDepth 100000 in
theorem i_DataReader (l : Launch) (G : va_G) (y : Nat → ClassId) (sz : Nat) (h0 : Nat) (t : Nat)  : Met l yX1_init wsX1_init ({ frames := 1, cells := 0, slots := 0, locals := 20 }) (nq_P G y sz [.ref h0, .ref t] [(h0, .inr (1, [.null]))]) (va_Qv (fun (_ : Unit) => True) (fun (u : Unit) t9 => va_P G vwCl ([(h0, .inr (1, [.ref t]))]) t9.heap ∧ va_D (va_A [(h0, .inr (1, [.null]))] sz) ([(h0, .inr (1, [.ref t]))])) (va_A [(h0, .inr (1, [.null]))] sz)) 0 0 (va_A [(h0, .inr (1, [.null]))] sz) := by
  refine Met.ofW (cc := cX1_init) (maxL := 2) (ret := none) (by decide) rfl ?_
  intro p e s m args below meth c s₁ B hml hv
  obtain ⟨rfl, hsz, hP, hK, hD0⟩ := hv
  have hx := B.exec
  have hb := B.bytes
  have hr := B.returns
  have hts := atoms_spec (ws := wsX1_init) B.pre
  have hown : s.vm.findClass RX1 = some m.cls := findClass_of_methodNamed B.named
  have hlocks := B.notSynchronized
  have hin : meth.name = "<init>" := (name_of_methodNamed B.named B.method).1
  subst hsz
  have hD := hD0.self (sz := s.heap.size)
  generalize hAe : va_A [(h0, .inr (1, [.null]))] s.heap.size = A at hD ⊢
  have hA : ∀ q : Nat, s.heap.size ≤ q → A q := fun q h => by rw [← hAe]; exact Or.inr h
  have hS : va_S A s.heap s.heap [] := va_S.rf
  have hP : va_P G vwCl [(h0, .inr (1, [.null]))] s.heap := hP
  have inX1 : ∀ w ∈ wsX10, w ∈ wsX1_init := by decide +kernel
  have hl := lv_entry ([.ref h0, .ref t]) (n := 2) (Nat.le_of_ble_eq_true rfl)
  rw [lg_entry_eq]
  generalize (lg_sl ([.ref h0, .ref t]) ++ List.replicate (2 - (lg_sl ([.ref h0, .ref t])).length) Slot.unset).toArray = ls at hl ⊢
  have hl : lv_has ls 2 [(0, .ref h0), (1, .ref t)] := hl
  refine lv_aload_n hx hb dX1_init_0 rfl (lv_at hl 0 rfl) ?_
  refine W.objInit hx hb hown (hts (.methodLink RX1 3 objectInit) (by decide +kernel)) (hts (.instanceMethod objectInit) (by decide +kernel)) (hts (.code objectInit ⟨#[0xb1]⟩ 1 none) (by decide +kernel)) rfl (by rw [hml]; exact hl.1) rfl dX1_init_1 (Nat.le_of_ble_eq_true rfl) (Nat.le_of_ble_eq_true rfl) ?_
  refine W.eq (g2 := F0 m 4 ls []) rfl ?_
  refine lv_aload_n hx hb dX1_init_4 rfl (lv_at hl 0 rfl) ?_
  refine lv_aload_n hx hb dX1_init_5 rfl (lv_at hl 1 rfl) ?_
  refine va_putF (D := G) (ci := 1) (v := .ref t) (ty := .object "NestQuery$Tokens") (C := RX1) (T := TX1) (N := 1) hx hb hts inX1 tyX1 tyX1_ok nmX1 hown hK.1 hP hD hS 0 rfl rfl 0 (by decide) (hts (.fieldLink RX1 9 "NestQuery$DataReader" "tokens" "LNestQuery$Tokens;") (by decide +kernel)) (fun _ h9 => h9) rfl hin rfl (by decide +kernel) rfl rfl (Nat.le_of_ble_eq_true rfl) dX1_init_6 (fun H locs hP hD hS => ?_)
  have hP : va_P G vwCl [(h0, .inr (1, [.ref t]))] H := hP
  have hD : va_D A [(h0, .inr (1, [.ref t]))] := hD
  have hP9 := hP.sub (ws' := [(h0, .inr (1, [.ref t]))]) [0] rfl
  have hD9 := hD.sub (ws' := [(h0, .inr (1, [.ref t]))]) [0] (by decide) rfl
  refine W.widen (k := 0) (n := 0) (Nat.le_of_ble_eq_true rfl) (Nat.le_of_ble_eq_true rfl) ?_
  exact W.vret hx hb hr (fun t ht hW => ⟨⟨(), rfl, trivial, by rw [ht]; exact hP9, by first | exact hD9 | (rw [hAe]; exact hD9)⟩, hS.F ht⟩) hS.2.2 dX1_init_9

set_option maxHeartbeats 4000000 in
set_option maxRecDepth 100000 in
theorem i_PathReader (l : Launch) (G : va_G) (y : Nat → ClassId) (sz : Nat) (h0 : Nat) (t : Nat)  : Met l yX5_init wsX5_init ({ frames := 1, cells := 0, slots := 0, locals := 20 }) (nq_P G y sz [.ref h0, .ref t] [(h0, .inr (5, [.null]))]) (va_Qv (fun (_ : Unit) => True) (fun (u : Unit) t9 => va_P G vwCl ([(h0, .inr (5, [.ref t]))]) t9.heap ∧ va_D (va_A [(h0, .inr (5, [.null]))] sz) ([(h0, .inr (5, [.ref t]))])) (va_A [(h0, .inr (5, [.null]))] sz)) 0 0 (va_A [(h0, .inr (5, [.null]))] sz) := by
  refine Met.ofW (cc := cX5_init) (maxL := 2) (ret := none) (by decide) rfl ?_
  intro p e s m args below meth c s₁ B hml hv
  obtain ⟨rfl, hsz, hP, hK, hD0⟩ := hv
  have hx := B.exec
  have hb := B.bytes
  have hr := B.returns
  have hts := atoms_spec (ws := wsX5_init) B.pre
  have hown : s.vm.findClass RX5 = some m.cls := findClass_of_methodNamed B.named
  have hlocks := B.notSynchronized
  have hin : meth.name = "<init>" := (name_of_methodNamed B.named B.method).1
  subst hsz
  have hD := hD0.self (sz := s.heap.size)
  generalize hAe : va_A [(h0, .inr (5, [.null]))] s.heap.size = A at hD ⊢
  have hA : ∀ q : Nat, s.heap.size ≤ q → A q := fun q h => by rw [← hAe]; exact Or.inr h
  have hS : va_S A s.heap s.heap [] := va_S.rf
  have hP : va_P G vwCl [(h0, .inr (5, [.null]))] s.heap := hP
  have inX5 : ∀ w ∈ wsX50, w ∈ wsX5_init := by decide +kernel
  have hl := lv_entry ([.ref h0, .ref t]) (n := 2) (Nat.le_of_ble_eq_true rfl)
  rw [lg_entry_eq]
  generalize (lg_sl ([.ref h0, .ref t]) ++ List.replicate (2 - (lg_sl ([.ref h0, .ref t])).length) Slot.unset).toArray = ls at hl ⊢
  have hl : lv_has ls 2 [(0, .ref h0), (1, .ref t)] := hl
  refine lv_aload_n hx hb dX5_init_0 rfl (lv_at hl 0 rfl) ?_
  refine W.objInit hx hb hown (hts (.methodLink RX5 3 objectInit) (by decide +kernel)) (hts (.instanceMethod objectInit) (by decide +kernel)) (hts (.code objectInit ⟨#[0xb1]⟩ 1 none) (by decide +kernel)) rfl (by rw [hml]; exact hl.1) rfl dX5_init_1 (Nat.le_of_ble_eq_true rfl) (Nat.le_of_ble_eq_true rfl) ?_
  refine W.eq (g2 := F0 m 4 ls []) rfl ?_
  refine lv_aload_n hx hb dX5_init_4 rfl (lv_at hl 0 rfl) ?_
  refine lv_aload_n hx hb dX5_init_5 rfl (lv_at hl 1 rfl) ?_
  refine va_putF (D := G) (ci := 5) (v := .ref t) (ty := .object "NestQuery$Tokens") (C := RX5) (T := TX5) (N := 1) hx hb hts inX5 tyX5 tyX5_ok nmX5 hown hK.1 hP hD hS 0 rfl rfl 0 (by decide) (hts (.fieldLink RX5 9 "NestQuery$PathReader" "tokens" "LNestQuery$Tokens;") (by decide +kernel)) (fun _ h9 => h9) rfl hin rfl (by decide +kernel) rfl rfl (Nat.le_of_ble_eq_true rfl) dX5_init_6 (fun H locs hP hD hS => ?_)
  have hP : va_P G vwCl [(h0, .inr (5, [.ref t]))] H := hP
  have hD : va_D A [(h0, .inr (5, [.ref t]))] := hD
  have hP9 := hP.sub (ws' := [(h0, .inr (5, [.ref t]))]) [0] rfl
  have hD9 := hD.sub (ws' := [(h0, .inr (5, [.ref t]))]) [0] (by decide) rfl
  refine W.widen (k := 0) (n := 0) (Nat.le_of_ble_eq_true rfl) (Nat.le_of_ble_eq_true rfl) ?_
  exact W.vret hx hb hr (fun t ht hW => ⟨⟨(), rfl, trivial, by rw [ht]; exact hP9, by first | exact hD9 | (rw [hAe]; exact hD9)⟩, hS.F ht⟩) hS.2.2 dX5_init_9

set_option maxHeartbeats 4000000 in
set_option maxRecDepth 100000 in
theorem i_State (l : Launch) (G : va_G) (y : Nat → ClassId) (sz : Nat) (h0 : Nat)  : Met l yX6_init wsX6_init ({ frames := 2, cells := 9, slots := 304, locals := 42 }) (nq_P G y sz [.ref h0] [(h0, .inr (6, [.null, .null, .int 0, .null, .null, .int 0, .null]))]) (va_Qv (fun (_ : Nat × Nat × Nat × Nat × Nat × Nat × Nat × Nat × Nat) => True) (fun (u : Nat × Nat × Nat × Nat × Nat × Nat × Nat × Nat × Nat) t9 => va_P G vwCl ([(h0, .inr (6, [.ref u.1, .ref u.2.1, .int 0, .ref u.2.2.1, .ref u.2.2.2.1, .int 0, .ref u.2.2.2.2.1])), (u.2.1, .inl (y 4, 40, .inr (.inr (.inr (.inr (fun _ => none)))))), (u.2.2.1, .inl (y 0, 8, .inl (fun _ => 0))), (u.2.2.2.1, .inl (y 2, 8, .inl (fun _ => 0))), (u.2.2.2.2.1, .inl (y 0, 3, .inl (fun _ => 0))), (u.1, .inr (9, [.ref u.2.2.2.2.2.1, .ref u.2.2.2.2.2.2.1, .ref u.2.2.2.2.2.2.2.1, .ref u.2.2.2.2.2.2.2.2, .int 0])), (u.2.2.2.2.2.1, .inl (y 0, 60, .inl (fun _ => 0))), (u.2.2.2.2.2.2.1, .inl (y 0, 60, .inl (fun _ => 0))), (u.2.2.2.2.2.2.2.1, .inl (y 0, 60, .inl (fun _ => 0))), (u.2.2.2.2.2.2.2.2, .inl (y 0, 60, .inl (fun _ => 0)))]) t9.heap ∧ va_D (va_A [(h0, .inr (6, [.null, .null, .int 0, .null, .null, .int 0, .null]))] sz) ([(h0, .inr (6, [.ref u.1, .ref u.2.1, .int 0, .ref u.2.2.1, .ref u.2.2.2.1, .int 0, .ref u.2.2.2.2.1])), (u.2.1, .inl (y 4, 40, .inr (.inr (.inr (.inr (fun _ => none)))))), (u.2.2.1, .inl (y 0, 8, .inl (fun _ => 0))), (u.2.2.2.1, .inl (y 2, 8, .inl (fun _ => 0))), (u.2.2.2.2.1, .inl (y 0, 3, .inl (fun _ => 0))), (u.1, .inr (9, [.ref u.2.2.2.2.2.1, .ref u.2.2.2.2.2.2.1, .ref u.2.2.2.2.2.2.2.1, .ref u.2.2.2.2.2.2.2.2, .int 0])), (u.2.2.2.2.2.1, .inl (y 0, 60, .inl (fun _ => 0))), (u.2.2.2.2.2.2.1, .inl (y 0, 60, .inl (fun _ => 0))), (u.2.2.2.2.2.2.2.1, .inl (y 0, 60, .inl (fun _ => 0))), (u.2.2.2.2.2.2.2.2, .inl (y 0, 60, .inl (fun _ => 0)))])) (va_A [(h0, .inr (6, [.null, .null, .int 0, .null, .null, .int 0, .null]))] sz)) 9 304 (va_A [(h0, .inr (6, [.null, .null, .int 0, .null, .null, .int 0, .null]))] sz) := by
  refine Met.ofW (cc := cX6_init) (maxL := 1) (ret := none) (by decide) rfl ?_
  intro p e s m args below meth c s₁ B hml hv
  obtain ⟨rfl, hsz, hP, hK, hD0⟩ := hv
  have hx := B.exec
  have hb := B.bytes
  have hr := B.returns
  have hts := atoms_spec (ws := wsX6_init) B.pre
  have hown : s.vm.findClass RX6 = some m.cls := findClass_of_methodNamed B.named
  have hlocks := B.notSynchronized
  have hin : meth.name = "<init>" := (name_of_methodNamed B.named B.method).1
  subst hsz
  have hD := hD0.self (sz := s.heap.size)
  generalize hAe : va_A [(h0, .inr (6, [.null, .null, .int 0, .null, .null, .int 0, .null]))] s.heap.size = A at hD ⊢
  have hA : ∀ q : Nat, s.heap.size ≤ q → A q := fun q h => by rw [← hAe]; exact Or.inr h
  have hS : va_S A s.heap s.heap [] := va_S.rf
  have hP : va_P G vwCl [(h0, .inr (6, [.null, .null, .int 0, .null, .null, .int 0, .null]))] s.heap := hP
  have inX6 : ∀ w ∈ wsX60, w ∈ wsX6_init := by decide +kernel
  have inX9 : ∀ w ∈ wsX90, w ∈ wsX6_init := by decide +kernel
  have hl := lv_entry ([.ref h0]) (n := 1) (Nat.le_of_ble_eq_true rfl)
  rw [lg_entry_eq]
  generalize (lg_sl ([.ref h0]) ++ List.replicate (1 - (lg_sl ([.ref h0])).length) Slot.unset).toArray = ls at hl ⊢
  have hl : lv_has ls 1 [(0, .ref h0)] := hl
  refine lv_aload_n hx hb dX6_init_0 rfl (lv_at hl 0 rfl) ?_
  refine W.objInit hx hb hown (hts (.methodLink RX6 3 objectInit) (by decide +kernel)) (hts (.instanceMethod objectInit) (by decide +kernel)) (hts (.code objectInit ⟨#[0xb1]⟩ 1 none) (by decide +kernel)) rfl (by rw [hml]; exact hl.1) rfl dX6_init_1 (Nat.le_of_ble_eq_true rfl) (Nat.le_of_ble_eq_true rfl) ?_
  refine W.eq (g2 := F0 m 4 ls []) rfl ?_
  refine lv_aload_n hx hb dX6_init_4 rfl (lv_at hl 0 rfl) ?_
  refine va_new (D := G) (ci := 9) (fs := [.null, .null, .null, .null, .int 0]) (C := RX9) (T := TX9) (N := 5) hx hb hts inX9 tyX9 tyX9_ok hown (hts (.classLink RX6 9 RX9) (by decide +kernel)) (hts (.instantiable RX9 5) (by decide +kernel)) (hts (.initialized RX9) (by decide +kernel)) hK.1 hP hD hS hA rfl (nq_defX9) (Nat.le_of_ble_eq_true rfl) (Nat.le_of_ble_eq_true rfl) dX6_init_5 (fun q_1 H hP hD hS => ?_)
  have hP : va_P G vwCl [(h0, .inr (6, [.null, .null, .int 0, .null, .null, .int 0, .null])), (q_1, .inr (9, [.null, .null, .null, .null, .int 0]))] H := hP
  have hD : va_D A [(h0, .inr (6, [.null, .null, .int 0, .null, .null, .int 0, .null])), (q_1, .inr (9, [.null, .null, .null, .null, .int 0]))] := hD
  refine lv_dup hx hb dX6_init_8 rfl ?_
  refine lv_bipush (v := 60) hx hb dX6_init_9 (by decide) ?_
  refine nq_wrv (wr := [(h0, .inr (6, [.null, .null, .int 0, .null, .null, .int 0, .null]))]) (va_runI (As := [.int 60]) (rest := [.ref q_1, .ref h0]) ⟨hx, hb, hml, hown, hts⟩ (i_Tree60 l G y H.size q_1 ) (cwI 1 hts gX6_init_X9_init rfl rfl rfl (hts (.initialized RX9) (by decide +kernel)) (hts (.methodLink RX6 11 yX9_init) (by decide +kernel)) (hts (.instanceMethod yX9_init) (by decide +kernel)) rfl (by decide +kernel) ⟨Nat.le_of_ble_eq_true rfl, Nat.le_of_ble_eq_true rfl⟩) (nq_PS hK hP hD [1] rfl rfl) rfl rfl hl.1 rfl (lv_room (Nat.le_of_ble_eq_true rfl)) dX6_init_11 ⟨Nat.le_of_ble_eq_true rfl, Nat.le_of_ble_eq_true rfl⟩) hP hD hS hA [1] [0] rfl rfl (by decide) (by decide) (fun u_2 H locs hw_3 hP hD hS => ?_)
  obtain ⟨qk_5, qv_6, qe_7, qd_8⟩ := u_2
  have hP : va_P G vwCl [(h0, .inr (6, [.null, .null, .int 0, .null, .null, .int 0, .null])), (q_1, .inr (9, [.ref qk_5, .ref qv_6, .ref qe_7, .ref qd_8, .int 0])), (qk_5, .inl (y 0, 60, .inl (fun _ => 0))), (qv_6, .inl (y 0, 60, .inl (fun _ => 0))), (qe_7, .inl (y 0, 60, .inl (fun _ => 0))), (qd_8, .inl (y 0, 60, .inl (fun _ => 0)))] H := hP
  have hD : va_D A [(h0, .inr (6, [.null, .null, .int 0, .null, .null, .int 0, .null])), (q_1, .inr (9, [.ref qk_5, .ref qv_6, .ref qe_7, .ref qd_8, .int 0])), (qk_5, .inl (y 0, 60, .inl (fun _ => 0))), (qv_6, .inl (y 0, 60, .inl (fun _ => 0))), (qe_7, .inl (y 0, 60, .inl (fun _ => 0))), (qd_8, .inl (y 0, 60, .inl (fun _ => 0)))] := hD
  refine va_putF (D := G) (ci := 6) (v := .ref q_1) (ty := .object "NestQuery$Tree") (C := RX6) (T := TX6) (N := 7) hx hb hts inX6 tyX6 tyX6_ok nmX6 hown hK.1 hP hD hS 0 rfl rfl 0 (by decide) (hts (.fieldLink RX6 14 "NestQuery$State" "tree" "LNestQuery$Tree;") (by decide +kernel)) (fun _ h9 => h9) rfl hin rfl (by decide +kernel) rfl rfl (Nat.le_of_ble_eq_true rfl) dX6_init_14 (fun H locs hP hD hS => ?_)
  have hP : va_P G vwCl [(h0, .inr (6, [.ref q_1, .null, .int 0, .null, .null, .int 0, .null])), (q_1, .inr (9, [.ref qk_5, .ref qv_6, .ref qe_7, .ref qd_8, .int 0])), (qk_5, .inl (y 0, 60, .inl (fun _ => 0))), (qv_6, .inl (y 0, 60, .inl (fun _ => 0))), (qe_7, .inl (y 0, 60, .inl (fun _ => 0))), (qd_8, .inl (y 0, 60, .inl (fun _ => 0)))] H := hP
  have hD : va_D A [(h0, .inr (6, [.ref q_1, .null, .int 0, .null, .null, .int 0, .null])), (q_1, .inr (9, [.ref qk_5, .ref qv_6, .ref qe_7, .ref qd_8, .int 0])), (qk_5, .inl (y 0, 60, .inl (fun _ => 0))), (qv_6, .inl (y 0, 60, .inl (fun _ => 0))), (qe_7, .inl (y 0, 60, .inl (fun _ => 0))), (qd_8, .inl (y 0, 60, .inl (fun _ => 0)))] := hD
  refine lv_aload_n hx hb dX6_init_17 rfl (lv_at hl 0 rfl) ?_
  refine lv_bipush (v := 40) hx hb dX6_init_18 (by decide) ?_
  refine nq_newq (C := "NestQuery$Tree") (N' := 40) (n := 40) hx hb hown (hts (.classLink RX6 9 RX9) (by decide +kernel)) hK.2.2.2 hK.1 4 rfl hP hD hS hA (by decide) rfl (Nat.le_of_ble_eq_true rfl) (Nat.le_of_ble_eq_true rfl) (Nat.le_of_ble_eq_true rfl) dX6_init_20 (fun q_9 H hP hD hS => ?_)
  have hP : va_P G vwCl [(h0, .inr (6, [.ref q_1, .null, .int 0, .null, .null, .int 0, .null])), (q_1, .inr (9, [.ref qk_5, .ref qv_6, .ref qe_7, .ref qd_8, .int 0])), (qk_5, .inl (y 0, 60, .inl (fun _ => 0))), (qv_6, .inl (y 0, 60, .inl (fun _ => 0))), (qe_7, .inl (y 0, 60, .inl (fun _ => 0))), (qd_8, .inl (y 0, 60, .inl (fun _ => 0))), (q_9, .inl (y 4, 40, .inr (.inr (.inr (.inr (fun _ => none))))))] H := hP
  have hD : va_D A [(h0, .inr (6, [.ref q_1, .null, .int 0, .null, .null, .int 0, .null])), (q_1, .inr (9, [.ref qk_5, .ref qv_6, .ref qe_7, .ref qd_8, .int 0])), (qk_5, .inl (y 0, 60, .inl (fun _ => 0))), (qv_6, .inl (y 0, 60, .inl (fun _ => 0))), (qe_7, .inl (y 0, 60, .inl (fun _ => 0))), (qd_8, .inl (y 0, 60, .inl (fun _ => 0))), (q_9, .inl (y 4, 40, .inr (.inr (.inr (.inr (fun _ => none))))))] := hD
  refine va_putF (D := G) (ci := 6) (v := .ref q_9) (ty := .array (.object "NestQuery$Tree")) (C := RX6) (T := TX6) (N := 7) hx hb hts inX6 tyX6 tyX6_ok nmX6 hown hK.1 hP hD hS 0 rfl rfl 1 (by decide) (hts (.fieldLink RX6 20 "NestQuery$State" "before" "[LNestQuery$Tree;") (by decide +kernel)) (fun _ h9 => h9) rfl hin rfl (by decide +kernel) rfl rfl (Nat.le_of_ble_eq_true rfl) dX6_init_23 (fun H locs hP hD hS => ?_)
  have hP : va_P G vwCl [(h0, .inr (6, [.ref q_1, .ref q_9, .int 0, .null, .null, .int 0, .null])), (q_1, .inr (9, [.ref qk_5, .ref qv_6, .ref qe_7, .ref qd_8, .int 0])), (qk_5, .inl (y 0, 60, .inl (fun _ => 0))), (qv_6, .inl (y 0, 60, .inl (fun _ => 0))), (qe_7, .inl (y 0, 60, .inl (fun _ => 0))), (qd_8, .inl (y 0, 60, .inl (fun _ => 0))), (q_9, .inl (y 4, 40, .inr (.inr (.inr (.inr (fun _ => none))))))] H := hP
  have hD : va_D A [(h0, .inr (6, [.ref q_1, .ref q_9, .int 0, .null, .null, .int 0, .null])), (q_1, .inr (9, [.ref qk_5, .ref qv_6, .ref qe_7, .ref qd_8, .int 0])), (qk_5, .inl (y 0, 60, .inl (fun _ => 0))), (qv_6, .inl (y 0, 60, .inl (fun _ => 0))), (qe_7, .inl (y 0, 60, .inl (fun _ => 0))), (qd_8, .inl (y 0, 60, .inl (fun _ => 0))), (q_9, .inl (y 4, 40, .inr (.inr (.inr (.inr (fun _ => none))))))] := hD
  refine lv_aload_n hx hb dX6_init_26 rfl (lv_at hl 0 rfl) ?_
  refine lv_bipush (v := 8) hx hb dX6_init_27 (by decide) ?_
  refine nq_newa (atype := .int) (ty := .int) (a0 := (8, .inl (fun _ => 0))) (N' := 8) (n := 8) hx hb (hts (.arrayClass .int) (by decide +kernel)) rfl hK.1 0 rfl hP hD hS hA (fun _ => rfl) (by decide) rfl (Nat.le_of_ble_eq_true rfl) (Nat.le_of_ble_eq_true rfl) (Nat.le_of_ble_eq_true rfl) dX6_init_29 (fun q_10 H hP hD hS => ?_)
  have hP : va_P G vwCl [(h0, .inr (6, [.ref q_1, .ref q_9, .int 0, .null, .null, .int 0, .null])), (q_1, .inr (9, [.ref qk_5, .ref qv_6, .ref qe_7, .ref qd_8, .int 0])), (qk_5, .inl (y 0, 60, .inl (fun _ => 0))), (qv_6, .inl (y 0, 60, .inl (fun _ => 0))), (qe_7, .inl (y 0, 60, .inl (fun _ => 0))), (qd_8, .inl (y 0, 60, .inl (fun _ => 0))), (q_9, .inl (y 4, 40, .inr (.inr (.inr (.inr (fun _ => none)))))), (q_10, .inl (y 0, 8, .inl (fun _ => 0)))] H := hP
  have hD : va_D A [(h0, .inr (6, [.ref q_1, .ref q_9, .int 0, .null, .null, .int 0, .null])), (q_1, .inr (9, [.ref qk_5, .ref qv_6, .ref qe_7, .ref qd_8, .int 0])), (qk_5, .inl (y 0, 60, .inl (fun _ => 0))), (qv_6, .inl (y 0, 60, .inl (fun _ => 0))), (qe_7, .inl (y 0, 60, .inl (fun _ => 0))), (qd_8, .inl (y 0, 60, .inl (fun _ => 0))), (q_9, .inl (y 4, 40, .inr (.inr (.inr (.inr (fun _ => none)))))), (q_10, .inl (y 0, 8, .inl (fun _ => 0)))] := hD
  refine va_putF (D := G) (ci := 6) (v := .ref q_10) (ty := .array .int) (C := RX6) (T := TX6) (N := 7) hx hb hts inX6 tyX6 tyX6_ok nmX6 hown hK.1 hP hD hS 0 rfl rfl 3 (by decide) (hts (.fieldLink RX6 24 "NestQuery$State" "notedThings" "[I") (by decide +kernel)) (fun _ h9 => h9) rfl hin rfl (by decide +kernel) rfl rfl (Nat.le_of_ble_eq_true rfl) dX6_init_31 (fun H locs hP hD hS => ?_)
  have hP : va_P G vwCl [(h0, .inr (6, [.ref q_1, .ref q_9, .int 0, .ref q_10, .null, .int 0, .null])), (q_1, .inr (9, [.ref qk_5, .ref qv_6, .ref qe_7, .ref qd_8, .int 0])), (qk_5, .inl (y 0, 60, .inl (fun _ => 0))), (qv_6, .inl (y 0, 60, .inl (fun _ => 0))), (qe_7, .inl (y 0, 60, .inl (fun _ => 0))), (qd_8, .inl (y 0, 60, .inl (fun _ => 0))), (q_9, .inl (y 4, 40, .inr (.inr (.inr (.inr (fun _ => none)))))), (q_10, .inl (y 0, 8, .inl (fun _ => 0)))] H := hP
  have hD : va_D A [(h0, .inr (6, [.ref q_1, .ref q_9, .int 0, .ref q_10, .null, .int 0, .null])), (q_1, .inr (9, [.ref qk_5, .ref qv_6, .ref qe_7, .ref qd_8, .int 0])), (qk_5, .inl (y 0, 60, .inl (fun _ => 0))), (qv_6, .inl (y 0, 60, .inl (fun _ => 0))), (qe_7, .inl (y 0, 60, .inl (fun _ => 0))), (qd_8, .inl (y 0, 60, .inl (fun _ => 0))), (q_9, .inl (y 4, 40, .inr (.inr (.inr (.inr (fun _ => none)))))), (q_10, .inl (y 0, 8, .inl (fun _ => 0)))] := hD
  refine lv_aload_n hx hb dX6_init_34 rfl (lv_at hl 0 rfl) ?_
  refine lv_bipush (v := 8) hx hb dX6_init_35 (by decide) ?_
  refine nq_newa (atype := .boolean) (ty := .boolean) (a0 := (8, .inl (fun _ => 0))) (N' := 8) (n := 8) hx hb (hts (.arrayClass .boolean) (by decide +kernel)) rfl hK.1 2 rfl hP hD hS hA (fun _ => rfl) (by decide) rfl (Nat.le_of_ble_eq_true rfl) (Nat.le_of_ble_eq_true rfl) (Nat.le_of_ble_eq_true rfl) dX6_init_37 (fun q_11 H hP hD hS => ?_)
  have hP : va_P G vwCl [(h0, .inr (6, [.ref q_1, .ref q_9, .int 0, .ref q_10, .null, .int 0, .null])), (q_1, .inr (9, [.ref qk_5, .ref qv_6, .ref qe_7, .ref qd_8, .int 0])), (qk_5, .inl (y 0, 60, .inl (fun _ => 0))), (qv_6, .inl (y 0, 60, .inl (fun _ => 0))), (qe_7, .inl (y 0, 60, .inl (fun _ => 0))), (qd_8, .inl (y 0, 60, .inl (fun _ => 0))), (q_9, .inl (y 4, 40, .inr (.inr (.inr (.inr (fun _ => none)))))), (q_10, .inl (y 0, 8, .inl (fun _ => 0))), (q_11, .inl (y 2, 8, .inl (fun _ => 0)))] H := hP
  have hD : va_D A [(h0, .inr (6, [.ref q_1, .ref q_9, .int 0, .ref q_10, .null, .int 0, .null])), (q_1, .inr (9, [.ref qk_5, .ref qv_6, .ref qe_7, .ref qd_8, .int 0])), (qk_5, .inl (y 0, 60, .inl (fun _ => 0))), (qv_6, .inl (y 0, 60, .inl (fun _ => 0))), (qe_7, .inl (y 0, 60, .inl (fun _ => 0))), (qd_8, .inl (y 0, 60, .inl (fun _ => 0))), (q_9, .inl (y 4, 40, .inr (.inr (.inr (.inr (fun _ => none)))))), (q_10, .inl (y 0, 8, .inl (fun _ => 0))), (q_11, .inl (y 2, 8, .inl (fun _ => 0)))] := hD
  refine va_putF (D := G) (ci := 6) (v := .ref q_11) (ty := .array .boolean) (C := RX6) (T := TX6) (N := 7) hx hb hts inX6 tyX6 tyX6_ok nmX6 hown hK.1 hP hD hS 0 rfl rfl 4 (by decide) (hts (.fieldLink RX6 28 "NestQuery$State" "notedIs" "[Z") (by decide +kernel)) (fun _ h9 => h9) rfl hin rfl (by decide +kernel) rfl rfl (Nat.le_of_ble_eq_true rfl) dX6_init_39 (fun H locs hP hD hS => ?_)
  have hP : va_P G vwCl [(h0, .inr (6, [.ref q_1, .ref q_9, .int 0, .ref q_10, .ref q_11, .int 0, .null])), (q_1, .inr (9, [.ref qk_5, .ref qv_6, .ref qe_7, .ref qd_8, .int 0])), (qk_5, .inl (y 0, 60, .inl (fun _ => 0))), (qv_6, .inl (y 0, 60, .inl (fun _ => 0))), (qe_7, .inl (y 0, 60, .inl (fun _ => 0))), (qd_8, .inl (y 0, 60, .inl (fun _ => 0))), (q_9, .inl (y 4, 40, .inr (.inr (.inr (.inr (fun _ => none)))))), (q_10, .inl (y 0, 8, .inl (fun _ => 0))), (q_11, .inl (y 2, 8, .inl (fun _ => 0)))] H := hP
  have hD : va_D A [(h0, .inr (6, [.ref q_1, .ref q_9, .int 0, .ref q_10, .ref q_11, .int 0, .null])), (q_1, .inr (9, [.ref qk_5, .ref qv_6, .ref qe_7, .ref qd_8, .int 0])), (qk_5, .inl (y 0, 60, .inl (fun _ => 0))), (qv_6, .inl (y 0, 60, .inl (fun _ => 0))), (qe_7, .inl (y 0, 60, .inl (fun _ => 0))), (qd_8, .inl (y 0, 60, .inl (fun _ => 0))), (q_9, .inl (y 4, 40, .inr (.inr (.inr (.inr (fun _ => none)))))), (q_10, .inl (y 0, 8, .inl (fun _ => 0))), (q_11, .inl (y 2, 8, .inl (fun _ => 0)))] := hD
  refine lv_aload_n hx hb dX6_init_42 rfl (lv_at hl 0 rfl) ?_
  refine lv_iconst (v := 3) hx hb dX6_init_43 (by decide) ?_
  refine nq_newa (atype := .int) (ty := .int) (a0 := (3, .inl (fun _ => 0))) (N' := 3) (n := 3) hx hb (hts (.arrayClass .int) (by decide +kernel)) rfl hK.1 0 rfl hP hD hS hA (fun _ => rfl) (by decide) rfl (Nat.le_of_ble_eq_true rfl) (Nat.le_of_ble_eq_true rfl) (Nat.le_of_ble_eq_true rfl) dX6_init_44 (fun q_12 H hP hD hS => ?_)
  have hP : va_P G vwCl [(h0, .inr (6, [.ref q_1, .ref q_9, .int 0, .ref q_10, .ref q_11, .int 0, .null])), (q_1, .inr (9, [.ref qk_5, .ref qv_6, .ref qe_7, .ref qd_8, .int 0])), (qk_5, .inl (y 0, 60, .inl (fun _ => 0))), (qv_6, .inl (y 0, 60, .inl (fun _ => 0))), (qe_7, .inl (y 0, 60, .inl (fun _ => 0))), (qd_8, .inl (y 0, 60, .inl (fun _ => 0))), (q_9, .inl (y 4, 40, .inr (.inr (.inr (.inr (fun _ => none)))))), (q_10, .inl (y 0, 8, .inl (fun _ => 0))), (q_11, .inl (y 2, 8, .inl (fun _ => 0))), (q_12, .inl (y 0, 3, .inl (fun _ => 0)))] H := hP
  have hD : va_D A [(h0, .inr (6, [.ref q_1, .ref q_9, .int 0, .ref q_10, .ref q_11, .int 0, .null])), (q_1, .inr (9, [.ref qk_5, .ref qv_6, .ref qe_7, .ref qd_8, .int 0])), (qk_5, .inl (y 0, 60, .inl (fun _ => 0))), (qv_6, .inl (y 0, 60, .inl (fun _ => 0))), (qe_7, .inl (y 0, 60, .inl (fun _ => 0))), (qd_8, .inl (y 0, 60, .inl (fun _ => 0))), (q_9, .inl (y 4, 40, .inr (.inr (.inr (.inr (fun _ => none)))))), (q_10, .inl (y 0, 8, .inl (fun _ => 0))), (q_11, .inl (y 2, 8, .inl (fun _ => 0))), (q_12, .inl (y 0, 3, .inl (fun _ => 0)))] := hD
  refine va_putF (D := G) (ci := 6) (v := .ref q_12) (ty := .array .int) (C := RX6) (T := TX6) (N := 7) hx hb hts inX6 tyX6 tyX6_ok nmX6 hown hK.1 hP hD hS 0 rfl rfl 6 (by decide) (hts (.fieldLink RX6 32 "NestQuery$State" "refused" "[I") (by decide +kernel)) (fun _ h9 => h9) rfl hin rfl (by decide +kernel) rfl rfl (Nat.le_of_ble_eq_true rfl) dX6_init_46 (fun H locs hP hD hS => ?_)
  have hP : va_P G vwCl [(h0, .inr (6, [.ref q_1, .ref q_9, .int 0, .ref q_10, .ref q_11, .int 0, .ref q_12])), (q_1, .inr (9, [.ref qk_5, .ref qv_6, .ref qe_7, .ref qd_8, .int 0])), (qk_5, .inl (y 0, 60, .inl (fun _ => 0))), (qv_6, .inl (y 0, 60, .inl (fun _ => 0))), (qe_7, .inl (y 0, 60, .inl (fun _ => 0))), (qd_8, .inl (y 0, 60, .inl (fun _ => 0))), (q_9, .inl (y 4, 40, .inr (.inr (.inr (.inr (fun _ => none)))))), (q_10, .inl (y 0, 8, .inl (fun _ => 0))), (q_11, .inl (y 2, 8, .inl (fun _ => 0))), (q_12, .inl (y 0, 3, .inl (fun _ => 0)))] H := hP
  have hD : va_D A [(h0, .inr (6, [.ref q_1, .ref q_9, .int 0, .ref q_10, .ref q_11, .int 0, .ref q_12])), (q_1, .inr (9, [.ref qk_5, .ref qv_6, .ref qe_7, .ref qd_8, .int 0])), (qk_5, .inl (y 0, 60, .inl (fun _ => 0))), (qv_6, .inl (y 0, 60, .inl (fun _ => 0))), (qe_7, .inl (y 0, 60, .inl (fun _ => 0))), (qd_8, .inl (y 0, 60, .inl (fun _ => 0))), (q_9, .inl (y 4, 40, .inr (.inr (.inr (.inr (fun _ => none)))))), (q_10, .inl (y 0, 8, .inl (fun _ => 0))), (q_11, .inl (y 2, 8, .inl (fun _ => 0))), (q_12, .inl (y 0, 3, .inl (fun _ => 0)))] := hD
  have hP9 := hP.sub (ws' := [(h0, .inr (6, [.ref q_1, .ref q_9, .int 0, .ref q_10, .ref q_11, .int 0, .ref q_12])), (q_9, .inl (y 4, 40, .inr (.inr (.inr (.inr (fun _ => none)))))), (q_10, .inl (y 0, 8, .inl (fun _ => 0))), (q_11, .inl (y 2, 8, .inl (fun _ => 0))), (q_12, .inl (y 0, 3, .inl (fun _ => 0))), (q_1, .inr (9, [.ref qk_5, .ref qv_6, .ref qe_7, .ref qd_8, .int 0])), (qk_5, .inl (y 0, 60, .inl (fun _ => 0))), (qv_6, .inl (y 0, 60, .inl (fun _ => 0))), (qe_7, .inl (y 0, 60, .inl (fun _ => 0))), (qd_8, .inl (y 0, 60, .inl (fun _ => 0)))]) [0, 6, 7, 8, 9, 1, 2, 3, 4, 5] rfl
  have hD9 := hD.sub (ws' := [(h0, .inr (6, [.ref q_1, .ref q_9, .int 0, .ref q_10, .ref q_11, .int 0, .ref q_12])), (q_9, .inl (y 4, 40, .inr (.inr (.inr (.inr (fun _ => none)))))), (q_10, .inl (y 0, 8, .inl (fun _ => 0))), (q_11, .inl (y 2, 8, .inl (fun _ => 0))), (q_12, .inl (y 0, 3, .inl (fun _ => 0))), (q_1, .inr (9, [.ref qk_5, .ref qv_6, .ref qe_7, .ref qd_8, .int 0])), (qk_5, .inl (y 0, 60, .inl (fun _ => 0))), (qv_6, .inl (y 0, 60, .inl (fun _ => 0))), (qe_7, .inl (y 0, 60, .inl (fun _ => 0))), (qd_8, .inl (y 0, 60, .inl (fun _ => 0)))]) [0, 6, 7, 8, 9, 1, 2, 3, 4, 5] (by decide) rfl
  refine W.widen (k := 9) (n := 304) (Nat.le_of_ble_eq_true rfl) (Nat.le_of_ble_eq_true rfl) ?_
  exact W.vret hx hb hr (fun t ht hW => ⟨⟨(q_1, q_9, q_10, q_11, q_12, qk_5, qv_6, qe_7, qd_8), rfl, trivial, by rw [ht]; exact hP9, by first | exact hD9 | (rw [hAe]; exact hD9)⟩, hS.F ht⟩) hS.2.2 dX6_init_49

set_option maxHeartbeats 4000000 in
set_option maxRecDepth 100000 in
theorem i_Acts (l : Launch) (G : va_G) (y : Nat → ClassId) (sz : Nat) (h0 : Nat) (t : Nat)  : Met l yX0_init wsX0_init ({ frames := 2, cells := 11, slots := 1162, locals := 42 }) (nq_P G y sz [.ref h0, .ref t] [(h0, .inr (0, [.null, .null, .null, .null]))]) (va_Qv (fun (_ : Nat × Nat × Nat × Nat × Nat × Nat × Nat × Nat × Nat × Nat × Nat) => True) (fun (u : Nat × Nat × Nat × Nat × Nat × Nat × Nat × Nat × Nat × Nat × Nat) t9 => va_P G vwCl ([(h0, .inr (0, [.ref t, .ref u.1, .ref u.2.1, .ref u.2.2.1])), (u.2.2.1, .inl (y 0, 128, .inl (fun _ => 0))), (u.1, .inr (9, [.ref u.2.2.2.1, .ref u.2.2.2.2.1, .ref u.2.2.2.2.2.1, .ref u.2.2.2.2.2.2.1, .int 0])), (u.2.2.2.1, .inl (y 0, 128, .inl (fun _ => 0))), (u.2.2.2.2.1, .inl (y 0, 128, .inl (fun _ => 0))), (u.2.2.2.2.2.1, .inl (y 0, 128, .inl (fun _ => 0))), (u.2.2.2.2.2.2.1, .inl (y 0, 128, .inl (fun _ => 0))), (u.2.1, .inr (9, [.ref u.2.2.2.2.2.2.2.1, .ref u.2.2.2.2.2.2.2.2.1, .ref u.2.2.2.2.2.2.2.2.2.1, .ref u.2.2.2.2.2.2.2.2.2.2, .int 0])), (u.2.2.2.2.2.2.2.1, .inl (y 0, 128, .inl (fun _ => 0))), (u.2.2.2.2.2.2.2.2.1, .inl (y 0, 128, .inl (fun _ => 0))), (u.2.2.2.2.2.2.2.2.2.1, .inl (y 0, 128, .inl (fun _ => 0))), (u.2.2.2.2.2.2.2.2.2.2, .inl (y 0, 128, .inl (fun _ => 0)))]) t9.heap ∧ va_D (va_A [(h0, .inr (0, [.null, .null, .null, .null]))] sz) ([(h0, .inr (0, [.ref t, .ref u.1, .ref u.2.1, .ref u.2.2.1])), (u.2.2.1, .inl (y 0, 128, .inl (fun _ => 0))), (u.1, .inr (9, [.ref u.2.2.2.1, .ref u.2.2.2.2.1, .ref u.2.2.2.2.2.1, .ref u.2.2.2.2.2.2.1, .int 0])), (u.2.2.2.1, .inl (y 0, 128, .inl (fun _ => 0))), (u.2.2.2.2.1, .inl (y 0, 128, .inl (fun _ => 0))), (u.2.2.2.2.2.1, .inl (y 0, 128, .inl (fun _ => 0))), (u.2.2.2.2.2.2.1, .inl (y 0, 128, .inl (fun _ => 0))), (u.2.1, .inr (9, [.ref u.2.2.2.2.2.2.2.1, .ref u.2.2.2.2.2.2.2.2.1, .ref u.2.2.2.2.2.2.2.2.2.1, .ref u.2.2.2.2.2.2.2.2.2.2, .int 0])), (u.2.2.2.2.2.2.2.1, .inl (y 0, 128, .inl (fun _ => 0))), (u.2.2.2.2.2.2.2.2.1, .inl (y 0, 128, .inl (fun _ => 0))), (u.2.2.2.2.2.2.2.2.2.1, .inl (y 0, 128, .inl (fun _ => 0))), (u.2.2.2.2.2.2.2.2.2.2, .inl (y 0, 128, .inl (fun _ => 0)))])) (va_A [(h0, .inr (0, [.null, .null, .null, .null]))] sz)) 11 1162 (va_A [(h0, .inr (0, [.null, .null, .null, .null]))] sz) := by
  refine Met.ofW (cc := cX0_init) (maxL := 2) (ret := none) (by decide) rfl ?_
  intro p e s m args below meth c s₁ B hml hv
  obtain ⟨rfl, hsz, hP, hK, hD0⟩ := hv
  have hx := B.exec
  have hb := B.bytes
  have hr := B.returns
  have hts := atoms_spec (ws := wsX0_init) B.pre
  have hown : s.vm.findClass RX0 = some m.cls := findClass_of_methodNamed B.named
  have hlocks := B.notSynchronized
  have hin : meth.name = "<init>" := (name_of_methodNamed B.named B.method).1
  subst hsz
  have hD := hD0.self (sz := s.heap.size)
  generalize hAe : va_A [(h0, .inr (0, [.null, .null, .null, .null]))] s.heap.size = A at hD ⊢
  have hA : ∀ q : Nat, s.heap.size ≤ q → A q := fun q h => by rw [← hAe]; exact Or.inr h
  have hS : va_S A s.heap s.heap [] := va_S.rf
  have hP : va_P G vwCl [(h0, .inr (0, [.null, .null, .null, .null]))] s.heap := hP
  have inX0 : ∀ w ∈ wsX00, w ∈ wsX0_init := by decide +kernel
  have inX9 : ∀ w ∈ wsX90, w ∈ wsX0_init := by decide +kernel
  have hl := lv_entry ([.ref h0, .ref t]) (n := 2) (Nat.le_of_ble_eq_true rfl)
  rw [lg_entry_eq]
  generalize (lg_sl ([.ref h0, .ref t]) ++ List.replicate (2 - (lg_sl ([.ref h0, .ref t])).length) Slot.unset).toArray = ls at hl ⊢
  have hl : lv_has ls 2 [(0, .ref h0), (1, .ref t)] := hl
  refine lv_aload_n hx hb dX0_init_0 rfl (lv_at hl 0 rfl) ?_
  refine W.objInit hx hb hown (hts (.methodLink RX0 3 objectInit) (by decide +kernel)) (hts (.instanceMethod objectInit) (by decide +kernel)) (hts (.code objectInit ⟨#[0xb1]⟩ 1 none) (by decide +kernel)) rfl (by rw [hml]; exact hl.1) rfl dX0_init_1 (Nat.le_of_ble_eq_true rfl) (Nat.le_of_ble_eq_true rfl) ?_
  refine W.eq (g2 := F0 m 4 ls []) rfl ?_
  refine lv_aload_n hx hb dX0_init_4 rfl (lv_at hl 0 rfl) ?_
  refine va_new (D := G) (ci := 9) (fs := [.null, .null, .null, .null, .int 0]) (C := RX9) (T := TX9) (N := 5) hx hb hts inX9 tyX9 tyX9_ok hown (hts (.classLink RX0 9 RX9) (by decide +kernel)) (hts (.instantiable RX9 5) (by decide +kernel)) (hts (.initialized RX9) (by decide +kernel)) hK.1 hP hD hS hA rfl (nq_defX9) (Nat.le_of_ble_eq_true rfl) (Nat.le_of_ble_eq_true rfl) dX0_init_5 (fun q_1 H hP hD hS => ?_)
  have hP : va_P G vwCl [(h0, .inr (0, [.null, .null, .null, .null])), (q_1, .inr (9, [.null, .null, .null, .null, .int 0]))] H := hP
  have hD : va_D A [(h0, .inr (0, [.null, .null, .null, .null])), (q_1, .inr (9, [.null, .null, .null, .null, .int 0]))] := hD
  refine lv_dup hx hb dX0_init_8 rfl ?_
  refine lv_sipush (v := 128) hx hb dX0_init_9 (by decide) ?_
  refine nq_wrv (wr := [(h0, .inr (0, [.null, .null, .null, .null]))]) (va_runI (As := [.int 128]) (rest := [.ref q_1, .ref h0]) ⟨hx, hb, hml, hown, hts⟩ (i_Tree128 l G y H.size q_1 ) (cwI 1 hts gX0_init_X9_init rfl rfl rfl (hts (.initialized RX9) (by decide +kernel)) (hts (.methodLink RX0 11 yX9_init) (by decide +kernel)) (hts (.instanceMethod yX9_init) (by decide +kernel)) rfl (by decide +kernel) ⟨Nat.le_of_ble_eq_true rfl, Nat.le_of_ble_eq_true rfl⟩) (nq_PS hK hP hD [1] rfl rfl) rfl rfl hl.1 rfl (lv_room (Nat.le_of_ble_eq_true rfl)) dX0_init_12 ⟨Nat.le_of_ble_eq_true rfl, Nat.le_of_ble_eq_true rfl⟩) hP hD hS hA [1] [0] rfl rfl (by decide) (by decide) (fun u_2 H locs hw_3 hP hD hS => ?_)
  obtain ⟨qk_5, qv_6, qe_7, qd_8⟩ := u_2
  have hP : va_P G vwCl [(h0, .inr (0, [.null, .null, .null, .null])), (q_1, .inr (9, [.ref qk_5, .ref qv_6, .ref qe_7, .ref qd_8, .int 0])), (qk_5, .inl (y 0, 128, .inl (fun _ => 0))), (qv_6, .inl (y 0, 128, .inl (fun _ => 0))), (qe_7, .inl (y 0, 128, .inl (fun _ => 0))), (qd_8, .inl (y 0, 128, .inl (fun _ => 0)))] H := hP
  have hD : va_D A [(h0, .inr (0, [.null, .null, .null, .null])), (q_1, .inr (9, [.ref qk_5, .ref qv_6, .ref qe_7, .ref qd_8, .int 0])), (qk_5, .inl (y 0, 128, .inl (fun _ => 0))), (qv_6, .inl (y 0, 128, .inl (fun _ => 0))), (qe_7, .inl (y 0, 128, .inl (fun _ => 0))), (qd_8, .inl (y 0, 128, .inl (fun _ => 0)))] := hD
  refine va_putF (D := G) (ci := 0) (v := .ref q_1) (ty := .object "NestQuery$Tree") (C := RX0) (T := TX0) (N := 4) hx hb hts inX0 tyX0 tyX0_ok nmX0 hown hK.1 hP hD hS 0 rfl rfl 1 (by decide) (hts (.fieldLink RX0 14 "NestQuery$Acts" "work" "LNestQuery$Tree;") (by decide +kernel)) (fun _ h9 => h9) rfl hin rfl (by decide +kernel) rfl rfl (Nat.le_of_ble_eq_true rfl) dX0_init_15 (fun H locs hP hD hS => ?_)
  have hP : va_P G vwCl [(h0, .inr (0, [.null, .ref q_1, .null, .null])), (q_1, .inr (9, [.ref qk_5, .ref qv_6, .ref qe_7, .ref qd_8, .int 0])), (qk_5, .inl (y 0, 128, .inl (fun _ => 0))), (qv_6, .inl (y 0, 128, .inl (fun _ => 0))), (qe_7, .inl (y 0, 128, .inl (fun _ => 0))), (qd_8, .inl (y 0, 128, .inl (fun _ => 0)))] H := hP
  have hD : va_D A [(h0, .inr (0, [.null, .ref q_1, .null, .null])), (q_1, .inr (9, [.ref qk_5, .ref qv_6, .ref qe_7, .ref qd_8, .int 0])), (qk_5, .inl (y 0, 128, .inl (fun _ => 0))), (qv_6, .inl (y 0, 128, .inl (fun _ => 0))), (qe_7, .inl (y 0, 128, .inl (fun _ => 0))), (qd_8, .inl (y 0, 128, .inl (fun _ => 0)))] := hD
  refine lv_aload_n hx hb dX0_init_18 rfl (lv_at hl 0 rfl) ?_
  refine va_new (D := G) (ci := 9) (fs := [.null, .null, .null, .null, .int 0]) (C := RX9) (T := TX9) (N := 5) hx hb hts inX9 tyX9 tyX9_ok hown (hts (.classLink RX0 9 RX9) (by decide +kernel)) (hts (.instantiable RX9 5) (by decide +kernel)) (hts (.initialized RX9) (by decide +kernel)) hK.1 hP hD hS hA rfl (nq_defX9) (Nat.le_of_ble_eq_true rfl) (Nat.le_of_ble_eq_true rfl) dX0_init_19 (fun q_9 H hP hD hS => ?_)
  have hP : va_P G vwCl [(h0, .inr (0, [.null, .ref q_1, .null, .null])), (q_1, .inr (9, [.ref qk_5, .ref qv_6, .ref qe_7, .ref qd_8, .int 0])), (qk_5, .inl (y 0, 128, .inl (fun _ => 0))), (qv_6, .inl (y 0, 128, .inl (fun _ => 0))), (qe_7, .inl (y 0, 128, .inl (fun _ => 0))), (qd_8, .inl (y 0, 128, .inl (fun _ => 0))), (q_9, .inr (9, [.null, .null, .null, .null, .int 0]))] H := hP
  have hD : va_D A [(h0, .inr (0, [.null, .ref q_1, .null, .null])), (q_1, .inr (9, [.ref qk_5, .ref qv_6, .ref qe_7, .ref qd_8, .int 0])), (qk_5, .inl (y 0, 128, .inl (fun _ => 0))), (qv_6, .inl (y 0, 128, .inl (fun _ => 0))), (qe_7, .inl (y 0, 128, .inl (fun _ => 0))), (qd_8, .inl (y 0, 128, .inl (fun _ => 0))), (q_9, .inr (9, [.null, .null, .null, .null, .int 0]))] := hD
  refine lv_dup hx hb dX0_init_22 rfl ?_
  refine lv_sipush (v := 128) hx hb dX0_init_23 (by decide) ?_
  refine nq_wrv (wr := [(h0, .inr (0, [.null, .ref q_1, .null, .null])), (q_1, .inr (9, [.ref qk_5, .ref qv_6, .ref qe_7, .ref qd_8, .int 0])), (qk_5, .inl (y 0, 128, .inl (fun _ => 0))), (qv_6, .inl (y 0, 128, .inl (fun _ => 0))), (qe_7, .inl (y 0, 128, .inl (fun _ => 0))), (qd_8, .inl (y 0, 128, .inl (fun _ => 0)))]) (va_runI (As := [.int 128]) (rest := [.ref q_9, .ref h0]) ⟨hx, hb, hml, hown, hts⟩ (i_Tree128 l G y H.size q_9 ) (cwI 1 hts gX0_init_X9_init rfl rfl rfl (hts (.initialized RX9) (by decide +kernel)) (hts (.methodLink RX0 11 yX9_init) (by decide +kernel)) (hts (.instanceMethod yX9_init) (by decide +kernel)) rfl (by decide +kernel) ⟨Nat.le_of_ble_eq_true rfl, Nat.le_of_ble_eq_true rfl⟩) (nq_PS hK hP hD [6] rfl rfl) rfl rfl hl.1 rfl (lv_room (Nat.le_of_ble_eq_true rfl)) dX0_init_26 ⟨Nat.le_of_ble_eq_true rfl, Nat.le_of_ble_eq_true rfl⟩) hP hD hS hA [6] [0, 1, 2, 3, 4, 5] rfl rfl (by decide) (by decide) (fun u_10 H locs hw_11 hP hD hS => ?_)
  obtain ⟨qk_13, qv_14, qe_15, qd_16⟩ := u_10
  have hP : va_P G vwCl [(h0, .inr (0, [.null, .ref q_1, .null, .null])), (q_1, .inr (9, [.ref qk_5, .ref qv_6, .ref qe_7, .ref qd_8, .int 0])), (qk_5, .inl (y 0, 128, .inl (fun _ => 0))), (qv_6, .inl (y 0, 128, .inl (fun _ => 0))), (qe_7, .inl (y 0, 128, .inl (fun _ => 0))), (qd_8, .inl (y 0, 128, .inl (fun _ => 0))), (q_9, .inr (9, [.ref qk_13, .ref qv_14, .ref qe_15, .ref qd_16, .int 0])), (qk_13, .inl (y 0, 128, .inl (fun _ => 0))), (qv_14, .inl (y 0, 128, .inl (fun _ => 0))), (qe_15, .inl (y 0, 128, .inl (fun _ => 0))), (qd_16, .inl (y 0, 128, .inl (fun _ => 0)))] H := hP
  have hD : va_D A [(h0, .inr (0, [.null, .ref q_1, .null, .null])), (q_1, .inr (9, [.ref qk_5, .ref qv_6, .ref qe_7, .ref qd_8, .int 0])), (qk_5, .inl (y 0, 128, .inl (fun _ => 0))), (qv_6, .inl (y 0, 128, .inl (fun _ => 0))), (qe_7, .inl (y 0, 128, .inl (fun _ => 0))), (qd_8, .inl (y 0, 128, .inl (fun _ => 0))), (q_9, .inr (9, [.ref qk_13, .ref qv_14, .ref qe_15, .ref qd_16, .int 0])), (qk_13, .inl (y 0, 128, .inl (fun _ => 0))), (qv_14, .inl (y 0, 128, .inl (fun _ => 0))), (qe_15, .inl (y 0, 128, .inl (fun _ => 0))), (qd_16, .inl (y 0, 128, .inl (fun _ => 0)))] := hD
  refine va_putF (D := G) (ci := 0) (v := .ref q_9) (ty := .object "NestQuery$Tree") (C := RX0) (T := TX0) (N := 4) hx hb hts inX0 tyX0 tyX0_ok nmX0 hown hK.1 hP hD hS 0 rfl rfl 2 (by decide) (hts (.fieldLink RX0 20 "NestQuery$Acts" "moved" "LNestQuery$Tree;") (by decide +kernel)) (fun _ h9 => h9) rfl hin rfl (by decide +kernel) rfl rfl (Nat.le_of_ble_eq_true rfl) dX0_init_29 (fun H locs hP hD hS => ?_)
  have hP : va_P G vwCl [(h0, .inr (0, [.null, .ref q_1, .ref q_9, .null])), (q_1, .inr (9, [.ref qk_5, .ref qv_6, .ref qe_7, .ref qd_8, .int 0])), (qk_5, .inl (y 0, 128, .inl (fun _ => 0))), (qv_6, .inl (y 0, 128, .inl (fun _ => 0))), (qe_7, .inl (y 0, 128, .inl (fun _ => 0))), (qd_8, .inl (y 0, 128, .inl (fun _ => 0))), (q_9, .inr (9, [.ref qk_13, .ref qv_14, .ref qe_15, .ref qd_16, .int 0])), (qk_13, .inl (y 0, 128, .inl (fun _ => 0))), (qv_14, .inl (y 0, 128, .inl (fun _ => 0))), (qe_15, .inl (y 0, 128, .inl (fun _ => 0))), (qd_16, .inl (y 0, 128, .inl (fun _ => 0)))] H := hP
  have hD : va_D A [(h0, .inr (0, [.null, .ref q_1, .ref q_9, .null])), (q_1, .inr (9, [.ref qk_5, .ref qv_6, .ref qe_7, .ref qd_8, .int 0])), (qk_5, .inl (y 0, 128, .inl (fun _ => 0))), (qv_6, .inl (y 0, 128, .inl (fun _ => 0))), (qe_7, .inl (y 0, 128, .inl (fun _ => 0))), (qd_8, .inl (y 0, 128, .inl (fun _ => 0))), (q_9, .inr (9, [.ref qk_13, .ref qv_14, .ref qe_15, .ref qd_16, .int 0])), (qk_13, .inl (y 0, 128, .inl (fun _ => 0))), (qv_14, .inl (y 0, 128, .inl (fun _ => 0))), (qe_15, .inl (y 0, 128, .inl (fun _ => 0))), (qd_16, .inl (y 0, 128, .inl (fun _ => 0)))] := hD
  refine lv_aload_n hx hb dX0_init_32 rfl (lv_at hl 0 rfl) ?_
  refine lv_sipush (v := 128) hx hb dX0_init_33 (by decide) ?_
  refine nq_newa (atype := .int) (ty := .int) (a0 := (128, .inl (fun _ => 0))) (N' := 128) (n := 128) hx hb (hts (.arrayClass .int) (by decide +kernel)) rfl hK.1 0 rfl hP hD hS hA (fun _ => rfl) (by decide) rfl (Nat.le_of_ble_eq_true rfl) (Nat.le_of_ble_eq_true rfl) (Nat.le_of_ble_eq_true rfl) dX0_init_36 (fun q_17 H hP hD hS => ?_)
  have hP : va_P G vwCl [(h0, .inr (0, [.null, .ref q_1, .ref q_9, .null])), (q_1, .inr (9, [.ref qk_5, .ref qv_6, .ref qe_7, .ref qd_8, .int 0])), (qk_5, .inl (y 0, 128, .inl (fun _ => 0))), (qv_6, .inl (y 0, 128, .inl (fun _ => 0))), (qe_7, .inl (y 0, 128, .inl (fun _ => 0))), (qd_8, .inl (y 0, 128, .inl (fun _ => 0))), (q_9, .inr (9, [.ref qk_13, .ref qv_14, .ref qe_15, .ref qd_16, .int 0])), (qk_13, .inl (y 0, 128, .inl (fun _ => 0))), (qv_14, .inl (y 0, 128, .inl (fun _ => 0))), (qe_15, .inl (y 0, 128, .inl (fun _ => 0))), (qd_16, .inl (y 0, 128, .inl (fun _ => 0))), (q_17, .inl (y 0, 128, .inl (fun _ => 0)))] H := hP
  have hD : va_D A [(h0, .inr (0, [.null, .ref q_1, .ref q_9, .null])), (q_1, .inr (9, [.ref qk_5, .ref qv_6, .ref qe_7, .ref qd_8, .int 0])), (qk_5, .inl (y 0, 128, .inl (fun _ => 0))), (qv_6, .inl (y 0, 128, .inl (fun _ => 0))), (qe_7, .inl (y 0, 128, .inl (fun _ => 0))), (qd_8, .inl (y 0, 128, .inl (fun _ => 0))), (q_9, .inr (9, [.ref qk_13, .ref qv_14, .ref qe_15, .ref qd_16, .int 0])), (qk_13, .inl (y 0, 128, .inl (fun _ => 0))), (qv_14, .inl (y 0, 128, .inl (fun _ => 0))), (qe_15, .inl (y 0, 128, .inl (fun _ => 0))), (qd_16, .inl (y 0, 128, .inl (fun _ => 0))), (q_17, .inl (y 0, 128, .inl (fun _ => 0)))] := hD
  refine va_putF (D := G) (ci := 0) (v := .ref q_17) (ty := .array .int) (C := RX0) (T := TX0) (N := 4) hx hb hts inX0 tyX0 tyX0_ok nmX0 hown hK.1 hP hD hS 0 rfl rfl 3 (by decide) (hts (.fieldLink RX0 23 "NestQuery$Acts" "order" "[I") (by decide +kernel)) (fun _ h9 => h9) rfl hin rfl (by decide +kernel) rfl rfl (Nat.le_of_ble_eq_true rfl) dX0_init_38 (fun H locs hP hD hS => ?_)
  have hP : va_P G vwCl [(h0, .inr (0, [.null, .ref q_1, .ref q_9, .ref q_17])), (q_1, .inr (9, [.ref qk_5, .ref qv_6, .ref qe_7, .ref qd_8, .int 0])), (qk_5, .inl (y 0, 128, .inl (fun _ => 0))), (qv_6, .inl (y 0, 128, .inl (fun _ => 0))), (qe_7, .inl (y 0, 128, .inl (fun _ => 0))), (qd_8, .inl (y 0, 128, .inl (fun _ => 0))), (q_9, .inr (9, [.ref qk_13, .ref qv_14, .ref qe_15, .ref qd_16, .int 0])), (qk_13, .inl (y 0, 128, .inl (fun _ => 0))), (qv_14, .inl (y 0, 128, .inl (fun _ => 0))), (qe_15, .inl (y 0, 128, .inl (fun _ => 0))), (qd_16, .inl (y 0, 128, .inl (fun _ => 0))), (q_17, .inl (y 0, 128, .inl (fun _ => 0)))] H := hP
  have hD : va_D A [(h0, .inr (0, [.null, .ref q_1, .ref q_9, .ref q_17])), (q_1, .inr (9, [.ref qk_5, .ref qv_6, .ref qe_7, .ref qd_8, .int 0])), (qk_5, .inl (y 0, 128, .inl (fun _ => 0))), (qv_6, .inl (y 0, 128, .inl (fun _ => 0))), (qe_7, .inl (y 0, 128, .inl (fun _ => 0))), (qd_8, .inl (y 0, 128, .inl (fun _ => 0))), (q_9, .inr (9, [.ref qk_13, .ref qv_14, .ref qe_15, .ref qd_16, .int 0])), (qk_13, .inl (y 0, 128, .inl (fun _ => 0))), (qv_14, .inl (y 0, 128, .inl (fun _ => 0))), (qe_15, .inl (y 0, 128, .inl (fun _ => 0))), (qd_16, .inl (y 0, 128, .inl (fun _ => 0))), (q_17, .inl (y 0, 128, .inl (fun _ => 0)))] := hD
  refine lv_aload_n hx hb dX0_init_41 rfl (lv_at hl 0 rfl) ?_
  refine lv_aload_n hx hb dX0_init_42 rfl (lv_at hl 1 rfl) ?_
  refine va_putF (D := G) (ci := 0) (v := .ref t) (ty := .object "NestQuery$State") (C := RX0) (T := TX0) (N := 4) hx hb hts inX0 tyX0 tyX0_ok nmX0 hown hK.1 hP hD hS 0 rfl rfl 0 (by decide) (hts (.fieldLink RX0 27 "NestQuery$Acts" "now" "LNestQuery$State;") (by decide +kernel)) (fun _ h9 => h9) rfl hin rfl (by decide +kernel) rfl rfl (Nat.le_of_ble_eq_true rfl) dX0_init_43 (fun H locs hP hD hS => ?_)
  have hP : va_P G vwCl [(h0, .inr (0, [.ref t, .ref q_1, .ref q_9, .ref q_17])), (q_1, .inr (9, [.ref qk_5, .ref qv_6, .ref qe_7, .ref qd_8, .int 0])), (qk_5, .inl (y 0, 128, .inl (fun _ => 0))), (qv_6, .inl (y 0, 128, .inl (fun _ => 0))), (qe_7, .inl (y 0, 128, .inl (fun _ => 0))), (qd_8, .inl (y 0, 128, .inl (fun _ => 0))), (q_9, .inr (9, [.ref qk_13, .ref qv_14, .ref qe_15, .ref qd_16, .int 0])), (qk_13, .inl (y 0, 128, .inl (fun _ => 0))), (qv_14, .inl (y 0, 128, .inl (fun _ => 0))), (qe_15, .inl (y 0, 128, .inl (fun _ => 0))), (qd_16, .inl (y 0, 128, .inl (fun _ => 0))), (q_17, .inl (y 0, 128, .inl (fun _ => 0)))] H := hP
  have hD : va_D A [(h0, .inr (0, [.ref t, .ref q_1, .ref q_9, .ref q_17])), (q_1, .inr (9, [.ref qk_5, .ref qv_6, .ref qe_7, .ref qd_8, .int 0])), (qk_5, .inl (y 0, 128, .inl (fun _ => 0))), (qv_6, .inl (y 0, 128, .inl (fun _ => 0))), (qe_7, .inl (y 0, 128, .inl (fun _ => 0))), (qd_8, .inl (y 0, 128, .inl (fun _ => 0))), (q_9, .inr (9, [.ref qk_13, .ref qv_14, .ref qe_15, .ref qd_16, .int 0])), (qk_13, .inl (y 0, 128, .inl (fun _ => 0))), (qv_14, .inl (y 0, 128, .inl (fun _ => 0))), (qe_15, .inl (y 0, 128, .inl (fun _ => 0))), (qd_16, .inl (y 0, 128, .inl (fun _ => 0))), (q_17, .inl (y 0, 128, .inl (fun _ => 0)))] := hD
  have hP9 := hP.sub (ws' := [(h0, .inr (0, [.ref t, .ref q_1, .ref q_9, .ref q_17])), (q_17, .inl (y 0, 128, .inl (fun _ => 0))), (q_1, .inr (9, [.ref qk_5, .ref qv_6, .ref qe_7, .ref qd_8, .int 0])), (qk_5, .inl (y 0, 128, .inl (fun _ => 0))), (qv_6, .inl (y 0, 128, .inl (fun _ => 0))), (qe_7, .inl (y 0, 128, .inl (fun _ => 0))), (qd_8, .inl (y 0, 128, .inl (fun _ => 0))), (q_9, .inr (9, [.ref qk_13, .ref qv_14, .ref qe_15, .ref qd_16, .int 0])), (qk_13, .inl (y 0, 128, .inl (fun _ => 0))), (qv_14, .inl (y 0, 128, .inl (fun _ => 0))), (qe_15, .inl (y 0, 128, .inl (fun _ => 0))), (qd_16, .inl (y 0, 128, .inl (fun _ => 0)))]) [0, 11, 1, 2, 3, 4, 5, 6, 7, 8, 9, 10] rfl
  have hD9 := hD.sub (ws' := [(h0, .inr (0, [.ref t, .ref q_1, .ref q_9, .ref q_17])), (q_17, .inl (y 0, 128, .inl (fun _ => 0))), (q_1, .inr (9, [.ref qk_5, .ref qv_6, .ref qe_7, .ref qd_8, .int 0])), (qk_5, .inl (y 0, 128, .inl (fun _ => 0))), (qv_6, .inl (y 0, 128, .inl (fun _ => 0))), (qe_7, .inl (y 0, 128, .inl (fun _ => 0))), (qd_8, .inl (y 0, 128, .inl (fun _ => 0))), (q_9, .inr (9, [.ref qk_13, .ref qv_14, .ref qe_15, .ref qd_16, .int 0])), (qk_13, .inl (y 0, 128, .inl (fun _ => 0))), (qv_14, .inl (y 0, 128, .inl (fun _ => 0))), (qe_15, .inl (y 0, 128, .inl (fun _ => 0))), (qd_16, .inl (y 0, 128, .inl (fun _ => 0)))]) [0, 11, 1, 2, 3, 4, 5, 6, 7, 8, 9, 10] (by decide) rfl
  refine W.widen (k := 11) (n := 1162) (Nat.le_of_ble_eq_true rfl) (Nat.le_of_ble_eq_true rfl) ?_
  exact W.vret hx hb hr (fun t ht hW => ⟨⟨(q_1, q_9, q_17, qk_5, qv_6, qe_7, qd_8, qk_13, qv_14, qe_15, qd_16), rfl, trivial, by rw [ht]; exact hP9, by first | exact hD9 | (rw [hAe]; exact hD9)⟩, hS.F ht⟩) hS.2.2 dX0_init_46

set_option maxHeartbeats 4000000 in
set_option maxRecDepth 100000 in
theorem i_Patch (l : Launch) (G : va_G) (y : Nat → ClassId) (sz : Nat) (h0 : Nat)  : Met l yX3_init wsX3_init ({ frames := 2, cells := 12, slots := 730, locals := 42 }) (nq_P G y sz [.ref h0] [(h0, .inr (3, [.null, .null, .null, .null, .int 0]))]) (va_Qv (fun (_ : Nat × Nat × Nat × Nat × Nat × Nat × Nat × Nat × Nat × Nat × Nat × Nat) => True) (fun (u : Nat × Nat × Nat × Nat × Nat × Nat × Nat × Nat × Nat × Nat × Nat × Nat) t9 => va_P G vwCl ([(h0, .inr (3, [.ref u.1, .ref u.2.1, .ref u.2.2.1, .ref u.2.2.2.1, .int 0])), (u.2.2.1, .inl (y 0, 120, .inl (fun _ => 0))), (u.2.2.2.1, .inl (y 0, 120, .inl (fun _ => 0))), (u.1, .inr (9, [.ref u.2.2.2.2.1, .ref u.2.2.2.2.2.1, .ref u.2.2.2.2.2.2.1, .ref u.2.2.2.2.2.2.2.1, .int 0])), (u.2.2.2.2.1, .inl (y 0, 60, .inl (fun _ => 0))), (u.2.2.2.2.2.1, .inl (y 0, 60, .inl (fun _ => 0))), (u.2.2.2.2.2.2.1, .inl (y 0, 60, .inl (fun _ => 0))), (u.2.2.2.2.2.2.2.1, .inl (y 0, 60, .inl (fun _ => 0))), (u.2.1, .inr (9, [.ref u.2.2.2.2.2.2.2.2.1, .ref u.2.2.2.2.2.2.2.2.2.1, .ref u.2.2.2.2.2.2.2.2.2.2.1, .ref u.2.2.2.2.2.2.2.2.2.2.2, .int 0])), (u.2.2.2.2.2.2.2.2.1, .inl (y 0, 60, .inl (fun _ => 0))), (u.2.2.2.2.2.2.2.2.2.1, .inl (y 0, 60, .inl (fun _ => 0))), (u.2.2.2.2.2.2.2.2.2.2.1, .inl (y 0, 60, .inl (fun _ => 0))), (u.2.2.2.2.2.2.2.2.2.2.2, .inl (y 0, 60, .inl (fun _ => 0)))]) t9.heap ∧ va_D (va_A [(h0, .inr (3, [.null, .null, .null, .null, .int 0]))] sz) ([(h0, .inr (3, [.ref u.1, .ref u.2.1, .ref u.2.2.1, .ref u.2.2.2.1, .int 0])), (u.2.2.1, .inl (y 0, 120, .inl (fun _ => 0))), (u.2.2.2.1, .inl (y 0, 120, .inl (fun _ => 0))), (u.1, .inr (9, [.ref u.2.2.2.2.1, .ref u.2.2.2.2.2.1, .ref u.2.2.2.2.2.2.1, .ref u.2.2.2.2.2.2.2.1, .int 0])), (u.2.2.2.2.1, .inl (y 0, 60, .inl (fun _ => 0))), (u.2.2.2.2.2.1, .inl (y 0, 60, .inl (fun _ => 0))), (u.2.2.2.2.2.2.1, .inl (y 0, 60, .inl (fun _ => 0))), (u.2.2.2.2.2.2.2.1, .inl (y 0, 60, .inl (fun _ => 0))), (u.2.1, .inr (9, [.ref u.2.2.2.2.2.2.2.2.1, .ref u.2.2.2.2.2.2.2.2.2.1, .ref u.2.2.2.2.2.2.2.2.2.2.1, .ref u.2.2.2.2.2.2.2.2.2.2.2, .int 0])), (u.2.2.2.2.2.2.2.2.1, .inl (y 0, 60, .inl (fun _ => 0))), (u.2.2.2.2.2.2.2.2.2.1, .inl (y 0, 60, .inl (fun _ => 0))), (u.2.2.2.2.2.2.2.2.2.2.1, .inl (y 0, 60, .inl (fun _ => 0))), (u.2.2.2.2.2.2.2.2.2.2.2, .inl (y 0, 60, .inl (fun _ => 0)))])) (va_A [(h0, .inr (3, [.null, .null, .null, .null, .int 0]))] sz)) 12 730 (va_A [(h0, .inr (3, [.null, .null, .null, .null, .int 0]))] sz) := by
  refine Met.ofW (cc := cX3_init) (maxL := 1) (ret := none) (by decide) rfl ?_
  intro p e s m args below meth c s₁ B hml hv
  obtain ⟨rfl, hsz, hP, hK, hD0⟩ := hv
  have hx := B.exec
  have hb := B.bytes
  have hr := B.returns
  have hts := atoms_spec (ws := wsX3_init) B.pre
  have hown : s.vm.findClass RX3 = some m.cls := findClass_of_methodNamed B.named
  have hlocks := B.notSynchronized
  have hin : meth.name = "<init>" := (name_of_methodNamed B.named B.method).1
  subst hsz
  have hD := hD0.self (sz := s.heap.size)
  generalize hAe : va_A [(h0, .inr (3, [.null, .null, .null, .null, .int 0]))] s.heap.size = A at hD ⊢
  have hA : ∀ q : Nat, s.heap.size ≤ q → A q := fun q h => by rw [← hAe]; exact Or.inr h
  have hS : va_S A s.heap s.heap [] := va_S.rf
  have hP : va_P G vwCl [(h0, .inr (3, [.null, .null, .null, .null, .int 0]))] s.heap := hP
  have inX3 : ∀ w ∈ wsX30, w ∈ wsX3_init := by decide +kernel
  have inX9 : ∀ w ∈ wsX90, w ∈ wsX3_init := by decide +kernel
  have hl := lv_entry ([.ref h0]) (n := 1) (Nat.le_of_ble_eq_true rfl)
  rw [lg_entry_eq]
  generalize (lg_sl ([.ref h0]) ++ List.replicate (1 - (lg_sl ([.ref h0])).length) Slot.unset).toArray = ls at hl ⊢
  have hl : lv_has ls 1 [(0, .ref h0)] := hl
  refine lv_aload_n hx hb dX3_init_0 rfl (lv_at hl 0 rfl) ?_
  refine W.objInit hx hb hown (hts (.methodLink RX3 3 objectInit) (by decide +kernel)) (hts (.instanceMethod objectInit) (by decide +kernel)) (hts (.code objectInit ⟨#[0xb1]⟩ 1 none) (by decide +kernel)) rfl (by rw [hml]; exact hl.1) rfl dX3_init_1 (Nat.le_of_ble_eq_true rfl) (Nat.le_of_ble_eq_true rfl) ?_
  refine W.eq (g2 := F0 m 4 ls []) rfl ?_
  refine lv_aload_n hx hb dX3_init_4 rfl (lv_at hl 0 rfl) ?_
  refine va_new (D := G) (ci := 9) (fs := [.null, .null, .null, .null, .int 0]) (C := RX9) (T := TX9) (N := 5) hx hb hts inX9 tyX9 tyX9_ok hown (hts (.classLink RX3 9 RX9) (by decide +kernel)) (hts (.instantiable RX9 5) (by decide +kernel)) (hts (.initialized RX9) (by decide +kernel)) hK.1 hP hD hS hA rfl (nq_defX9) (Nat.le_of_ble_eq_true rfl) (Nat.le_of_ble_eq_true rfl) dX3_init_5 (fun q_1 H hP hD hS => ?_)
  have hP : va_P G vwCl [(h0, .inr (3, [.null, .null, .null, .null, .int 0])), (q_1, .inr (9, [.null, .null, .null, .null, .int 0]))] H := hP
  have hD : va_D A [(h0, .inr (3, [.null, .null, .null, .null, .int 0])), (q_1, .inr (9, [.null, .null, .null, .null, .int 0]))] := hD
  refine lv_dup hx hb dX3_init_8 rfl ?_
  refine lv_bipush (v := 60) hx hb dX3_init_9 (by decide) ?_
  refine nq_wrv (wr := [(h0, .inr (3, [.null, .null, .null, .null, .int 0]))]) (va_runI (As := [.int 60]) (rest := [.ref q_1, .ref h0]) ⟨hx, hb, hml, hown, hts⟩ (i_Tree60 l G y H.size q_1 ) (cwI 1 hts gX3_init_X9_init rfl rfl rfl (hts (.initialized RX9) (by decide +kernel)) (hts (.methodLink RX3 11 yX9_init) (by decide +kernel)) (hts (.instanceMethod yX9_init) (by decide +kernel)) rfl (by decide +kernel) ⟨Nat.le_of_ble_eq_true rfl, Nat.le_of_ble_eq_true rfl⟩) (nq_PS hK hP hD [1] rfl rfl) rfl rfl hl.1 rfl (lv_room (Nat.le_of_ble_eq_true rfl)) dX3_init_11 ⟨Nat.le_of_ble_eq_true rfl, Nat.le_of_ble_eq_true rfl⟩) hP hD hS hA [1] [0] rfl rfl (by decide) (by decide) (fun u_2 H locs hw_3 hP hD hS => ?_)
  obtain ⟨qk_5, qv_6, qe_7, qd_8⟩ := u_2
  have hP : va_P G vwCl [(h0, .inr (3, [.null, .null, .null, .null, .int 0])), (q_1, .inr (9, [.ref qk_5, .ref qv_6, .ref qe_7, .ref qd_8, .int 0])), (qk_5, .inl (y 0, 60, .inl (fun _ => 0))), (qv_6, .inl (y 0, 60, .inl (fun _ => 0))), (qe_7, .inl (y 0, 60, .inl (fun _ => 0))), (qd_8, .inl (y 0, 60, .inl (fun _ => 0)))] H := hP
  have hD : va_D A [(h0, .inr (3, [.null, .null, .null, .null, .int 0])), (q_1, .inr (9, [.ref qk_5, .ref qv_6, .ref qe_7, .ref qd_8, .int 0])), (qk_5, .inl (y 0, 60, .inl (fun _ => 0))), (qv_6, .inl (y 0, 60, .inl (fun _ => 0))), (qe_7, .inl (y 0, 60, .inl (fun _ => 0))), (qd_8, .inl (y 0, 60, .inl (fun _ => 0)))] := hD
  refine va_putF (D := G) (ci := 3) (v := .ref q_1) (ty := .object "NestQuery$Tree") (C := RX3) (T := TX3) (N := 5) hx hb hts inX3 tyX3 tyX3_ok nmX3 hown hK.1 hP hD hS 0 rfl rfl 0 (by decide) (hts (.fieldLink RX3 14 "NestQuery$Patch" "from" "LNestQuery$Tree;") (by decide +kernel)) (fun _ h9 => h9) rfl hin rfl (by decide +kernel) rfl rfl (Nat.le_of_ble_eq_true rfl) dX3_init_14 (fun H locs hP hD hS => ?_)
  have hP : va_P G vwCl [(h0, .inr (3, [.ref q_1, .null, .null, .null, .int 0])), (q_1, .inr (9, [.ref qk_5, .ref qv_6, .ref qe_7, .ref qd_8, .int 0])), (qk_5, .inl (y 0, 60, .inl (fun _ => 0))), (qv_6, .inl (y 0, 60, .inl (fun _ => 0))), (qe_7, .inl (y 0, 60, .inl (fun _ => 0))), (qd_8, .inl (y 0, 60, .inl (fun _ => 0)))] H := hP
  have hD : va_D A [(h0, .inr (3, [.ref q_1, .null, .null, .null, .int 0])), (q_1, .inr (9, [.ref qk_5, .ref qv_6, .ref qe_7, .ref qd_8, .int 0])), (qk_5, .inl (y 0, 60, .inl (fun _ => 0))), (qv_6, .inl (y 0, 60, .inl (fun _ => 0))), (qe_7, .inl (y 0, 60, .inl (fun _ => 0))), (qd_8, .inl (y 0, 60, .inl (fun _ => 0)))] := hD
  refine lv_aload_n hx hb dX3_init_17 rfl (lv_at hl 0 rfl) ?_
  refine va_new (D := G) (ci := 9) (fs := [.null, .null, .null, .null, .int 0]) (C := RX9) (T := TX9) (N := 5) hx hb hts inX9 tyX9 tyX9_ok hown (hts (.classLink RX3 9 RX9) (by decide +kernel)) (hts (.instantiable RX9 5) (by decide +kernel)) (hts (.initialized RX9) (by decide +kernel)) hK.1 hP hD hS hA rfl (nq_defX9) (Nat.le_of_ble_eq_true rfl) (Nat.le_of_ble_eq_true rfl) dX3_init_18 (fun q_9 H hP hD hS => ?_)
  have hP : va_P G vwCl [(h0, .inr (3, [.ref q_1, .null, .null, .null, .int 0])), (q_1, .inr (9, [.ref qk_5, .ref qv_6, .ref qe_7, .ref qd_8, .int 0])), (qk_5, .inl (y 0, 60, .inl (fun _ => 0))), (qv_6, .inl (y 0, 60, .inl (fun _ => 0))), (qe_7, .inl (y 0, 60, .inl (fun _ => 0))), (qd_8, .inl (y 0, 60, .inl (fun _ => 0))), (q_9, .inr (9, [.null, .null, .null, .null, .int 0]))] H := hP
  have hD : va_D A [(h0, .inr (3, [.ref q_1, .null, .null, .null, .int 0])), (q_1, .inr (9, [.ref qk_5, .ref qv_6, .ref qe_7, .ref qd_8, .int 0])), (qk_5, .inl (y 0, 60, .inl (fun _ => 0))), (qv_6, .inl (y 0, 60, .inl (fun _ => 0))), (qe_7, .inl (y 0, 60, .inl (fun _ => 0))), (qd_8, .inl (y 0, 60, .inl (fun _ => 0))), (q_9, .inr (9, [.null, .null, .null, .null, .int 0]))] := hD
  refine lv_dup hx hb dX3_init_21 rfl ?_
  refine lv_bipush (v := 60) hx hb dX3_init_22 (by decide) ?_
  refine nq_wrv (wr := [(h0, .inr (3, [.ref q_1, .null, .null, .null, .int 0])), (q_1, .inr (9, [.ref qk_5, .ref qv_6, .ref qe_7, .ref qd_8, .int 0])), (qk_5, .inl (y 0, 60, .inl (fun _ => 0))), (qv_6, .inl (y 0, 60, .inl (fun _ => 0))), (qe_7, .inl (y 0, 60, .inl (fun _ => 0))), (qd_8, .inl (y 0, 60, .inl (fun _ => 0)))]) (va_runI (As := [.int 60]) (rest := [.ref q_9, .ref h0]) ⟨hx, hb, hml, hown, hts⟩ (i_Tree60 l G y H.size q_9 ) (cwI 1 hts gX3_init_X9_init rfl rfl rfl (hts (.initialized RX9) (by decide +kernel)) (hts (.methodLink RX3 11 yX9_init) (by decide +kernel)) (hts (.instanceMethod yX9_init) (by decide +kernel)) rfl (by decide +kernel) ⟨Nat.le_of_ble_eq_true rfl, Nat.le_of_ble_eq_true rfl⟩) (nq_PS hK hP hD [6] rfl rfl) rfl rfl hl.1 rfl (lv_room (Nat.le_of_ble_eq_true rfl)) dX3_init_24 ⟨Nat.le_of_ble_eq_true rfl, Nat.le_of_ble_eq_true rfl⟩) hP hD hS hA [6] [0, 1, 2, 3, 4, 5] rfl rfl (by decide) (by decide) (fun u_10 H locs hw_11 hP hD hS => ?_)
  obtain ⟨qk_13, qv_14, qe_15, qd_16⟩ := u_10
  have hP : va_P G vwCl [(h0, .inr (3, [.ref q_1, .null, .null, .null, .int 0])), (q_1, .inr (9, [.ref qk_5, .ref qv_6, .ref qe_7, .ref qd_8, .int 0])), (qk_5, .inl (y 0, 60, .inl (fun _ => 0))), (qv_6, .inl (y 0, 60, .inl (fun _ => 0))), (qe_7, .inl (y 0, 60, .inl (fun _ => 0))), (qd_8, .inl (y 0, 60, .inl (fun _ => 0))), (q_9, .inr (9, [.ref qk_13, .ref qv_14, .ref qe_15, .ref qd_16, .int 0])), (qk_13, .inl (y 0, 60, .inl (fun _ => 0))), (qv_14, .inl (y 0, 60, .inl (fun _ => 0))), (qe_15, .inl (y 0, 60, .inl (fun _ => 0))), (qd_16, .inl (y 0, 60, .inl (fun _ => 0)))] H := hP
  have hD : va_D A [(h0, .inr (3, [.ref q_1, .null, .null, .null, .int 0])), (q_1, .inr (9, [.ref qk_5, .ref qv_6, .ref qe_7, .ref qd_8, .int 0])), (qk_5, .inl (y 0, 60, .inl (fun _ => 0))), (qv_6, .inl (y 0, 60, .inl (fun _ => 0))), (qe_7, .inl (y 0, 60, .inl (fun _ => 0))), (qd_8, .inl (y 0, 60, .inl (fun _ => 0))), (q_9, .inr (9, [.ref qk_13, .ref qv_14, .ref qe_15, .ref qd_16, .int 0])), (qk_13, .inl (y 0, 60, .inl (fun _ => 0))), (qv_14, .inl (y 0, 60, .inl (fun _ => 0))), (qe_15, .inl (y 0, 60, .inl (fun _ => 0))), (qd_16, .inl (y 0, 60, .inl (fun _ => 0)))] := hD
  refine va_putF (D := G) (ci := 3) (v := .ref q_9) (ty := .object "NestQuery$Tree") (C := RX3) (T := TX3) (N := 5) hx hb hts inX3 tyX3 tyX3_ok nmX3 hown hK.1 hP hD hS 0 rfl rfl 1 (by decide) (hts (.fieldLink RX3 20 "NestQuery$Patch" "to" "LNestQuery$Tree;") (by decide +kernel)) (fun _ h9 => h9) rfl hin rfl (by decide +kernel) rfl rfl (Nat.le_of_ble_eq_true rfl) dX3_init_27 (fun H locs hP hD hS => ?_)
  have hP : va_P G vwCl [(h0, .inr (3, [.ref q_1, .ref q_9, .null, .null, .int 0])), (q_1, .inr (9, [.ref qk_5, .ref qv_6, .ref qe_7, .ref qd_8, .int 0])), (qk_5, .inl (y 0, 60, .inl (fun _ => 0))), (qv_6, .inl (y 0, 60, .inl (fun _ => 0))), (qe_7, .inl (y 0, 60, .inl (fun _ => 0))), (qd_8, .inl (y 0, 60, .inl (fun _ => 0))), (q_9, .inr (9, [.ref qk_13, .ref qv_14, .ref qe_15, .ref qd_16, .int 0])), (qk_13, .inl (y 0, 60, .inl (fun _ => 0))), (qv_14, .inl (y 0, 60, .inl (fun _ => 0))), (qe_15, .inl (y 0, 60, .inl (fun _ => 0))), (qd_16, .inl (y 0, 60, .inl (fun _ => 0)))] H := hP
  have hD : va_D A [(h0, .inr (3, [.ref q_1, .ref q_9, .null, .null, .int 0])), (q_1, .inr (9, [.ref qk_5, .ref qv_6, .ref qe_7, .ref qd_8, .int 0])), (qk_5, .inl (y 0, 60, .inl (fun _ => 0))), (qv_6, .inl (y 0, 60, .inl (fun _ => 0))), (qe_7, .inl (y 0, 60, .inl (fun _ => 0))), (qd_8, .inl (y 0, 60, .inl (fun _ => 0))), (q_9, .inr (9, [.ref qk_13, .ref qv_14, .ref qe_15, .ref qd_16, .int 0])), (qk_13, .inl (y 0, 60, .inl (fun _ => 0))), (qv_14, .inl (y 0, 60, .inl (fun _ => 0))), (qe_15, .inl (y 0, 60, .inl (fun _ => 0))), (qd_16, .inl (y 0, 60, .inl (fun _ => 0)))] := hD
  refine lv_aload_n hx hb dX3_init_30 rfl (lv_at hl 0 rfl) ?_
  refine lv_bipush (v := 120) hx hb dX3_init_31 (by decide) ?_
  refine nq_newa (atype := .int) (ty := .int) (a0 := (120, .inl (fun _ => 0))) (N' := 120) (n := 120) hx hb (hts (.arrayClass .int) (by decide +kernel)) rfl hK.1 0 rfl hP hD hS hA (fun _ => rfl) (by decide) rfl (Nat.le_of_ble_eq_true rfl) (Nat.le_of_ble_eq_true rfl) (Nat.le_of_ble_eq_true rfl) dX3_init_33 (fun q_17 H hP hD hS => ?_)
  have hP : va_P G vwCl [(h0, .inr (3, [.ref q_1, .ref q_9, .null, .null, .int 0])), (q_1, .inr (9, [.ref qk_5, .ref qv_6, .ref qe_7, .ref qd_8, .int 0])), (qk_5, .inl (y 0, 60, .inl (fun _ => 0))), (qv_6, .inl (y 0, 60, .inl (fun _ => 0))), (qe_7, .inl (y 0, 60, .inl (fun _ => 0))), (qd_8, .inl (y 0, 60, .inl (fun _ => 0))), (q_9, .inr (9, [.ref qk_13, .ref qv_14, .ref qe_15, .ref qd_16, .int 0])), (qk_13, .inl (y 0, 60, .inl (fun _ => 0))), (qv_14, .inl (y 0, 60, .inl (fun _ => 0))), (qe_15, .inl (y 0, 60, .inl (fun _ => 0))), (qd_16, .inl (y 0, 60, .inl (fun _ => 0))), (q_17, .inl (y 0, 120, .inl (fun _ => 0)))] H := hP
  have hD : va_D A [(h0, .inr (3, [.ref q_1, .ref q_9, .null, .null, .int 0])), (q_1, .inr (9, [.ref qk_5, .ref qv_6, .ref qe_7, .ref qd_8, .int 0])), (qk_5, .inl (y 0, 60, .inl (fun _ => 0))), (qv_6, .inl (y 0, 60, .inl (fun _ => 0))), (qe_7, .inl (y 0, 60, .inl (fun _ => 0))), (qd_8, .inl (y 0, 60, .inl (fun _ => 0))), (q_9, .inr (9, [.ref qk_13, .ref qv_14, .ref qe_15, .ref qd_16, .int 0])), (qk_13, .inl (y 0, 60, .inl (fun _ => 0))), (qv_14, .inl (y 0, 60, .inl (fun _ => 0))), (qe_15, .inl (y 0, 60, .inl (fun _ => 0))), (qd_16, .inl (y 0, 60, .inl (fun _ => 0))), (q_17, .inl (y 0, 120, .inl (fun _ => 0)))] := hD
  refine va_putF (D := G) (ci := 3) (v := .ref q_17) (ty := .array .int) (C := RX3) (T := TX3) (N := 5) hx hb hts inX3 tyX3 tyX3_ok nmX3 hown hK.1 hP hD hS 0 rfl rfl 2 (by decide) (hts (.fieldLink RX3 23 "NestQuery$Patch" "rowFrom" "[I") (by decide +kernel)) (fun _ h9 => h9) rfl hin rfl (by decide +kernel) rfl rfl (Nat.le_of_ble_eq_true rfl) dX3_init_35 (fun H locs hP hD hS => ?_)
  have hP : va_P G vwCl [(h0, .inr (3, [.ref q_1, .ref q_9, .ref q_17, .null, .int 0])), (q_1, .inr (9, [.ref qk_5, .ref qv_6, .ref qe_7, .ref qd_8, .int 0])), (qk_5, .inl (y 0, 60, .inl (fun _ => 0))), (qv_6, .inl (y 0, 60, .inl (fun _ => 0))), (qe_7, .inl (y 0, 60, .inl (fun _ => 0))), (qd_8, .inl (y 0, 60, .inl (fun _ => 0))), (q_9, .inr (9, [.ref qk_13, .ref qv_14, .ref qe_15, .ref qd_16, .int 0])), (qk_13, .inl (y 0, 60, .inl (fun _ => 0))), (qv_14, .inl (y 0, 60, .inl (fun _ => 0))), (qe_15, .inl (y 0, 60, .inl (fun _ => 0))), (qd_16, .inl (y 0, 60, .inl (fun _ => 0))), (q_17, .inl (y 0, 120, .inl (fun _ => 0)))] H := hP
  have hD : va_D A [(h0, .inr (3, [.ref q_1, .ref q_9, .ref q_17, .null, .int 0])), (q_1, .inr (9, [.ref qk_5, .ref qv_6, .ref qe_7, .ref qd_8, .int 0])), (qk_5, .inl (y 0, 60, .inl (fun _ => 0))), (qv_6, .inl (y 0, 60, .inl (fun _ => 0))), (qe_7, .inl (y 0, 60, .inl (fun _ => 0))), (qd_8, .inl (y 0, 60, .inl (fun _ => 0))), (q_9, .inr (9, [.ref qk_13, .ref qv_14, .ref qe_15, .ref qd_16, .int 0])), (qk_13, .inl (y 0, 60, .inl (fun _ => 0))), (qv_14, .inl (y 0, 60, .inl (fun _ => 0))), (qe_15, .inl (y 0, 60, .inl (fun _ => 0))), (qd_16, .inl (y 0, 60, .inl (fun _ => 0))), (q_17, .inl (y 0, 120, .inl (fun _ => 0)))] := hD
  refine lv_aload_n hx hb dX3_init_38 rfl (lv_at hl 0 rfl) ?_
  refine lv_bipush (v := 120) hx hb dX3_init_39 (by decide) ?_
  refine nq_newa (atype := .int) (ty := .int) (a0 := (120, .inl (fun _ => 0))) (N' := 120) (n := 120) hx hb (hts (.arrayClass .int) (by decide +kernel)) rfl hK.1 0 rfl hP hD hS hA (fun _ => rfl) (by decide) rfl (Nat.le_of_ble_eq_true rfl) (Nat.le_of_ble_eq_true rfl) (Nat.le_of_ble_eq_true rfl) dX3_init_41 (fun q_18 H hP hD hS => ?_)
  have hP : va_P G vwCl [(h0, .inr (3, [.ref q_1, .ref q_9, .ref q_17, .null, .int 0])), (q_1, .inr (9, [.ref qk_5, .ref qv_6, .ref qe_7, .ref qd_8, .int 0])), (qk_5, .inl (y 0, 60, .inl (fun _ => 0))), (qv_6, .inl (y 0, 60, .inl (fun _ => 0))), (qe_7, .inl (y 0, 60, .inl (fun _ => 0))), (qd_8, .inl (y 0, 60, .inl (fun _ => 0))), (q_9, .inr (9, [.ref qk_13, .ref qv_14, .ref qe_15, .ref qd_16, .int 0])), (qk_13, .inl (y 0, 60, .inl (fun _ => 0))), (qv_14, .inl (y 0, 60, .inl (fun _ => 0))), (qe_15, .inl (y 0, 60, .inl (fun _ => 0))), (qd_16, .inl (y 0, 60, .inl (fun _ => 0))), (q_17, .inl (y 0, 120, .inl (fun _ => 0))), (q_18, .inl (y 0, 120, .inl (fun _ => 0)))] H := hP
  have hD : va_D A [(h0, .inr (3, [.ref q_1, .ref q_9, .ref q_17, .null, .int 0])), (q_1, .inr (9, [.ref qk_5, .ref qv_6, .ref qe_7, .ref qd_8, .int 0])), (qk_5, .inl (y 0, 60, .inl (fun _ => 0))), (qv_6, .inl (y 0, 60, .inl (fun _ => 0))), (qe_7, .inl (y 0, 60, .inl (fun _ => 0))), (qd_8, .inl (y 0, 60, .inl (fun _ => 0))), (q_9, .inr (9, [.ref qk_13, .ref qv_14, .ref qe_15, .ref qd_16, .int 0])), (qk_13, .inl (y 0, 60, .inl (fun _ => 0))), (qv_14, .inl (y 0, 60, .inl (fun _ => 0))), (qe_15, .inl (y 0, 60, .inl (fun _ => 0))), (qd_16, .inl (y 0, 60, .inl (fun _ => 0))), (q_17, .inl (y 0, 120, .inl (fun _ => 0))), (q_18, .inl (y 0, 120, .inl (fun _ => 0)))] := hD
  refine va_putF (D := G) (ci := 3) (v := .ref q_18) (ty := .array .int) (C := RX3) (T := TX3) (N := 5) hx hb hts inX3 tyX3 tyX3_ok nmX3 hown hK.1 hP hD hS 0 rfl rfl 3 (by decide) (hts (.fieldLink RX3 27 "NestQuery$Patch" "rowTo" "[I") (by decide +kernel)) (fun _ h9 => h9) rfl hin rfl (by decide +kernel) rfl rfl (Nat.le_of_ble_eq_true rfl) dX3_init_43 (fun H locs hP hD hS => ?_)
  have hP : va_P G vwCl [(h0, .inr (3, [.ref q_1, .ref q_9, .ref q_17, .ref q_18, .int 0])), (q_1, .inr (9, [.ref qk_5, .ref qv_6, .ref qe_7, .ref qd_8, .int 0])), (qk_5, .inl (y 0, 60, .inl (fun _ => 0))), (qv_6, .inl (y 0, 60, .inl (fun _ => 0))), (qe_7, .inl (y 0, 60, .inl (fun _ => 0))), (qd_8, .inl (y 0, 60, .inl (fun _ => 0))), (q_9, .inr (9, [.ref qk_13, .ref qv_14, .ref qe_15, .ref qd_16, .int 0])), (qk_13, .inl (y 0, 60, .inl (fun _ => 0))), (qv_14, .inl (y 0, 60, .inl (fun _ => 0))), (qe_15, .inl (y 0, 60, .inl (fun _ => 0))), (qd_16, .inl (y 0, 60, .inl (fun _ => 0))), (q_17, .inl (y 0, 120, .inl (fun _ => 0))), (q_18, .inl (y 0, 120, .inl (fun _ => 0)))] H := hP
  have hD : va_D A [(h0, .inr (3, [.ref q_1, .ref q_9, .ref q_17, .ref q_18, .int 0])), (q_1, .inr (9, [.ref qk_5, .ref qv_6, .ref qe_7, .ref qd_8, .int 0])), (qk_5, .inl (y 0, 60, .inl (fun _ => 0))), (qv_6, .inl (y 0, 60, .inl (fun _ => 0))), (qe_7, .inl (y 0, 60, .inl (fun _ => 0))), (qd_8, .inl (y 0, 60, .inl (fun _ => 0))), (q_9, .inr (9, [.ref qk_13, .ref qv_14, .ref qe_15, .ref qd_16, .int 0])), (qk_13, .inl (y 0, 60, .inl (fun _ => 0))), (qv_14, .inl (y 0, 60, .inl (fun _ => 0))), (qe_15, .inl (y 0, 60, .inl (fun _ => 0))), (qd_16, .inl (y 0, 60, .inl (fun _ => 0))), (q_17, .inl (y 0, 120, .inl (fun _ => 0))), (q_18, .inl (y 0, 120, .inl (fun _ => 0)))] := hD
  have hP9 := hP.sub (ws' := [(h0, .inr (3, [.ref q_1, .ref q_9, .ref q_17, .ref q_18, .int 0])), (q_17, .inl (y 0, 120, .inl (fun _ => 0))), (q_18, .inl (y 0, 120, .inl (fun _ => 0))), (q_1, .inr (9, [.ref qk_5, .ref qv_6, .ref qe_7, .ref qd_8, .int 0])), (qk_5, .inl (y 0, 60, .inl (fun _ => 0))), (qv_6, .inl (y 0, 60, .inl (fun _ => 0))), (qe_7, .inl (y 0, 60, .inl (fun _ => 0))), (qd_8, .inl (y 0, 60, .inl (fun _ => 0))), (q_9, .inr (9, [.ref qk_13, .ref qv_14, .ref qe_15, .ref qd_16, .int 0])), (qk_13, .inl (y 0, 60, .inl (fun _ => 0))), (qv_14, .inl (y 0, 60, .inl (fun _ => 0))), (qe_15, .inl (y 0, 60, .inl (fun _ => 0))), (qd_16, .inl (y 0, 60, .inl (fun _ => 0)))]) [0, 11, 12, 1, 2, 3, 4, 5, 6, 7, 8, 9, 10] rfl
  have hD9 := hD.sub (ws' := [(h0, .inr (3, [.ref q_1, .ref q_9, .ref q_17, .ref q_18, .int 0])), (q_17, .inl (y 0, 120, .inl (fun _ => 0))), (q_18, .inl (y 0, 120, .inl (fun _ => 0))), (q_1, .inr (9, [.ref qk_5, .ref qv_6, .ref qe_7, .ref qd_8, .int 0])), (qk_5, .inl (y 0, 60, .inl (fun _ => 0))), (qv_6, .inl (y 0, 60, .inl (fun _ => 0))), (qe_7, .inl (y 0, 60, .inl (fun _ => 0))), (qd_8, .inl (y 0, 60, .inl (fun _ => 0))), (q_9, .inr (9, [.ref qk_13, .ref qv_14, .ref qe_15, .ref qd_16, .int 0])), (qk_13, .inl (y 0, 60, .inl (fun _ => 0))), (qv_14, .inl (y 0, 60, .inl (fun _ => 0))), (qe_15, .inl (y 0, 60, .inl (fun _ => 0))), (qd_16, .inl (y 0, 60, .inl (fun _ => 0)))]) [0, 11, 12, 1, 2, 3, 4, 5, 6, 7, 8, 9, 10] (by decide) rfl
  refine W.widen (k := 12) (n := 730) (Nat.le_of_ble_eq_true rfl) (Nat.le_of_ble_eq_true rfl) ?_
  exact W.vret hx hb hr (fun t ht hW => ⟨⟨(q_1, q_9, q_17, q_18, qk_5, qv_6, qe_7, qd_8, qk_13, qv_14, qe_15, qd_16), rfl, trivial, by rw [ht]; exact hP9, by first | exact hD9 | (rw [hAe]; exact hD9)⟩, hS.F ht⟩) hS.2.2 dX3_init_46

set_option maxHeartbeats 4000000 in
set_option maxRecDepth 100000 in
theorem i_TextOut (l : Launch) (G : va_G) (y : Nat → ClassId) (sz : Nat) (h0 : Nat)  : Met l yX7_init wsX7_init ({ frames := 1, cells := 1, slots := 1024, locals := 20 }) (nq_P G y sz [.ref h0] [(h0, .inr (7, [.null, .int 0]))]) (va_Qv (fun (_ : Nat) => True) (fun (u : Nat) t9 => va_P G vwCl ([(h0, .inr (7, [.ref u, .int 0])), (u, .inl (y 0, 1024, .inl (fun _ => 0)))]) t9.heap ∧ va_D (va_A [(h0, .inr (7, [.null, .int 0]))] sz) ([(h0, .inr (7, [.ref u, .int 0])), (u, .inl (y 0, 1024, .inl (fun _ => 0)))])) (va_A [(h0, .inr (7, [.null, .int 0]))] sz)) 1 1024 (va_A [(h0, .inr (7, [.null, .int 0]))] sz) := by
  refine Met.ofW (cc := cX7_init) (maxL := 1) (ret := none) (by decide) rfl ?_
  intro p e s m args below meth c s₁ B hml hv
  obtain ⟨rfl, hsz, hP, hK, hD0⟩ := hv
  have hx := B.exec
  have hb := B.bytes
  have hr := B.returns
  have hts := atoms_spec (ws := wsX7_init) B.pre
  have hown : s.vm.findClass RX7 = some m.cls := findClass_of_methodNamed B.named
  have hlocks := B.notSynchronized
  have hin : meth.name = "<init>" := (name_of_methodNamed B.named B.method).1
  subst hsz
  have hD := hD0.self (sz := s.heap.size)
  generalize hAe : va_A [(h0, .inr (7, [.null, .int 0]))] s.heap.size = A at hD ⊢
  have hA : ∀ q : Nat, s.heap.size ≤ q → A q := fun q h => by rw [← hAe]; exact Or.inr h
  have hS : va_S A s.heap s.heap [] := va_S.rf
  have hP : va_P G vwCl [(h0, .inr (7, [.null, .int 0]))] s.heap := hP
  have inX7 : ∀ w ∈ wsX70, w ∈ wsX7_init := by decide +kernel
  have hl := lv_entry ([.ref h0]) (n := 1) (Nat.le_of_ble_eq_true rfl)
  rw [lg_entry_eq]
  generalize (lg_sl ([.ref h0]) ++ List.replicate (1 - (lg_sl ([.ref h0])).length) Slot.unset).toArray = ls at hl ⊢
  have hl : lv_has ls 1 [(0, .ref h0)] := hl
  refine lv_aload_n hx hb dX7_init_0 rfl (lv_at hl 0 rfl) ?_
  refine W.objInit hx hb hown (hts (.methodLink RX7 3 objectInit) (by decide +kernel)) (hts (.instanceMethod objectInit) (by decide +kernel)) (hts (.code objectInit ⟨#[0xb1]⟩ 1 none) (by decide +kernel)) rfl (by rw [hml]; exact hl.1) rfl dX7_init_1 (Nat.le_of_ble_eq_true rfl) (Nat.le_of_ble_eq_true rfl) ?_
  refine W.eq (g2 := F0 m 4 ls []) rfl ?_
  refine lv_aload_n hx hb dX7_init_4 rfl (lv_at hl 0 rfl) ?_
  refine lv_sipush (v := 1024) hx hb dX7_init_5 (by decide) ?_
  refine nq_newa (atype := .int) (ty := .int) (a0 := (1024, .inl (fun _ => 0))) (N' := 1024) (n := 1024) hx hb (hts (.arrayClass .int) (by decide +kernel)) rfl hK.1 0 rfl hP hD hS hA (fun _ => rfl) (by decide) rfl (Nat.le_of_ble_eq_true rfl) (Nat.le_of_ble_eq_true rfl) (Nat.le_of_ble_eq_true rfl) dX7_init_8 (fun q_1 H hP hD hS => ?_)
  have hP : va_P G vwCl [(h0, .inr (7, [.null, .int 0])), (q_1, .inl (y 0, 1024, .inl (fun _ => 0)))] H := hP
  have hD : va_D A [(h0, .inr (7, [.null, .int 0])), (q_1, .inl (y 0, 1024, .inl (fun _ => 0)))] := hD
  refine va_putF (D := G) (ci := 7) (v := .ref q_1) (ty := .array .int) (C := RX7) (T := TX7) (N := 2) hx hb hts inX7 tyX7 tyX7_ok nmX7 hown hK.1 hP hD hS 0 rfl rfl 0 (by decide) (hts (.fieldLink RX7 11 "NestQuery$TextOut" "bytes" "[I") (by decide +kernel)) (fun _ h9 => h9) rfl hin rfl (by decide +kernel) rfl rfl (Nat.le_of_ble_eq_true rfl) dX7_init_10 (fun H locs hP hD hS => ?_)
  have hP : va_P G vwCl [(h0, .inr (7, [.ref q_1, .int 0])), (q_1, .inl (y 0, 1024, .inl (fun _ => 0)))] H := hP
  have hD : va_D A [(h0, .inr (7, [.ref q_1, .int 0])), (q_1, .inl (y 0, 1024, .inl (fun _ => 0)))] := hD
  have hP9 := hP.sub (ws' := [(h0, .inr (7, [.ref q_1, .int 0])), (q_1, .inl (y 0, 1024, .inl (fun _ => 0)))]) [0, 1] rfl
  have hD9 := hD.sub (ws' := [(h0, .inr (7, [.ref q_1, .int 0])), (q_1, .inl (y 0, 1024, .inl (fun _ => 0)))]) [0, 1] (by decide) rfl
  refine W.widen (k := 1) (n := 1024) (Nat.le_of_ble_eq_true rfl) (Nat.le_of_ble_eq_true rfl) ?_
  exact W.vret hx hb hr (fun t ht hW => ⟨⟨(q_1), rfl, trivial, by rw [ht]; exact hP9, by first | exact hD9 | (rw [hAe]; exact hD9)⟩, hS.F ht⟩) hS.2.2 dX7_init_13

set_option maxHeartbeats 4000000 in
set_option maxRecDepth 100000 in
theorem i_Draws (l : Launch) (G : va_G) (y : Nat → ClassId) (sz : Nat) (h0 : Nat)  : Met l yX2_init wsX2_init ({ frames := 1, cells := 0, slots := 0, locals := 20 }) (nq_P G y sz [.ref h0] [(h0, .inr (2, [.int 0]))]) (va_Qv (fun (_ : Unit) => True) (fun (u : Unit) t9 => va_P G vwCl ([(h0, .inr (2, [.int 0]))]) t9.heap ∧ va_D (va_A [(h0, .inr (2, [.int 0]))] sz) ([(h0, .inr (2, [.int 0]))])) (va_A [(h0, .inr (2, [.int 0]))] sz)) 0 0 (va_A [(h0, .inr (2, [.int 0]))] sz) := by
  refine Met.ofW (cc := cX2_init) (maxL := 1) (ret := none) (by decide) rfl ?_
  intro p e s m args below meth c s₁ B hml hv
  obtain ⟨rfl, hsz, hP, hK, hD0⟩ := hv
  have hx := B.exec
  have hb := B.bytes
  have hr := B.returns
  have hts := atoms_spec (ws := wsX2_init) B.pre
  have hown : s.vm.findClass RX2 = some m.cls := findClass_of_methodNamed B.named
  have hlocks := B.notSynchronized
  have hin : meth.name = "<init>" := (name_of_methodNamed B.named B.method).1
  subst hsz
  have hD := hD0.self (sz := s.heap.size)
  generalize hAe : va_A [(h0, .inr (2, [.int 0]))] s.heap.size = A at hD ⊢
  have hA : ∀ q : Nat, s.heap.size ≤ q → A q := fun q h => by rw [← hAe]; exact Or.inr h
  have hS : va_S A s.heap s.heap [] := va_S.rf
  have hP : va_P G vwCl [(h0, .inr (2, [.int 0]))] s.heap := hP
  have hl := lv_entry ([.ref h0]) (n := 1) (Nat.le_of_ble_eq_true rfl)
  rw [lg_entry_eq]
  generalize (lg_sl ([.ref h0]) ++ List.replicate (1 - (lg_sl ([.ref h0])).length) Slot.unset).toArray = ls at hl ⊢
  have hl : lv_has ls 1 [(0, .ref h0)] := hl
  refine lv_aload_n hx hb dX2_init_0 rfl (lv_at hl 0 rfl) ?_
  refine W.objInit hx hb hown (hts (.methodLink RX2 1 objectInit) (by decide +kernel)) (hts (.instanceMethod objectInit) (by decide +kernel)) (hts (.code objectInit ⟨#[0xb1]⟩ 1 none) (by decide +kernel)) rfl (by rw [hml]; exact hl.1) rfl dX2_init_1 (Nat.le_of_ble_eq_true rfl) (Nat.le_of_ble_eq_true rfl) ?_
  refine W.eq (g2 := F0 m 4 ls []) rfl ?_
  have hP9 := hP.sub (ws' := [(h0, .inr (2, [.int 0]))]) [0] rfl
  have hD9 := hD.sub (ws' := [(h0, .inr (2, [.int 0]))]) [0] (by decide) rfl
  refine W.widen (k := 0) (n := 0) (Nat.le_of_ble_eq_true rfl) (Nat.le_of_ble_eq_true rfl) ?_
  exact W.vret hx hb hr (fun t ht hW => ⟨⟨(), rfl, trivial, by rw [ht]; exact hP9, by first | exact hD9 | (rw [hAe]; exact hD9)⟩, hS.F ht⟩) hS.2.2 dX2_init_4

set_option maxHeartbeats 4000000 in
set_option maxRecDepth 100000 in
theorem c_addThing (l : Launch) (G : va_G) (y : Nat → ClassId) (sz : Nat) (h0 : Nat) (ak : Nat) (av : Nat) (ae : Nat) (ad : Nat)  : Met l yX9_addThing wsX9_addThing ({ frames := 0, cells := 0, slots := 0, locals := 0 }) (nq_P G y sz [.ref h0, .int 3, .int 0, .int 0, .int 0] [(h0, .inr (9, [.ref ak, .ref av, .ref ae, .ref ad, .int 0])), (ak, .inl (y 0, 60, .inl (fun _ => 0))), (av, .inl (y 0, 60, .inl (fun _ => 0))), (ae, .inl (y 0, 60, .inl (fun _ => 0))), (ad, .inl (y 0, 60, .inl (fun _ => 0)))]) (va_Qi (fun (r : Int32) (_ : Unit) => r = 0) (fun (u : Unit) t9 => va_P G vwCl ([(h0, .inr (9, [.ref ak, .ref av, .ref ae, .ref ad, .int 1])), (ak, .inl (y 0, 60, .inl (upd (fun _ => 0) 0 3))), (av, .inl (y 0, 60, .inl (upd (fun _ => 0) 0 0))), (ae, .inl (y 0, 60, .inl (upd (fun _ => 0) 0 0))), (ad, .inl (y 0, 60, .inl (upd (fun _ => 0) 0 0)))]) t9.heap ∧ va_D (va_A [(h0, .inr (9, [.ref ak, .ref av, .ref ae, .ref ad, .int 0])), (ak, .inl (y 0, 60, .inl (fun _ => 0))), (av, .inl (y 0, 60, .inl (fun _ => 0))), (ae, .inl (y 0, 60, .inl (fun _ => 0))), (ad, .inl (y 0, 60, .inl (fun _ => 0)))] sz) ([(h0, .inr (9, [.ref ak, .ref av, .ref ae, .ref ad, .int 1])), (ak, .inl (y 0, 60, .inl (upd (fun _ => 0) 0 3))), (av, .inl (y 0, 60, .inl (upd (fun _ => 0) 0 0))), (ae, .inl (y 0, 60, .inl (upd (fun _ => 0) 0 0))), (ad, .inl (y 0, 60, .inl (upd (fun _ => 0) 0 0)))])) (va_A [(h0, .inr (9, [.ref ak, .ref av, .ref ae, .ref ad, .int 0])), (ak, .inl (y 0, 60, .inl (fun _ => 0))), (av, .inl (y 0, 60, .inl (fun _ => 0))), (ae, .inl (y 0, 60, .inl (fun _ => 0))), (ad, .inl (y 0, 60, .inl (fun _ => 0)))] sz)) 0 0 (va_A [(h0, .inr (9, [.ref ak, .ref av, .ref ae, .ref ad, .int 0])), (ak, .inl (y 0, 60, .inl (fun _ => 0))), (av, .inl (y 0, 60, .inl (fun _ => 0))), (ae, .inl (y 0, 60, .inl (fun _ => 0))), (ad, .inl (y 0, 60, .inl (fun _ => 0)))] sz) := by
  refine Met.ofW (cc := cX9_addThing) (maxL := 5) (ret := (some .int)) (by decide) rfl ?_
  intro p e s m args below meth c s₁ B hml hv
  obtain ⟨rfl, hsz, hP, hK, hD0⟩ := hv
  have hx := B.exec
  have hb := B.bytes
  have hr := B.returns
  have hts := atoms_spec (ws := wsX9_addThing) B.pre
  have hown : s.vm.findClass RX9 = some m.cls := findClass_of_methodNamed B.named
  have hlocks := B.notSynchronized
  subst hsz
  have hD := hD0.self (sz := s.heap.size)
  generalize hAe : va_A [(h0, .inr (9, [.ref ak, .ref av, .ref ae, .ref ad, .int 0])), (ak, .inl (y 0, 60, .inl (fun _ => 0))), (av, .inl (y 0, 60, .inl (fun _ => 0))), (ae, .inl (y 0, 60, .inl (fun _ => 0))), (ad, .inl (y 0, 60, .inl (fun _ => 0)))] s.heap.size = A at hD ⊢
  have hA : ∀ q : Nat, s.heap.size ≤ q → A q := fun q h => by rw [← hAe]; exact Or.inr h
  have hS : va_S A s.heap s.heap [] := va_S.rf
  have hP : va_P G vwCl [(h0, .inr (9, [.ref ak, .ref av, .ref ae, .ref ad, .int 0])), (ak, .inl (y 0, 60, .inl (fun _ => 0))), (av, .inl (y 0, 60, .inl (fun _ => 0))), (ae, .inl (y 0, 60, .inl (fun _ => 0))), (ad, .inl (y 0, 60, .inl (fun _ => 0)))] s.heap := hP
  have inX9 : ∀ w ∈ wsX90, w ∈ wsX9_addThing := by decide +kernel
  have hl := lv_entry ([.ref h0, .int 3, .int 0, .int 0, .int 0]) (n := 5) (Nat.le_of_ble_eq_true rfl)
  rw [lg_entry_eq]
  generalize (lg_sl ([.ref h0, .int 3, .int 0, .int 0, .int 0]) ++ List.replicate (5 - (lg_sl ([.ref h0, .int 3, .int 0, .int 0, .int 0])).length) Slot.unset).toArray = ls at hl ⊢
  have hl : lv_has ls 5 [(0, .ref h0), (1, .int 3), (2, .int 0), (3, .int 0), (4, .int 0)] := hl
  refine lv_aload_n hx hb dX9_addThing_0 rfl (lv_at hl 0 rfl) ?_
  refine va_get (D := G) (ci := 9) (v := .int 0) (C := RX9) (T := TX9) (N := 5) hx hb hts inX9 hown hK.1 hP 0 rfl rfl 4 (by decide) (hts (.fieldLink RX9 24 "NestQuery$Tree" "size" "I") (by decide +kernel)) (fun _ h9 => h9) rfl dX9_addThing_1 ?_
  refine lv_if_lt (tgt := 19) hx hb dX9_addThing_4 (by decide) (fun c_1 => absurd c_1 (by decide)) (fun _ => ?_)
  refine lv_aload_n hx hb dX9_addThing_7 rfl (lv_at hl 0 rfl) ?_
  refine va_get (D := G) (ci := 9) (v := .int 0) (C := RX9) (T := TX9) (N := 5) hx hb hts inX9 hown hK.1 hP 0 rfl rfl 4 (by decide) (hts (.fieldLink RX9 24 "NestQuery$Tree" "size" "I") (by decide +kernel)) (fun _ h9 => h9) rfl dX9_addThing_8 ?_
  refine lv_aload_n hx hb dX9_addThing_11 rfl (lv_at hl 0 rfl) ?_
  refine va_get (D := G) (ci := 9) (v := .ref ak) (C := RX9) (T := TX9) (N := 5) hx hb hts inX9 hown hK.1 hP 0 rfl rfl 0 (by decide) (hts (.fieldLink RX9 9 "NestQuery$Tree" "kinds" "[I") (by decide +kernel)) (fun _ h9 => h9) rfl dX9_addThing_12 ?_
  refine va_alen hx hb hK.1 hP 1 0 rfl rfl (v := 60) rfl dX9_addThing_15 ?_
  refine lv_icmp_lt (tgt := 21) hx hb dX9_addThing_16 (by decide) (fun _ => ?_) (fun c_2 => absurd c_2 (by decide))
  refine lv_aload_n hx hb dX9_addThing_21 rfl (lv_at hl 0 rfl) ?_
  refine va_get (D := G) (ci := 9) (v := .ref ak) (C := RX9) (T := TX9) (N := 5) hx hb hts inX9 hown hK.1 hP 0 rfl rfl 0 (by decide) (hts (.fieldLink RX9 9 "NestQuery$Tree" "kinds" "[I") (by decide +kernel)) (fun _ h9 => h9) rfl dX9_addThing_22 ?_
  refine lv_aload_n hx hb dX9_addThing_25 rfl (lv_at hl 0 rfl) ?_
  refine va_get (D := G) (ci := 9) (v := .int 0) (C := RX9) (T := TX9) (N := 5) hx hb hts inX9 hown hK.1 hP 0 rfl rfl 4 (by decide) (hts (.fieldLink RX9 24 "NestQuery$Tree" "size" "I") (by decide +kernel)) (fun _ h9 => h9) rfl dX9_addThing_26 ?_
  refine lv_iload_n hx hb dX9_addThing_29 rfl (lv_at hl 1 rfl) ?_
  refine va_iast hx hb hK.1 hP hD hS 1 0 rfl rfl (i := 0) (nq_in (by decide)) dX9_addThing_30 (fun H locs hP hD hS => ?_)
  have hP : va_P G vwCl [(h0, .inr (9, [.ref ak, .ref av, .ref ae, .ref ad, .int 0])), (ak, .inl (y 0, 60, .inl (upd (fun _ => 0) 0 3))), (av, .inl (y 0, 60, .inl (fun _ => 0))), (ae, .inl (y 0, 60, .inl (fun _ => 0))), (ad, .inl (y 0, 60, .inl (fun _ => 0)))] H := hP
  have hD : va_D A [(h0, .inr (9, [.ref ak, .ref av, .ref ae, .ref ad, .int 0])), (ak, .inl (y 0, 60, .inl (upd (fun _ => 0) 0 3))), (av, .inl (y 0, 60, .inl (fun _ => 0))), (ae, .inl (y 0, 60, .inl (fun _ => 0))), (ad, .inl (y 0, 60, .inl (fun _ => 0)))] := hD
  refine lv_aload_n hx hb dX9_addThing_31 rfl (lv_at hl 0 rfl) ?_
  refine va_get (D := G) (ci := 9) (v := .ref av) (C := RX9) (T := TX9) (N := 5) hx hb hts inX9 hown hK.1 hP 0 rfl rfl 1 (by decide) (hts (.fieldLink RX9 15 "NestQuery$Tree" "values" "[I") (by decide +kernel)) (fun _ h9 => h9) rfl dX9_addThing_32 ?_
  refine lv_aload_n hx hb dX9_addThing_35 rfl (lv_at hl 0 rfl) ?_
  refine va_get (D := G) (ci := 9) (v := .int 0) (C := RX9) (T := TX9) (N := 5) hx hb hts inX9 hown hK.1 hP 0 rfl rfl 4 (by decide) (hts (.fieldLink RX9 24 "NestQuery$Tree" "size" "I") (by decide +kernel)) (fun _ h9 => h9) rfl dX9_addThing_36 ?_
  refine lv_iload_n hx hb dX9_addThing_39 rfl (lv_at hl 2 rfl) ?_
  refine va_iast hx hb hK.1 hP hD hS 2 0 rfl rfl (i := 0) (nq_in (by decide)) dX9_addThing_40 (fun H locs hP hD hS => ?_)
  have hP : va_P G vwCl [(h0, .inr (9, [.ref ak, .ref av, .ref ae, .ref ad, .int 0])), (ak, .inl (y 0, 60, .inl (upd (fun _ => 0) 0 3))), (av, .inl (y 0, 60, .inl (upd (fun _ => 0) 0 0))), (ae, .inl (y 0, 60, .inl (fun _ => 0))), (ad, .inl (y 0, 60, .inl (fun _ => 0)))] H := hP
  have hD : va_D A [(h0, .inr (9, [.ref ak, .ref av, .ref ae, .ref ad, .int 0])), (ak, .inl (y 0, 60, .inl (upd (fun _ => 0) 0 3))), (av, .inl (y 0, 60, .inl (upd (fun _ => 0) 0 0))), (ae, .inl (y 0, 60, .inl (fun _ => 0))), (ad, .inl (y 0, 60, .inl (fun _ => 0)))] := hD
  refine lv_aload_n hx hb dX9_addThing_41 rfl (lv_at hl 0 rfl) ?_
  refine va_get (D := G) (ci := 9) (v := .ref ae) (C := RX9) (T := TX9) (N := 5) hx hb hts inX9 hown hK.1 hP 0 rfl rfl 2 (by decide) (hts (.fieldLink RX9 18 "NestQuery$Tree" "keys" "[I") (by decide +kernel)) (fun _ h9 => h9) rfl dX9_addThing_42 ?_
  refine lv_aload_n hx hb dX9_addThing_45 rfl (lv_at hl 0 rfl) ?_
  refine va_get (D := G) (ci := 9) (v := .int 0) (C := RX9) (T := TX9) (N := 5) hx hb hts inX9 hown hK.1 hP 0 rfl rfl 4 (by decide) (hts (.fieldLink RX9 24 "NestQuery$Tree" "size" "I") (by decide +kernel)) (fun _ h9 => h9) rfl dX9_addThing_46 ?_
  refine lv_iload_n hx hb dX9_addThing_49 rfl (lv_at hl 3 rfl) ?_
  refine va_iast hx hb hK.1 hP hD hS 3 0 rfl rfl (i := 0) (nq_in (by decide)) dX9_addThing_50 (fun H locs hP hD hS => ?_)
  have hP : va_P G vwCl [(h0, .inr (9, [.ref ak, .ref av, .ref ae, .ref ad, .int 0])), (ak, .inl (y 0, 60, .inl (upd (fun _ => 0) 0 3))), (av, .inl (y 0, 60, .inl (upd (fun _ => 0) 0 0))), (ae, .inl (y 0, 60, .inl (upd (fun _ => 0) 0 0))), (ad, .inl (y 0, 60, .inl (fun _ => 0)))] H := hP
  have hD : va_D A [(h0, .inr (9, [.ref ak, .ref av, .ref ae, .ref ad, .int 0])), (ak, .inl (y 0, 60, .inl (upd (fun _ => 0) 0 3))), (av, .inl (y 0, 60, .inl (upd (fun _ => 0) 0 0))), (ae, .inl (y 0, 60, .inl (upd (fun _ => 0) 0 0))), (ad, .inl (y 0, 60, .inl (fun _ => 0)))] := hD
  refine lv_aload_n hx hb dX9_addThing_51 rfl (lv_at hl 0 rfl) ?_
  refine va_get (D := G) (ci := 9) (v := .ref ad) (C := RX9) (T := TX9) (N := 5) hx hb hts inX9 hown hK.1 hP 0 rfl rfl 3 (by decide) (hts (.fieldLink RX9 21 "NestQuery$Tree" "depths" "[I") (by decide +kernel)) (fun _ h9 => h9) rfl dX9_addThing_52 ?_
  refine lv_aload_n hx hb dX9_addThing_55 rfl (lv_at hl 0 rfl) ?_
  refine va_get (D := G) (ci := 9) (v := .int 0) (C := RX9) (T := TX9) (N := 5) hx hb hts inX9 hown hK.1 hP 0 rfl rfl 4 (by decide) (hts (.fieldLink RX9 24 "NestQuery$Tree" "size" "I") (by decide +kernel)) (fun _ h9 => h9) rfl dX9_addThing_56 ?_
  refine lv_iload hx hb dX9_addThing_59 (lv_at hl 4 rfl) ?_
  refine va_iast hx hb hK.1 hP hD hS 4 0 rfl rfl (i := 0) (nq_in (by decide)) dX9_addThing_61 (fun H locs hP hD hS => ?_)
  have hP : va_P G vwCl [(h0, .inr (9, [.ref ak, .ref av, .ref ae, .ref ad, .int 0])), (ak, .inl (y 0, 60, .inl (upd (fun _ => 0) 0 3))), (av, .inl (y 0, 60, .inl (upd (fun _ => 0) 0 0))), (ae, .inl (y 0, 60, .inl (upd (fun _ => 0) 0 0))), (ad, .inl (y 0, 60, .inl (upd (fun _ => 0) 0 0)))] H := hP
  have hD : va_D A [(h0, .inr (9, [.ref ak, .ref av, .ref ae, .ref ad, .int 0])), (ak, .inl (y 0, 60, .inl (upd (fun _ => 0) 0 3))), (av, .inl (y 0, 60, .inl (upd (fun _ => 0) 0 0))), (ae, .inl (y 0, 60, .inl (upd (fun _ => 0) 0 0))), (ad, .inl (y 0, 60, .inl (upd (fun _ => 0) 0 0)))] := hD
  refine lv_aload_n hx hb dX9_addThing_62 rfl (lv_at hl 0 rfl) ?_
  refine lv_dup hx hb dX9_addThing_63 rfl ?_
  refine va_get (D := G) (ci := 9) (v := .int 0) (C := RX9) (T := TX9) (N := 5) hx hb hts inX9 hown hK.1 hP 0 rfl rfl 4 (by decide) (hts (.fieldLink RX9 24 "NestQuery$Tree" "size" "I") (by decide +kernel)) (fun _ h9 => h9) rfl dX9_addThing_64 ?_
  refine lv_iconst (v := 1) hx hb dX9_addThing_67 (by decide) ?_
  refine lv_iadd hx hb dX9_addThing_68 ?_
  refine nq_top (z := 1) (by decide) ?_
  refine va_put (D := G) (ci := 9) (v := .int 1) (ty := .int) (C := RX9) (T := TX9) (N := 5) hx hb hts inX9 tyX9 tyX9_ok nmX9 hown hK.1 hP hD hS 0 rfl rfl 4 (by decide) (hts (.fieldLink RX9 24 "NestQuery$Tree" "size" "I") (by decide +kernel)) (fun _ h9 => h9) rfl (by decide +kernel) rfl rfl (Nat.le_of_ble_eq_true rfl) dX9_addThing_69 (fun H locs hP hD hS => ?_)
  have hP : va_P G vwCl [(h0, .inr (9, [.ref ak, .ref av, .ref ae, .ref ad, .int 1])), (ak, .inl (y 0, 60, .inl (upd (fun _ => 0) 0 3))), (av, .inl (y 0, 60, .inl (upd (fun _ => 0) 0 0))), (ae, .inl (y 0, 60, .inl (upd (fun _ => 0) 0 0))), (ad, .inl (y 0, 60, .inl (upd (fun _ => 0) 0 0)))] H := hP
  have hD : va_D A [(h0, .inr (9, [.ref ak, .ref av, .ref ae, .ref ad, .int 1])), (ak, .inl (y 0, 60, .inl (upd (fun _ => 0) 0 3))), (av, .inl (y 0, 60, .inl (upd (fun _ => 0) 0 0))), (ae, .inl (y 0, 60, .inl (upd (fun _ => 0) 0 0))), (ad, .inl (y 0, 60, .inl (upd (fun _ => 0) 0 0)))] := hD
  refine lv_aload_n hx hb dX9_addThing_72 rfl (lv_at hl 0 rfl) ?_
  refine va_get (D := G) (ci := 9) (v := .int 1) (C := RX9) (T := TX9) (N := 5) hx hb hts inX9 hown hK.1 hP 0 rfl rfl 4 (by decide) (hts (.fieldLink RX9 24 "NestQuery$Tree" "size" "I") (by decide +kernel)) (fun _ h9 => h9) rfl dX9_addThing_73 ?_
  refine lv_iconst (v := 1) hx hb dX9_addThing_76 (by decide) ?_
  refine lv_isub hx hb dX9_addThing_77 ?_
  refine nq_top (z := 0) (by decide) ?_
  have hP9 := hP.sub (ws' := [(h0, .inr (9, [.ref ak, .ref av, .ref ae, .ref ad, .int 1])), (ak, .inl (y 0, 60, .inl (upd (fun _ => 0) 0 3))), (av, .inl (y 0, 60, .inl (upd (fun _ => 0) 0 0))), (ae, .inl (y 0, 60, .inl (upd (fun _ => 0) 0 0))), (ad, .inl (y 0, 60, .inl (upd (fun _ => 0) 0 0)))]) [0, 1, 2, 3, 4] rfl
  have hD9 := hD.sub (ws' := [(h0, .inr (9, [.ref ak, .ref av, .ref ae, .ref ad, .int 1])), (ak, .inl (y 0, 60, .inl (upd (fun _ => 0) 0 3))), (av, .inl (y 0, 60, .inl (upd (fun _ => 0) 0 0))), (ae, .inl (y 0, 60, .inl (upd (fun _ => 0) 0 0))), (ad, .inl (y 0, 60, .inl (upd (fun _ => 0) 0 0)))]) [0, 1, 2, 3, 4] (by decide) rfl
  refine W.widen (k := 0) (n := 0) (Nat.le_of_ble_eq_true rfl) (Nat.le_of_ble_eq_true rfl) ?_
  exact W.iret (v := 0) hx hb hr (fun t ht hW => ⟨⟨0, (), rfl, rfl, by rw [ht]; exact hP9, by first | exact hD9 | (rw [hAe]; exact hD9)⟩, hS.F ht⟩) hS.2.2 dX9_addThing_78
