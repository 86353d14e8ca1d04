set_option maxHeartbeats 400000 in
set_option maxRecDepth 100000 in
theorem c_m_copyTo240 (l : Launch) (G : va_G) (y : Nat → ClassId) (sz : Nat) (ma : Nat) (mb : Nat) (fa : Nat → Int32) (fb : Nat → Int32)  : Met l yX11_copyTo wsX11_copyTo ({ frames := 0, cells := 0, slots := 0, locals := 0 }) (nq_P G y sz [.ref ma, .ref mb] [(ma, .inl (y 0, 240, .inl fa)), (mb, .inl (y 0, 240, .inl fb))]) (va_Qv (fun (_ : Nat → Int32) => True) (fun (u : Nat → Int32) t9 => va_P G vwCl ([(ma, .inl (y 0, 240, .inl u)), (mb, .inl (y 0, 240, .inl fb))]) t9.heap ∧ va_D (va_A [(ma, .inl (y 0, 240, .inl fa)), (mb, .inl (y 0, 240, .inl fb))] sz) ([(ma, .inl (y 0, 240, .inl u)), (mb, .inl (y 0, 240, .inl fb))])) (va_A [(ma, .inl (y 0, 240, .inl fa)), (mb, .inl (y 0, 240, .inl fb))] sz)) 0 0 (va_A [(ma, .inl (y 0, 240, .inl fa)), (mb, .inl (y 0, 240, .inl fb))] sz) := by
  refine Met.ofW (cc := cX11_copyTo) (maxL := 3) (ret := none) (by decide) rfl ?_
  intro p e s m args below meth c s₁ B hml hv
  obtain ⟨rfl, hsz, hP, hK, hD0⟩ := hv
  have hx := B.exec
  have hb := B.bytes
  have hr := B.returns
  have hts := atoms_spec (ws := wsX11_copyTo) B.pre
  have hown : s.vm.findClass RX11 = some m.cls := findClass_of_methodNamed B.named
  have hlocks := B.notSynchronized
  subst hsz
  have hD := hD0.self (sz := s.heap.size)
  generalize hAe : va_A [(ma, .inl (y 0, 240, .inl fa)), (mb, .inl (y 0, 240, .inl fb))] s.heap.size = A at hD ⊢
  have hA : ∀ q : Nat, s.heap.size ≤ q → A q := fun q h => by rw [← hAe]; exact Or.inr h
  have hS : va_S A s.heap s.heap [] := va_S.rf
  have hP : va_P G vwCl [(ma, .inl (y 0, 240, .inl fa)), (mb, .inl (y 0, 240, .inl fb))] s.heap := hP
  have hl := lv_entry ([.ref ma, .ref mb]) (n := 3) (Nat.le_of_ble_eq_true rfl)
  rw [lg_entry_eq]
  generalize (lg_sl ([.ref ma, .ref mb]) ++ List.replicate (3 - (lg_sl ([.ref ma, .ref mb])).length) Slot.unset).toArray = ls at hl ⊢
  have hl : lv_has ls 3 [(0, .ref ma), (1, .ref mb)] := hl
  refine lv_iconst (v := 0) hx hb dX11_copyTo_0 (by decide) ?_
  refine lv_istore_n (lv' := [(2, .int 0), (0, .ref ma), (1, .ref mb)]) hx hb dX11_copyTo_1 rfl hl (by decide) rfl (fun ls hl => ?_)
  refine nq_loop (σ := (Nat → Int32)) (I := fun (k9 : Int32) (x9 : (Nat → Int32)) (H9 : Heap) (l9 : List Loc) (ls9 : Array Slot) => ¬ k9 < 0 ∧ va_P G vwCl [(ma, .inl (y 0, 240, .inl x9)), (mb, .inl (y 0, 240, .inl fb))] H9 ∧ va_D A [(ma, .inl (y 0, 240, .inl x9)), (mb, .inl (y 0, 240, .inl fb))] ∧ va_S A s.heap H9 l9 ∧ lv_has ls9 3 [(2, .int k9), (0, .ref ma), (1, .ref mb)]) (B := 240) ?_ 0 (fa) ⟨by decide, hP, hD, hS, hl⟩ (by decide)
  intro k_2 x_2 H locs ls hI_2 hB_2 ih_2
  obtain ⟨fma_2, ex_2⟩ : ∃ z, z = x_2 := ⟨_, rfl⟩
  subst ex_2
  obtain ⟨hk_2, hP, hD, hS, hl⟩ := hI_2
  have hP : va_P G vwCl [(ma, .inl (y 0, 240, .inl fma_2)), (mb, .inl (y 0, 240, .inl fb))] H := hP
  have hD : va_D A [(ma, .inl (y 0, 240, .inl fma_2)), (mb, .inl (y 0, 240, .inl fb))] := hD
  have hl : lv_has ls 3 [(2, .int k_2), (0, .ref ma), (1, .ref mb)] := hl
  refine lv_iload_n hx hb dX11_copyTo_2 rfl (lv_at hl 0 rfl) ?_
  refine lv_aload_n hx hb dX11_copyTo_3 rfl (lv_at hl 1 rfl) ?_
  refine va_alen hx hb hK.1 hP 0 0 rfl rfl (v := 240) rfl dX11_copyTo_4 ?_
  refine lv_icmp_ge (tgt := 20) hx hb dX11_copyTo_5 (by decide) (fun c_1 => ?_) (fun c_1 => ?_)
  · have hP9 := hP.sub (ws' := [(ma, .inl (y 0, 240, .inl fma_2)), (mb, .inl (y 0, 240, .inl fb))]) [0, 1] rfl
    have hD9 := hD.sub (ws' := [(ma, .inl (y 0, 240, .inl fma_2)), (mb, .inl (y 0, 240, .inl fb))]) [0, 1] (by decide) rfl
    refine W.widen (k := 0) (n := 0) (Nat.le_of_ble_eq_true rfl) (Nat.le_of_ble_eq_true rfl) ?_
    exact W.vret hx hb hr (fun t ht hW => ⟨⟨(fma_2), rfl, trivial, by rw [ht]; exact hP9, by first | exact hD9 | (rw [hAe]; exact hD9)⟩, hS.F ht⟩) hS.2.2 dX11_copyTo_20
  · refine lv_aload_n hx hb dX11_copyTo_8 rfl (lv_at hl 1 rfl) ?_
    refine lv_iload_n hx hb dX11_copyTo_9 rfl (lv_at hl 0 rfl) ?_
    refine lv_aload_n hx hb dX11_copyTo_10 rfl (lv_at hl 2 rfl) ?_
    refine lv_iload_n hx hb dX11_copyTo_11 rfl (lv_at hl 0 rfl) ?_
    refine va_iald hx hb hK.1 hP 1 0 rfl rfl (i := k_2) (nq_inb hk_2 (nq_hnge c_1 (j := 239) (by decide)) (by decide) (by decide)) dX11_copyTo_12 ?_
    refine lv_topi (fun w_2 _ => ?_)
    refine va_iast hx hb hK.1 hP hD hS 0 0 rfl rfl (i := k_2) (nq_inb hk_2 (nq_hnge c_1 (j := 239) (by decide)) (by decide) (by decide)) dX11_copyTo_13 (fun H locs hP hD hS => ?_)
    have hP : va_P G vwCl [(ma, .inl (y 0, 240, .inl (upd fma_2 k_2.toNatClampNeg w_2))), (mb, .inl (y 0, 240, .inl fb))] H := hP
    have hD : va_D A [(ma, .inl (y 0, 240, .inl (upd fma_2 k_2.toNatClampNeg w_2))), (mb, .inl (y 0, 240, .inl fb))] := hD
    generalize (upd fma_2 k_2.toNatClampNeg w_2) = f_3 at hP hD
    refine lv_iinc (v := k_2 + Int32.ofInt 1) (lv' := [(2, .int (k_2 + Int32.ofInt 1)), (0, .ref ma), (1, .ref mb)]) hx hb dX11_copyTo_14 hl (k := 0) rfl (rfl) (by decide) rfl (fun ls hl => ?_)
    refine lv_goto (tgt := 2) hx hb dX11_copyTo_17 (by decide) ?_
    exact ih_2 (k_2 + Int32.ofInt 1) (f_3) _ _ _ ⟨nq_nn (nq_inc hk_2 (nq_ltC (B := 240) c_1 (by decide)) (by decide)) hk_2, hP.sub [0, 1] rfl, hD.sub [0, 1] (by decide) rfl, hS, lv_sub hl [0, 1, 2] rfl⟩ (nq_inc hk_2 (nq_ltC (B := 240) c_1 (by decide)) (by decide)) (nq_leB (nq_inc hk_2 (nq_ltC (B := 240) c_1 (by decide)) (by decide)) (nq_ltC (B := 240) c_1 (by decide)))

set_option maxHeartbeats 400000 in
set_option maxRecDepth 100000 in
theorem c_m_copyTo9600 (l : Launch) (G : va_G) (y : Nat → ClassId) (sz : Nat) (ma : Nat) (mb : Nat) (fa : Nat → Int32) (fb : Nat → Int32)  : Met l yX11_copyTo wsX11_copyTo ({ frames := 0, cells := 0, slots := 0, locals := 0 }) (nq_P G y sz [.ref ma, .ref mb] [(ma, .inl (y 0, 9600, .inl fa)), (mb, .inl (y 0, 9600, .inl fb))]) (va_Qv (fun (_ : Nat → Int32) => True) (fun (u : Nat → Int32) t9 => va_P G vwCl ([(ma, .inl (y 0, 9600, .inl u)), (mb, .inl (y 0, 9600, .inl fb))]) t9.heap ∧ va_D (va_A [(ma, .inl (y 0, 9600, .inl fa)), (mb, .inl (y 0, 9600, .inl fb))] sz) ([(ma, .inl (y 0, 9600, .inl u)), (mb, .inl (y 0, 9600, .inl fb))])) (va_A [(ma, .inl (y 0, 9600, .inl fa)), (mb, .inl (y 0, 9600, .inl fb))] sz)) 0 0 (va_A [(ma, .inl (y 0, 9600, .inl fa)), (mb, .inl (y 0, 9600, .inl fb))] sz) := by
  refine Met.ofW (cc := cX11_copyTo) (maxL := 3) (ret := none) (by decide) rfl ?_
  intro p e s m args below meth c s₁ B hml hv
  obtain ⟨rfl, hsz, hP, hK, hD0⟩ := hv
  have hx := B.exec
  have hb := B.bytes
  have hr := B.returns
  have hts := atoms_spec (ws := wsX11_copyTo) B.pre
  have hown : s.vm.findClass RX11 = some m.cls := findClass_of_methodNamed B.named
  have hlocks := B.notSynchronized
  subst hsz
  have hD := hD0.self (sz := s.heap.size)
  generalize hAe : va_A [(ma, .inl (y 0, 9600, .inl fa)), (mb, .inl (y 0, 9600, .inl fb))] s.heap.size = A at hD ⊢
  have hA : ∀ q : Nat, s.heap.size ≤ q → A q := fun q h => by rw [← hAe]; exact Or.inr h
  have hS : va_S A s.heap s.heap [] := va_S.rf
  have hP : va_P G vwCl [(ma, .inl (y 0, 9600, .inl fa)), (mb, .inl (y 0, 9600, .inl fb))] s.heap := hP
  have hl := lv_entry ([.ref ma, .ref mb]) (n := 3) (Nat.le_of_ble_eq_true rfl)
  rw [lg_entry_eq]
  generalize (lg_sl ([.ref ma, .ref mb]) ++ List.replicate (3 - (lg_sl ([.ref ma, .ref mb])).length) Slot.unset).toArray = ls at hl ⊢
  have hl : lv_has ls 3 [(0, .ref ma), (1, .ref mb)] := hl
  refine lv_iconst (v := 0) hx hb dX11_copyTo_0 (by decide) ?_
  refine lv_istore_n (lv' := [(2, .int 0), (0, .ref ma), (1, .ref mb)]) hx hb dX11_copyTo_1 rfl hl (by decide) rfl (fun ls hl => ?_)
  refine nq_loop (σ := (Nat → Int32)) (I := fun (k9 : Int32) (x9 : (Nat → Int32)) (H9 : Heap) (l9 : List Loc) (ls9 : Array Slot) => ¬ k9 < 0 ∧ va_P G vwCl [(ma, .inl (y 0, 9600, .inl x9)), (mb, .inl (y 0, 9600, .inl fb))] H9 ∧ va_D A [(ma, .inl (y 0, 9600, .inl x9)), (mb, .inl (y 0, 9600, .inl fb))] ∧ va_S A s.heap H9 l9 ∧ lv_has ls9 3 [(2, .int k9), (0, .ref ma), (1, .ref mb)]) (B := 9600) ?_ 0 (fa) ⟨by decide, hP, hD, hS, hl⟩ (by decide)
  intro k_2 x_2 H locs ls hI_2 hB_2 ih_2
  obtain ⟨fma_2, ex_2⟩ : ∃ z, z = x_2 := ⟨_, rfl⟩
  subst ex_2
  obtain ⟨hk_2, hP, hD, hS, hl⟩ := hI_2
  have hP : va_P G vwCl [(ma, .inl (y 0, 9600, .inl fma_2)), (mb, .inl (y 0, 9600, .inl fb))] H := hP
  have hD : va_D A [(ma, .inl (y 0, 9600, .inl fma_2)), (mb, .inl (y 0, 9600, .inl fb))] := hD
  have hl : lv_has ls 3 [(2, .int k_2), (0, .ref ma), (1, .ref mb)] := hl
  refine lv_iload_n hx hb dX11_copyTo_2 rfl (lv_at hl 0 rfl) ?_
  refine lv_aload_n hx hb dX11_copyTo_3 rfl (lv_at hl 1 rfl) ?_
  refine va_alen hx hb hK.1 hP 0 0 rfl rfl (v := 9600) rfl dX11_copyTo_4 ?_
  refine lv_icmp_ge (tgt := 20) hx hb dX11_copyTo_5 (by decide) (fun c_1 => ?_) (fun c_1 => ?_)
  · have hP9 := hP.sub (ws' := [(ma, .inl (y 0, 9600, .inl fma_2)), (mb, .inl (y 0, 9600, .inl fb))]) [0, 1] rfl
    have hD9 := hD.sub (ws' := [(ma, .inl (y 0, 9600, .inl fma_2)), (mb, .inl (y 0, 9600, .inl fb))]) [0, 1] (by decide) rfl
    refine W.widen (k := 0) (n := 0) (Nat.le_of_ble_eq_true rfl) (Nat.le_of_ble_eq_true rfl) ?_
    exact W.vret hx hb hr (fun t ht hW => ⟨⟨(fma_2), rfl, trivial, by rw [ht]; exact hP9, by first | exact hD9 | (rw [hAe]; exact hD9)⟩, hS.F ht⟩) hS.2.2 dX11_copyTo_20
  · refine lv_aload_n hx hb dX11_copyTo_8 rfl (lv_at hl 1 rfl) ?_
    refine lv_iload_n hx hb dX11_copyTo_9 rfl (lv_at hl 0 rfl) ?_
    refine lv_aload_n hx hb dX11_copyTo_10 rfl (lv_at hl 2 rfl) ?_
    refine lv_iload_n hx hb dX11_copyTo_11 rfl (lv_at hl 0 rfl) ?_
    refine va_iald hx hb hK.1 hP 1 0 rfl rfl (i := k_2) (nq_inb hk_2 (nq_hnge c_1 (j := 9599) (by decide)) (by decide) (by decide)) dX11_copyTo_12 ?_
    refine lv_topi (fun w_2 _ => ?_)
    refine va_iast hx hb hK.1 hP hD hS 0 0 rfl rfl (i := k_2) (nq_inb hk_2 (nq_hnge c_1 (j := 9599) (by decide)) (by decide) (by decide)) dX11_copyTo_13 (fun H locs hP hD hS => ?_)
    have hP : va_P G vwCl [(ma, .inl (y 0, 9600, .inl (upd fma_2 k_2.toNatClampNeg w_2))), (mb, .inl (y 0, 9600, .inl fb))] H := hP
    have hD : va_D A [(ma, .inl (y 0, 9600, .inl (upd fma_2 k_2.toNatClampNeg w_2))), (mb, .inl (y 0, 9600, .inl fb))] := hD
    generalize (upd fma_2 k_2.toNatClampNeg w_2) = f_3 at hP hD
    refine lv_iinc (v := k_2 + Int32.ofInt 1) (lv' := [(2, .int (k_2 + Int32.ofInt 1)), (0, .ref ma), (1, .ref mb)]) hx hb dX11_copyTo_14 hl (k := 0) rfl (rfl) (by decide) rfl (fun ls hl => ?_)
    refine lv_goto (tgt := 2) hx hb dX11_copyTo_17 (by decide) ?_
    exact ih_2 (k_2 + Int32.ofInt 1) (f_3) _ _ _ ⟨nq_nn (nq_inc hk_2 (nq_ltC (B := 9600) c_1 (by decide)) (by decide)) hk_2, hP.sub [0, 1] rfl, hD.sub [0, 1] (by decide) rfl, hS, lv_sub hl [0, 1, 2] rfl⟩ (nq_inc hk_2 (nq_ltC (B := 9600) c_1 (by decide)) (by decide)) (nq_leB (nq_inc hk_2 (nq_ltC (B := 9600) c_1 (by decide)) (by decide)) (nq_ltC (B := 9600) c_1 (by decide)))

set_option maxHeartbeats 400000 in
set_option maxRecDepth 100000 in
theorem c_m_copyTo8 (l : Launch) (G : va_G) (y : Nat → ClassId) (sz : Nat) (ma : Nat) (mb : Nat) (fa : Nat → Int32) (fb : Nat → Int32)  : Met l yX11_copyTo wsX11_copyTo ({ frames := 0, cells := 0, slots := 0, locals := 0 }) (nq_P G y sz [.ref ma, .ref mb] [(ma, .inl (y 0, 8, .inl fa)), (mb, .inl (y 0, 8, .inl fb))]) (va_Qv (fun (_ : Nat → Int32) => True) (fun (u : Nat → Int32) t9 => va_P G vwCl ([(ma, .inl (y 0, 8, .inl u)), (mb, .inl (y 0, 8, .inl fb))]) t9.heap ∧ va_D (va_A [(ma, .inl (y 0, 8, .inl fa)), (mb, .inl (y 0, 8, .inl fb))] sz) ([(ma, .inl (y 0, 8, .inl u)), (mb, .inl (y 0, 8, .inl fb))])) (va_A [(ma, .inl (y 0, 8, .inl fa)), (mb, .inl (y 0, 8, .inl fb))] sz)) 0 0 (va_A [(ma, .inl (y 0, 8, .inl fa)), (mb, .inl (y 0, 8, .inl fb))] sz) := by
  refine Met.ofW (cc := cX11_copyTo) (maxL := 3) (ret := none) (by decide) rfl ?_
  intro p e s m args below meth c s₁ B hml hv
  obtain ⟨rfl, hsz, hP, hK, hD0⟩ := hv
  have hx := B.exec
  have hb := B.bytes
  have hr := B.returns
  have hts := atoms_spec (ws := wsX11_copyTo) B.pre
  have hown : s.vm.findClass RX11 = some m.cls := findClass_of_methodNamed B.named
  have hlocks := B.notSynchronized
  subst hsz
  have hD := hD0.self (sz := s.heap.size)
  generalize hAe : va_A [(ma, .inl (y 0, 8, .inl fa)), (mb, .inl (y 0, 8, .inl fb))] s.heap.size = A at hD ⊢
  have hA : ∀ q : Nat, s.heap.size ≤ q → A q := fun q h => by rw [← hAe]; exact Or.inr h
  have hS : va_S A s.heap s.heap [] := va_S.rf
  have hP : va_P G vwCl [(ma, .inl (y 0, 8, .inl fa)), (mb, .inl (y 0, 8, .inl fb))] s.heap := hP
  have hl := lv_entry ([.ref ma, .ref mb]) (n := 3) (Nat.le_of_ble_eq_true rfl)
  rw [lg_entry_eq]
  generalize (lg_sl ([.ref ma, .ref mb]) ++ List.replicate (3 - (lg_sl ([.ref ma, .ref mb])).length) Slot.unset).toArray = ls at hl ⊢
  have hl : lv_has ls 3 [(0, .ref ma), (1, .ref mb)] := hl
  refine lv_iconst (v := 0) hx hb dX11_copyTo_0 (by decide) ?_
  refine lv_istore_n (lv' := [(2, .int 0), (0, .ref ma), (1, .ref mb)]) hx hb dX11_copyTo_1 rfl hl (by decide) rfl (fun ls hl => ?_)
  refine nq_loop (σ := (Nat → Int32)) (I := fun (k9 : Int32) (x9 : (Nat → Int32)) (H9 : Heap) (l9 : List Loc) (ls9 : Array Slot) => ¬ k9 < 0 ∧ va_P G vwCl [(ma, .inl (y 0, 8, .inl x9)), (mb, .inl (y 0, 8, .inl fb))] H9 ∧ va_D A [(ma, .inl (y 0, 8, .inl x9)), (mb, .inl (y 0, 8, .inl fb))] ∧ va_S A s.heap H9 l9 ∧ lv_has ls9 3 [(2, .int k9), (0, .ref ma), (1, .ref mb)]) (B := 8) ?_ 0 (fa) ⟨by decide, hP, hD, hS, hl⟩ (by decide)
  intro k_2 x_2 H locs ls hI_2 hB_2 ih_2
  obtain ⟨fma_2, ex_2⟩ : ∃ z, z = x_2 := ⟨_, rfl⟩
  subst ex_2
  obtain ⟨hk_2, hP, hD, hS, hl⟩ := hI_2
  have hP : va_P G vwCl [(ma, .inl (y 0, 8, .inl fma_2)), (mb, .inl (y 0, 8, .inl fb))] H := hP
  have hD : va_D A [(ma, .inl (y 0, 8, .inl fma_2)), (mb, .inl (y 0, 8, .inl fb))] := hD
  have hl : lv_has ls 3 [(2, .int k_2), (0, .ref ma), (1, .ref mb)] := hl
  refine lv_iload_n hx hb dX11_copyTo_2 rfl (lv_at hl 0 rfl) ?_
  refine lv_aload_n hx hb dX11_copyTo_3 rfl (lv_at hl 1 rfl) ?_
  refine va_alen hx hb hK.1 hP 0 0 rfl rfl (v := 8) rfl dX11_copyTo_4 ?_
  refine lv_icmp_ge (tgt := 20) hx hb dX11_copyTo_5 (by decide) (fun c_1 => ?_) (fun c_1 => ?_)
  · have hP9 := hP.sub (ws' := [(ma, .inl (y 0, 8, .inl fma_2)), (mb, .inl (y 0, 8, .inl fb))]) [0, 1] rfl
    have hD9 := hD.sub (ws' := [(ma, .inl (y 0, 8, .inl fma_2)), (mb, .inl (y 0, 8, .inl fb))]) [0, 1] (by decide) rfl
    refine W.widen (k := 0) (n := 0) (Nat.le_of_ble_eq_true rfl) (Nat.le_of_ble_eq_true rfl) ?_
    exact W.vret hx hb hr (fun t ht hW => ⟨⟨(fma_2), rfl, trivial, by rw [ht]; exact hP9, by first | exact hD9 | (rw [hAe]; exact hD9)⟩, hS.F ht⟩) hS.2.2 dX11_copyTo_20
  · refine lv_aload_n hx hb dX11_copyTo_8 rfl (lv_at hl 1 rfl) ?_
    refine lv_iload_n hx hb dX11_copyTo_9 rfl (lv_at hl 0 rfl) ?_
    refine lv_aload_n hx hb dX11_copyTo_10 rfl (lv_at hl 2 rfl) ?_
    refine lv_iload_n hx hb dX11_copyTo_11 rfl (lv_at hl 0 rfl) ?_
    refine va_iald hx hb hK.1 hP 1 0 rfl rfl (i := k_2) (nq_inb hk_2 (nq_hnge c_1 (j := 7) (by decide)) (by decide) (by decide)) dX11_copyTo_12 ?_
    refine lv_topi (fun w_2 _ => ?_)
    refine va_iast hx hb hK.1 hP hD hS 0 0 rfl rfl (i := k_2) (nq_inb hk_2 (nq_hnge c_1 (j := 7) (by decide)) (by decide) (by decide)) dX11_copyTo_13 (fun H locs hP hD hS => ?_)
    have hP : va_P G vwCl [(ma, .inl (y 0, 8, .inl (upd fma_2 k_2.toNatClampNeg w_2))), (mb, .inl (y 0, 8, .inl fb))] H := hP
    have hD : va_D A [(ma, .inl (y 0, 8, .inl (upd fma_2 k_2.toNatClampNeg w_2))), (mb, .inl (y 0, 8, .inl fb))] := hD
    generalize (upd fma_2 k_2.toNatClampNeg w_2) = f_3 at hP hD
    refine lv_iinc (v := k_2 + Int32.ofInt 1) (lv' := [(2, .int (k_2 + Int32.ofInt 1)), (0, .ref ma), (1, .ref mb)]) hx hb dX11_copyTo_14 hl (k := 0) rfl (rfl) (by decide) rfl (fun ls hl => ?_)
    refine lv_goto (tgt := 2) hx hb dX11_copyTo_17 (by decide) ?_
    exact ih_2 (k_2 + Int32.ofInt 1) (f_3) _ _ _ ⟨nq_nn (nq_inc hk_2 (nq_ltC (B := 8) c_1 (by decide)) (by decide)) hk_2, hP.sub [0, 1] rfl, hD.sub [0, 1] (by decide) rfl, hS, lv_sub hl [0, 1, 2] rfl⟩ (nq_inc hk_2 (nq_ltC (B := 8) c_1 (by decide)) (by decide)) (nq_leB (nq_inc hk_2 (nq_ltC (B := 8) c_1 (by decide)) (by decide)) (nq_ltC (B := 8) c_1 (by decide)))

set_option maxHeartbeats 400000 in
set_option maxRecDepth 100000 in
theorem c_m_copyTo3 (l : Launch) (G : va_G) (y : Nat → ClassId) (sz : Nat) (ma : Nat) (mb : Nat) (fa : Nat → Int32) (fb : Nat → Int32)  : Met l yX11_copyTo wsX11_copyTo ({ frames := 0, cells := 0, slots := 0, locals := 0 }) (nq_P G y sz [.ref ma, .ref mb] [(ma, .inl (y 0, 3, .inl fa)), (mb, .inl (y 0, 3, .inl fb))]) (va_Qv (fun (_ : Nat → Int32) => True) (fun (u : Nat → Int32) t9 => va_P G vwCl ([(ma, .inl (y 0, 3, .inl u)), (mb, .inl (y 0, 3, .inl fb))]) t9.heap ∧ va_D (va_A [(ma, .inl (y 0, 3, .inl fa)), (mb, .inl (y 0, 3, .inl fb))] sz) ([(ma, .inl (y 0, 3, .inl u)), (mb, .inl (y 0, 3, .inl fb))])) (va_A [(ma, .inl (y 0, 3, .inl fa)), (mb, .inl (y 0, 3, .inl fb))] sz)) 0 0 (va_A [(ma, .inl (y 0, 3, .inl fa)), (mb, .inl (y 0, 3, .inl fb))] sz) := by
  refine Met.ofW (cc := cX11_copyTo) (maxL := 3) (ret := none) (by decide) rfl ?_
  intro p e s m args below meth c s₁ B hml hv
  obtain ⟨rfl, hsz, hP, hK, hD0⟩ := hv
  have hx := B.exec
  have hb := B.bytes
  have hr := B.returns
  have hts := atoms_spec (ws := wsX11_copyTo) B.pre
  have hown : s.vm.findClass RX11 = some m.cls := findClass_of_methodNamed B.named
  have hlocks := B.notSynchronized
  subst hsz
  have hD := hD0.self (sz := s.heap.size)
  generalize hAe : va_A [(ma, .inl (y 0, 3, .inl fa)), (mb, .inl (y 0, 3, .inl fb))] s.heap.size = A at hD ⊢
  have hA : ∀ q : Nat, s.heap.size ≤ q → A q := fun q h => by rw [← hAe]; exact Or.inr h
  have hS : va_S A s.heap s.heap [] := va_S.rf
  have hP : va_P G vwCl [(ma, .inl (y 0, 3, .inl fa)), (mb, .inl (y 0, 3, .inl fb))] s.heap := hP
  have hl := lv_entry ([.ref ma, .ref mb]) (n := 3) (Nat.le_of_ble_eq_true rfl)
  rw [lg_entry_eq]
  generalize (lg_sl ([.ref ma, .ref mb]) ++ List.replicate (3 - (lg_sl ([.ref ma, .ref mb])).length) Slot.unset).toArray = ls at hl ⊢
  have hl : lv_has ls 3 [(0, .ref ma), (1, .ref mb)] := hl
  refine lv_iconst (v := 0) hx hb dX11_copyTo_0 (by decide) ?_
  refine lv_istore_n (lv' := [(2, .int 0), (0, .ref ma), (1, .ref mb)]) hx hb dX11_copyTo_1 rfl hl (by decide) rfl (fun ls hl => ?_)
  refine nq_loop (σ := (Nat → Int32)) (I := fun (k9 : Int32) (x9 : (Nat → Int32)) (H9 : Heap) (l9 : List Loc) (ls9 : Array Slot) => ¬ k9 < 0 ∧ va_P G vwCl [(ma, .inl (y 0, 3, .inl x9)), (mb, .inl (y 0, 3, .inl fb))] H9 ∧ va_D A [(ma, .inl (y 0, 3, .inl x9)), (mb, .inl (y 0, 3, .inl fb))] ∧ va_S A s.heap H9 l9 ∧ lv_has ls9 3 [(2, .int k9), (0, .ref ma), (1, .ref mb)]) (B := 3) ?_ 0 (fa) ⟨by decide, hP, hD, hS, hl⟩ (by decide)
  intro k_2 x_2 H locs ls hI_2 hB_2 ih_2
  obtain ⟨fma_2, ex_2⟩ : ∃ z, z = x_2 := ⟨_, rfl⟩
  subst ex_2
  obtain ⟨hk_2, hP, hD, hS, hl⟩ := hI_2
  have hP : va_P G vwCl [(ma, .inl (y 0, 3, .inl fma_2)), (mb, .inl (y 0, 3, .inl fb))] H := hP
  have hD : va_D A [(ma, .inl (y 0, 3, .inl fma_2)), (mb, .inl (y 0, 3, .inl fb))] := hD
  have hl : lv_has ls 3 [(2, .int k_2), (0, .ref ma), (1, .ref mb)] := hl
  refine lv_iload_n hx hb dX11_copyTo_2 rfl (lv_at hl 0 rfl) ?_
  refine lv_aload_n hx hb dX11_copyTo_3 rfl (lv_at hl 1 rfl) ?_
  refine va_alen hx hb hK.1 hP 0 0 rfl rfl (v := 3) rfl dX11_copyTo_4 ?_
  refine lv_icmp_ge (tgt := 20) hx hb dX11_copyTo_5 (by decide) (fun c_1 => ?_) (fun c_1 => ?_)
  · have hP9 := hP.sub (ws' := [(ma, .inl (y 0, 3, .inl fma_2)), (mb, .inl (y 0, 3, .inl fb))]) [0, 1] rfl
    have hD9 := hD.sub (ws' := [(ma, .inl (y 0, 3, .inl fma_2)), (mb, .inl (y 0, 3, .inl fb))]) [0, 1] (by decide) rfl
    refine W.widen (k := 0) (n := 0) (Nat.le_of_ble_eq_true rfl) (Nat.le_of_ble_eq_true rfl) ?_
    exact W.vret hx hb hr (fun t ht hW => ⟨⟨(fma_2), rfl, trivial, by rw [ht]; exact hP9, by first | exact hD9 | (rw [hAe]; exact hD9)⟩, hS.F ht⟩) hS.2.2 dX11_copyTo_20
  · refine lv_aload_n hx hb dX11_copyTo_8 rfl (lv_at hl 1 rfl) ?_
    refine lv_iload_n hx hb dX11_copyTo_9 rfl (lv_at hl 0 rfl) ?_
    refine lv_aload_n hx hb dX11_copyTo_10 rfl (lv_at hl 2 rfl) ?_
    refine lv_iload_n hx hb dX11_copyTo_11 rfl (lv_at hl 0 rfl) ?_
    refine va_iald hx hb hK.1 hP 1 0 rfl rfl (i := k_2) (nq_inb hk_2 (nq_hnge c_1 (j := 2) (by decide)) (by decide) (by decide)) dX11_copyTo_12 ?_
    refine lv_topi (fun w_2 _ => ?_)
    refine va_iast hx hb hK.1 hP hD hS 0 0 rfl rfl (i := k_2) (nq_inb hk_2 (nq_hnge c_1 (j := 2) (by decide)) (by decide) (by decide)) dX11_copyTo_13 (fun H locs hP hD hS => ?_)
    have hP : va_P G vwCl [(ma, .inl (y 0, 3, .inl (upd fma_2 k_2.toNatClampNeg w_2))), (mb, .inl (y 0, 3, .inl fb))] H := hP
    have hD : va_D A [(ma, .inl (y 0, 3, .inl (upd fma_2 k_2.toNatClampNeg w_2))), (mb, .inl (y 0, 3, .inl fb))] := hD
    generalize (upd fma_2 k_2.toNatClampNeg w_2) = f_3 at hP hD
    refine lv_iinc (v := k_2 + Int32.ofInt 1) (lv' := [(2, .int (k_2 + Int32.ofInt 1)), (0, .ref ma), (1, .ref mb)]) hx hb dX11_copyTo_14 hl (k := 0) rfl (rfl) (by decide) rfl (fun ls hl => ?_)
    refine lv_goto (tgt := 2) hx hb dX11_copyTo_17 (by decide) ?_
    exact ih_2 (k_2 + Int32.ofInt 1) (f_3) _ _ _ ⟨nq_nn (nq_inc hk_2 (nq_ltC (B := 3) c_1 (by decide)) (by decide)) hk_2, hP.sub [0, 1] rfl, hD.sub [0, 1] (by decide) rfl, hS, lv_sub hl [0, 1, 2] rfl⟩ (nq_inc hk_2 (nq_ltC (B := 3) c_1 (by decide)) (by decide)) (nq_leB (nq_inc hk_2 (nq_ltC (B := 3) c_1 (by decide)) (by decide)) (nq_ltC (B := 3) c_1 (by decide)))

