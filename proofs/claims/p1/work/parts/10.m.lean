set_option maxHeartbeats 4000000 in
set_option maxRecDepth 100000 in
theorem c_m_isIn0_0 (l : Launch) (G : va_G) (y : Nat → ClassId) (sz : Nat) (v : Int32)  : Met l yX11_isIn wsX11_isIn ({ frames := 0, cells := 0, slots := 0, locals := 0 }) (nq_P G y sz [.int v, .int 0, .int 0] []) (va_Qi (fun (r : Int32) (_ : Unit) => (v = 0 ∧ r = 1) ∨ (¬ v = 0 ∧ r = 0)) (fun _ _ => True) (va_A [] sz)) 0 0 (va_A [] sz) := by
  refine Met.ofW (cc := cX11_isIn) (maxL := 3) (ret := (some .boolean)) (by decide) rfl ?_
  intro p e s m args below meth c s₁ B hml hv
  obtain ⟨rfl, hsz, hP, hK, hD0⟩ := hv
  have hx := B.exec
  have hb := B.bytes
  have hr := B.returns
  have hts := atoms_spec (ws := wsX11_isIn) B.pre
  have hown : s.vm.findClass RX11 = some m.cls := findClass_of_methodNamed B.named
  have hlocks := B.notSynchronized
  subst hsz
  have hD := hD0
  have hA : ∀ q : Nat, s.heap.size ≤ q → va_A [] s.heap.size q := fun q h => Or.inr h
  have hS : va_S (va_A [] s.heap.size) s.heap s.heap [] := va_S.rf
  have hP : va_P G vwCl [] s.heap := hP
  have hl := lv_entry ([.int v, .int 0, .int 0]) (n := 3) (Nat.le_of_ble_eq_true rfl)
  rw [lg_entry_eq]
  generalize (lg_sl ([.int v, .int 0, .int 0]) ++ List.replicate (3 - (lg_sl ([.int v, .int 0, .int 0])).length) Slot.unset).toArray = ls at hl ⊢
  have hl : lv_has ls 3 [(0, .int v), (1, .int 0), (2, .int 0)] := hl
  refine lv_iload_n hx hb dX11_isIn_0 rfl (lv_at hl 0 rfl) ?_
  refine lv_iload_n hx hb dX11_isIn_1 rfl (lv_at hl 1 rfl) ?_
  refine lv_icmp_lt (tgt := 14) hx hb dX11_isIn_2 (by decide) (fun c_1 => ?_) (fun c_1 => ?_)
  · refine lv_iconst (v := 0) hx hb dX11_isIn_14 (by decide) ?_
    refine W.widen (k := 0) (n := 0) (Nat.le_of_ble_eq_true rfl) (Nat.le_of_ble_eq_true rfl) ?_
    exact W.zret (v := 0) hx hb hr (by decide) (fun t ht hW => ⟨⟨0, (), rfl, Or.inr (⟨nq_xeU (nq_hlt c_1 (j := (-1)) (by decide)) (by decide), rfl⟩), trivial⟩, hS.F ht⟩) hS.2.2 dX11_isIn_15
  · refine lv_iload_n hx hb dX11_isIn_5 rfl (lv_at hl 0 rfl) ?_
    refine lv_iload_n hx hb dX11_isIn_6 rfl (lv_at hl 2 rfl) ?_
    refine lv_icmp_gt (tgt := 14) hx hb dX11_isIn_7 (by decide) (fun c_2 => ?_) (fun c_2 => ?_)
    · refine lv_iconst (v := 0) hx hb dX11_isIn_14 (by decide) ?_
      refine W.widen (k := 0) (n := 0) (Nat.le_of_ble_eq_true rfl) (Nat.le_of_ble_eq_true rfl) ?_
      exact W.zret (v := 0) hx hb hr (by decide) (fun t ht hW => ⟨⟨0, (), rfl, Or.inr (⟨nq_xeL (nq_lgt c_2 (j := 1) (by decide)) (by decide), rfl⟩), trivial⟩, hS.F ht⟩) hS.2.2 dX11_isIn_15
    · have e_3 : v = 0 := nq_pin 0 c_1 c_2
      subst e_3
      refine lv_iconst (v := 1) hx hb dX11_isIn_10 (by decide) ?_
      refine lv_goto (tgt := 15) hx hb dX11_isIn_11 (by decide) ?_
      refine W.widen (k := 0) (n := 0) (Nat.le_of_ble_eq_true rfl) (Nat.le_of_ble_eq_true rfl) ?_
      exact W.zret (v := 1) hx hb hr (by decide) (fun t ht hW => ⟨⟨1, (), rfl, Or.inl (⟨by decide, rfl⟩), trivial⟩, hS.F ht⟩) hS.2.2 dX11_isIn_15

set_option maxHeartbeats 4000000 in
set_option maxRecDepth 100000 in
theorem c_m_isIn0_3 (l : Launch) (G : va_G) (y : Nat → ClassId) (sz : Nat) (v : Int32)  : Met l yX11_isIn wsX11_isIn ({ frames := 0, cells := 0, slots := 0, locals := 0 }) (nq_P G y sz [.int v, .int 0, .int 3] []) (va_Qi (fun (r : Int32) (_ : Unit) => (¬ v < 0 ∧ ¬ 3 < v ∧ r = 1) ∨ (v < 0 ∧ r = 0) ∨ (3 < v ∧ r = 0)) (fun _ _ => True) (va_A [] sz)) 0 0 (va_A [] sz) := by
  refine Met.ofW (cc := cX11_isIn) (maxL := 3) (ret := (some .boolean)) (by decide) rfl ?_
  intro p e s m args below meth c s₁ B hml hv
  obtain ⟨rfl, hsz, hP, hK, hD0⟩ := hv
  have hx := B.exec
  have hb := B.bytes
  have hr := B.returns
  have hts := atoms_spec (ws := wsX11_isIn) B.pre
  have hown : s.vm.findClass RX11 = some m.cls := findClass_of_methodNamed B.named
  have hlocks := B.notSynchronized
  subst hsz
  have hD := hD0
  have hA : ∀ q : Nat, s.heap.size ≤ q → va_A [] s.heap.size q := fun q h => Or.inr h
  have hS : va_S (va_A [] s.heap.size) s.heap s.heap [] := va_S.rf
  have hP : va_P G vwCl [] s.heap := hP
  have hl := lv_entry ([.int v, .int 0, .int 3]) (n := 3) (Nat.le_of_ble_eq_true rfl)
  rw [lg_entry_eq]
  generalize (lg_sl ([.int v, .int 0, .int 3]) ++ List.replicate (3 - (lg_sl ([.int v, .int 0, .int 3])).length) Slot.unset).toArray = ls at hl ⊢
  have hl : lv_has ls 3 [(0, .int v), (1, .int 0), (2, .int 3)] := hl
  refine lv_iload_n hx hb dX11_isIn_0 rfl (lv_at hl 0 rfl) ?_
  refine lv_iload_n hx hb dX11_isIn_1 rfl (lv_at hl 1 rfl) ?_
  refine lv_icmp_lt (tgt := 14) hx hb dX11_isIn_2 (by decide) (fun c_1 => ?_) (fun c_1 => ?_)
  · refine lv_iconst (v := 0) hx hb dX11_isIn_14 (by decide) ?_
    refine W.widen (k := 0) (n := 0) (Nat.le_of_ble_eq_true rfl) (Nat.le_of_ble_eq_true rfl) ?_
    exact W.zret (v := 0) hx hb hr (by decide) (fun t ht hW => ⟨⟨0, (), rfl, Or.inr (Or.inl (⟨nq_plt (nq_hlt c_1 (j := (-1)) (by decide)) (by decide), rfl⟩)), trivial⟩, hS.F ht⟩) hS.2.2 dX11_isIn_15
  · refine lv_iload_n hx hb dX11_isIn_5 rfl (lv_at hl 0 rfl) ?_
    refine lv_iload_n hx hb dX11_isIn_6 rfl (lv_at hl 2 rfl) ?_
    refine lv_icmp_gt (tgt := 14) hx hb dX11_isIn_7 (by decide) (fun c_2 => ?_) (fun c_2 => ?_)
    · refine lv_iconst (v := 0) hx hb dX11_isIn_14 (by decide) ?_
      refine W.widen (k := 0) (n := 0) (Nat.le_of_ble_eq_true rfl) (Nat.le_of_ble_eq_true rfl) ?_
      exact W.zret (v := 0) hx hb hr (by decide) (fun t ht hW => ⟨⟨0, (), rfl, Or.inr (Or.inr (⟨nq_pgt (nq_lgt c_2 (j := 4) (by decide)) (by decide), rfl⟩)), trivial⟩, hS.F ht⟩) hS.2.2 dX11_isIn_15
    · refine lv_iconst (v := 1) hx hb dX11_isIn_10 (by decide) ?_
      refine lv_goto (tgt := 15) hx hb dX11_isIn_11 (by decide) ?_
      refine W.widen (k := 0) (n := 0) (Nat.le_of_ble_eq_true rfl) (Nat.le_of_ble_eq_true rfl) ?_
      exact W.zret (v := 1) hx hb hr (by decide) (fun t ht hW => ⟨⟨1, (), rfl, Or.inl (⟨nq_nlt c_1 (by decide), nq_ngt c_2 (by decide), rfl⟩), trivial⟩, hS.F ht⟩) hS.2.2 dX11_isIn_15

set_option maxHeartbeats 4000000 in
set_option maxRecDepth 100000 in
theorem c_m_isIn0_m1 (l : Launch) (G : va_G) (y : Nat → ClassId) (sz : Nat) (v : Int32)  : Met l yX11_isIn wsX11_isIn ({ frames := 0, cells := 0, slots := 0, locals := 0 }) (nq_P G y sz [.int v, .int 0, .int (-1)] []) (va_Qi (fun (r : Int32) (_ : Unit) => r = 0) (fun _ _ => True) (va_A [] sz)) 0 0 (va_A [] sz) := by
  refine Met.ofW (cc := cX11_isIn) (maxL := 3) (ret := (some .boolean)) (by decide) rfl ?_
  intro p e s m args below meth c s₁ B hml hv
  obtain ⟨rfl, hsz, hP, hK, hD0⟩ := hv
  have hx := B.exec
  have hb := B.bytes
  have hr := B.returns
  have hts := atoms_spec (ws := wsX11_isIn) B.pre
  have hown : s.vm.findClass RX11 = some m.cls := findClass_of_methodNamed B.named
  have hlocks := B.notSynchronized
  subst hsz
  have hD := hD0
  have hA : ∀ q : Nat, s.heap.size ≤ q → va_A [] s.heap.size q := fun q h => Or.inr h
  have hS : va_S (va_A [] s.heap.size) s.heap s.heap [] := va_S.rf
  have hP : va_P G vwCl [] s.heap := hP
  have hl := lv_entry ([.int v, .int 0, .int (-1)]) (n := 3) (Nat.le_of_ble_eq_true rfl)
  rw [lg_entry_eq]
  generalize (lg_sl ([.int v, .int 0, .int (-1)]) ++ List.replicate (3 - (lg_sl ([.int v, .int 0, .int (-1)])).length) Slot.unset).toArray = ls at hl ⊢
  have hl : lv_has ls 3 [(0, .int v), (1, .int 0), (2, .int (-1))] := hl
  refine lv_iload_n hx hb dX11_isIn_0 rfl (lv_at hl 0 rfl) ?_
  refine lv_iload_n hx hb dX11_isIn_1 rfl (lv_at hl 1 rfl) ?_
  refine lv_icmp_lt (tgt := 14) hx hb dX11_isIn_2 (by decide) (fun c_1 => ?_) (fun c_1 => ?_)
  · refine lv_iconst (v := 0) hx hb dX11_isIn_14 (by decide) ?_
    refine W.widen (k := 0) (n := 0) (Nat.le_of_ble_eq_true rfl) (Nat.le_of_ble_eq_true rfl) ?_
    exact W.zret (v := 0) hx hb hr (by decide) (fun t ht hW => ⟨⟨0, (), rfl, rfl, trivial⟩, hS.F ht⟩) hS.2.2 dX11_isIn_15
  · refine lv_iload_n hx hb dX11_isIn_5 rfl (lv_at hl 0 rfl) ?_
    refine lv_iload_n hx hb dX11_isIn_6 rfl (lv_at hl 2 rfl) ?_
    refine lv_icmp_gt (tgt := 14) hx hb dX11_isIn_7 (by decide) (fun _ => ?_) (fun c_2 => absurd (nq_pgt c_1 (by decide)) c_2)
    refine lv_iconst (v := 0) hx hb dX11_isIn_14 (by decide) ?_
    refine W.widen (k := 0) (n := 0) (Nat.le_of_ble_eq_true rfl) (Nat.le_of_ble_eq_true rfl) ?_
    exact W.zret (v := 0) hx hb hr (by decide) (fun t ht hW => ⟨⟨0, (), rfl, rfl, trivial⟩, hS.F ht⟩) hS.2.2 dX11_isIn_15

set_option maxHeartbeats 4000000 in
set_option maxRecDepth 100000 in
theorem c_m_isIn0_2 (l : Launch) (G : va_G) (y : Nat → ClassId) (sz : Nat) (v : Int32)  : Met l yX11_isIn wsX11_isIn ({ frames := 0, cells := 0, slots := 0, locals := 0 }) (nq_P G y sz [.int v, .int 0, .int 2] []) (va_Qi (fun (r : Int32) (_ : Unit) => (¬ v < 0 ∧ ¬ 2 < v ∧ r = 1) ∨ (v < 0 ∧ r = 0) ∨ (2 < v ∧ r = 0)) (fun _ _ => True) (va_A [] sz)) 0 0 (va_A [] sz) := by
  refine Met.ofW (cc := cX11_isIn) (maxL := 3) (ret := (some .boolean)) (by decide) rfl ?_
  intro p e s m args below meth c s₁ B hml hv
  obtain ⟨rfl, hsz, hP, hK, hD0⟩ := hv
  have hx := B.exec
  have hb := B.bytes
  have hr := B.returns
  have hts := atoms_spec (ws := wsX11_isIn) B.pre
  have hown : s.vm.findClass RX11 = some m.cls := findClass_of_methodNamed B.named
  have hlocks := B.notSynchronized
  subst hsz
  have hD := hD0
  have hA : ∀ q : Nat, s.heap.size ≤ q → va_A [] s.heap.size q := fun q h => Or.inr h
  have hS : va_S (va_A [] s.heap.size) s.heap s.heap [] := va_S.rf
  have hP : va_P G vwCl [] s.heap := hP
  have hl := lv_entry ([.int v, .int 0, .int 2]) (n := 3) (Nat.le_of_ble_eq_true rfl)
  rw [lg_entry_eq]
  generalize (lg_sl ([.int v, .int 0, .int 2]) ++ List.replicate (3 - (lg_sl ([.int v, .int 0, .int 2])).length) Slot.unset).toArray = ls at hl ⊢
  have hl : lv_has ls 3 [(0, .int v), (1, .int 0), (2, .int 2)] := hl
  refine lv_iload_n hx hb dX11_isIn_0 rfl (lv_at hl 0 rfl) ?_
  refine lv_iload_n hx hb dX11_isIn_1 rfl (lv_at hl 1 rfl) ?_
  refine lv_icmp_lt (tgt := 14) hx hb dX11_isIn_2 (by decide) (fun c_1 => ?_) (fun c_1 => ?_)
  · refine lv_iconst (v := 0) hx hb dX11_isIn_14 (by decide) ?_
    refine W.widen (k := 0) (n := 0) (Nat.le_of_ble_eq_true rfl) (Nat.le_of_ble_eq_true rfl) ?_
    exact W.zret (v := 0) hx hb hr (by decide) (fun t ht hW => ⟨⟨0, (), rfl, Or.inr (Or.inl (⟨nq_plt (nq_hlt c_1 (j := (-1)) (by decide)) (by decide), rfl⟩)), trivial⟩, hS.F ht⟩) hS.2.2 dX11_isIn_15
  · refine lv_iload_n hx hb dX11_isIn_5 rfl (lv_at hl 0 rfl) ?_
    refine lv_iload_n hx hb dX11_isIn_6 rfl (lv_at hl 2 rfl) ?_
    refine lv_icmp_gt (tgt := 14) hx hb dX11_isIn_7 (by decide) (fun c_2 => ?_) (fun c_2 => ?_)
    · refine lv_iconst (v := 0) hx hb dX11_isIn_14 (by decide) ?_
      refine W.widen (k := 0) (n := 0) (Nat.le_of_ble_eq_true rfl) (Nat.le_of_ble_eq_true rfl) ?_
      exact W.zret (v := 0) hx hb hr (by decide) (fun t ht hW => ⟨⟨0, (), rfl, Or.inr (Or.inr (⟨nq_pgt (nq_lgt c_2 (j := 3) (by decide)) (by decide), rfl⟩)), trivial⟩, hS.F ht⟩) hS.2.2 dX11_isIn_15
    · refine lv_iconst (v := 1) hx hb dX11_isIn_10 (by decide) ?_
      refine lv_goto (tgt := 15) hx hb dX11_isIn_11 (by decide) ?_
      refine W.widen (k := 0) (n := 0) (Nat.le_of_ble_eq_true rfl) (Nat.le_of_ble_eq_true rfl) ?_
      exact W.zret (v := 1) hx hb hr (by decide) (fun t ht hW => ⟨⟨1, (), rfl, Or.inl (⟨nq_nlt c_1 (by decide), nq_ngt c_2 (by decide), rfl⟩), trivial⟩, hS.F ht⟩) hS.2.2 dX11_isIn_15

set_option maxHeartbeats 4000000 in
set_option maxRecDepth 100000 in
theorem c_m_isIn0_20 (l : Launch) (G : va_G) (y : Nat → ClassId) (sz : Nat) (v : Int32)  : Met l yX11_isIn wsX11_isIn ({ frames := 0, cells := 0, slots := 0, locals := 0 }) (nq_P G y sz [.int v, .int 0, .int 20] []) (va_Qi (fun (r : Int32) (_ : Unit) => (¬ v < 0 ∧ ¬ 20 < v ∧ r = 1) ∨ (v < 0 ∧ r = 0) ∨ (20 < v ∧ r = 0)) (fun _ _ => True) (va_A [] sz)) 0 0 (va_A [] sz) := by
  refine Met.ofW (cc := cX11_isIn) (maxL := 3) (ret := (some .boolean)) (by decide) rfl ?_
  intro p e s m args below meth c s₁ B hml hv
  obtain ⟨rfl, hsz, hP, hK, hD0⟩ := hv
  have hx := B.exec
  have hb := B.bytes
  have hr := B.returns
  have hts := atoms_spec (ws := wsX11_isIn) B.pre
  have hown : s.vm.findClass RX11 = some m.cls := findClass_of_methodNamed B.named
  have hlocks := B.notSynchronized
  subst hsz
  have hD := hD0
  have hA : ∀ q : Nat, s.heap.size ≤ q → va_A [] s.heap.size q := fun q h => Or.inr h
  have hS : va_S (va_A [] s.heap.size) s.heap s.heap [] := va_S.rf
  have hP : va_P G vwCl [] s.heap := hP
  have hl := lv_entry ([.int v, .int 0, .int 20]) (n := 3) (Nat.le_of_ble_eq_true rfl)
  rw [lg_entry_eq]
  generalize (lg_sl ([.int v, .int 0, .int 20]) ++ List.replicate (3 - (lg_sl ([.int v, .int 0, .int 20])).length) Slot.unset).toArray = ls at hl ⊢
  have hl : lv_has ls 3 [(0, .int v), (1, .int 0), (2, .int 20)] := hl
  refine lv_iload_n hx hb dX11_isIn_0 rfl (lv_at hl 0 rfl) ?_
  refine lv_iload_n hx hb dX11_isIn_1 rfl (lv_at hl 1 rfl) ?_
  refine lv_icmp_lt (tgt := 14) hx hb dX11_isIn_2 (by decide) (fun c_1 => ?_) (fun c_1 => ?_)
  · refine lv_iconst (v := 0) hx hb dX11_isIn_14 (by decide) ?_
    refine W.widen (k := 0) (n := 0) (Nat.le_of_ble_eq_true rfl) (Nat.le_of_ble_eq_true rfl) ?_
    exact W.zret (v := 0) hx hb hr (by decide) (fun t ht hW => ⟨⟨0, (), rfl, Or.inr (Or.inl (⟨nq_plt (nq_hlt c_1 (j := (-1)) (by decide)) (by decide), rfl⟩)), trivial⟩, hS.F ht⟩) hS.2.2 dX11_isIn_15
  · refine lv_iload_n hx hb dX11_isIn_5 rfl (lv_at hl 0 rfl) ?_
    refine lv_iload_n hx hb dX11_isIn_6 rfl (lv_at hl 2 rfl) ?_
    refine lv_icmp_gt (tgt := 14) hx hb dX11_isIn_7 (by decide) (fun c_2 => ?_) (fun c_2 => ?_)
    · refine lv_iconst (v := 0) hx hb dX11_isIn_14 (by decide) ?_
      refine W.widen (k := 0) (n := 0) (Nat.le_of_ble_eq_true rfl) (Nat.le_of_ble_eq_true rfl) ?_
      exact W.zret (v := 0) hx hb hr (by decide) (fun t ht hW => ⟨⟨0, (), rfl, Or.inr (Or.inr (⟨nq_pgt (nq_lgt c_2 (j := 21) (by decide)) (by decide), rfl⟩)), trivial⟩, hS.F ht⟩) hS.2.2 dX11_isIn_15
    · refine lv_iconst (v := 1) hx hb dX11_isIn_10 (by decide) ?_
      refine lv_goto (tgt := 15) hx hb dX11_isIn_11 (by decide) ?_
      refine W.widen (k := 0) (n := 0) (Nat.le_of_ble_eq_true rfl) (Nat.le_of_ble_eq_true rfl) ?_
      exact W.zret (v := 1) hx hb hr (by decide) (fun t ht hW => ⟨⟨1, (), rfl, Or.inl (⟨nq_nlt c_1 (by decide), nq_ngt c_2 (by decide), rfl⟩), trivial⟩, hS.F ht⟩) hS.2.2 dX11_isIn_15

set_option maxHeartbeats 4000000 in
set_option maxRecDepth 100000 in
theorem c_m_isIn0_1 (l : Launch) (G : va_G) (y : Nat → ClassId) (sz : Nat) (v : Int32)  : Met l yX11_isIn wsX11_isIn ({ frames := 0, cells := 0, slots := 0, locals := 0 }) (nq_P G y sz [.int v, .int 0, .int 1] []) (va_Qi (fun (r : Int32) (_ : Unit) => (¬ v < 0 ∧ ¬ 1 < v ∧ r = 1) ∨ (v < 0 ∧ r = 0) ∨ (1 < v ∧ r = 0)) (fun _ _ => True) (va_A [] sz)) 0 0 (va_A [] sz) := by
  refine Met.ofW (cc := cX11_isIn) (maxL := 3) (ret := (some .boolean)) (by decide) rfl ?_
  intro p e s m args below meth c s₁ B hml hv
  obtain ⟨rfl, hsz, hP, hK, hD0⟩ := hv
  have hx := B.exec
  have hb := B.bytes
  have hr := B.returns
  have hts := atoms_spec (ws := wsX11_isIn) B.pre
  have hown : s.vm.findClass RX11 = some m.cls := findClass_of_methodNamed B.named
  have hlocks := B.notSynchronized
  subst hsz
  have hD := hD0
  have hA : ∀ q : Nat, s.heap.size ≤ q → va_A [] s.heap.size q := fun q h => Or.inr h
  have hS : va_S (va_A [] s.heap.size) s.heap s.heap [] := va_S.rf
  have hP : va_P G vwCl [] s.heap := hP
  have hl := lv_entry ([.int v, .int 0, .int 1]) (n := 3) (Nat.le_of_ble_eq_true rfl)
  rw [lg_entry_eq]
  generalize (lg_sl ([.int v, .int 0, .int 1]) ++ List.replicate (3 - (lg_sl ([.int v, .int 0, .int 1])).length) Slot.unset).toArray = ls at hl ⊢
  have hl : lv_has ls 3 [(0, .int v), (1, .int 0), (2, .int 1)] := hl
  refine lv_iload_n hx hb dX11_isIn_0 rfl (lv_at hl 0 rfl) ?_
  refine lv_iload_n hx hb dX11_isIn_1 rfl (lv_at hl 1 rfl) ?_
  refine lv_icmp_lt (tgt := 14) hx hb dX11_isIn_2 (by decide) (fun c_1 => ?_) (fun c_1 => ?_)
  · refine lv_iconst (v := 0) hx hb dX11_isIn_14 (by decide) ?_
    refine W.widen (k := 0) (n := 0) (Nat.le_of_ble_eq_true rfl) (Nat.le_of_ble_eq_true rfl) ?_
    exact W.zret (v := 0) hx hb hr (by decide) (fun t ht hW => ⟨⟨0, (), rfl, Or.inr (Or.inl (⟨nq_plt (nq_hlt c_1 (j := (-1)) (by decide)) (by decide), rfl⟩)), trivial⟩, hS.F ht⟩) hS.2.2 dX11_isIn_15
  · refine lv_iload_n hx hb dX11_isIn_5 rfl (lv_at hl 0 rfl) ?_
    refine lv_iload_n hx hb dX11_isIn_6 rfl (lv_at hl 2 rfl) ?_
    refine lv_icmp_gt (tgt := 14) hx hb dX11_isIn_7 (by decide) (fun c_2 => ?_) (fun c_2 => ?_)
    · refine lv_iconst (v := 0) hx hb dX11_isIn_14 (by decide) ?_
      refine W.widen (k := 0) (n := 0) (Nat.le_of_ble_eq_true rfl) (Nat.le_of_ble_eq_true rfl) ?_
      exact W.zret (v := 0) hx hb hr (by decide) (fun t ht hW => ⟨⟨0, (), rfl, Or.inr (Or.inr (⟨nq_pgt (nq_lgt c_2 (j := 2) (by decide)) (by decide), rfl⟩)), trivial⟩, hS.F ht⟩) hS.2.2 dX11_isIn_15
    · refine lv_iconst (v := 1) hx hb dX11_isIn_10 (by decide) ?_
      refine lv_goto (tgt := 15) hx hb dX11_isIn_11 (by decide) ?_
      refine W.widen (k := 0) (n := 0) (Nat.le_of_ble_eq_true rfl) (Nat.le_of_ble_eq_true rfl) ?_
      exact W.zret (v := 1) hx hb hr (by decide) (fun t ht hW => ⟨⟨1, (), rfl, Or.inl (⟨nq_nlt c_1 (by decide), nq_ngt c_2 (by decide), rfl⟩), trivial⟩, hS.F ht⟩) hS.2.2 dX11_isIn_15

set_option maxHeartbeats 4000000 in
set_option maxRecDepth 100000 in
theorem c_m_kind (l : Launch) (G : va_G) (y : Nat → ClassId) (sz : Nat) (m_tree : Nat)  : Met l yX11_kind wsX11_kind ({ frames := 0, cells := 0, slots := 0, locals := 0 }) (nq_P G y sz [.ref m_tree, .int 0] [(m_tree, .inl (y 0, 240, .inl (upd (upd (fun _ => 0) 0 3) 3 1)))]) (va_Qi (fun (r : Int32) (_ : Unit) => r = 3) (fun _ _ => True) (va_A [] sz)) 0 0 (va_A [] sz) := by
  refine Met.ofW (cc := cX11_kind) (maxL := 2) (ret := (some .int)) (by decide) rfl ?_
  intro p e s m args below meth c s₁ B hml hv
  obtain ⟨rfl, hsz, hP, hK, hD0⟩ := hv
  have hx := B.exec
  have hb := B.bytes
  have hr := B.returns
  have hts := atoms_spec (ws := wsX11_kind) B.pre
  have hown : s.vm.findClass RX11 = some m.cls := findClass_of_methodNamed B.named
  have hlocks := B.notSynchronized
  subst hsz
  have hD := hD0
  have hA : ∀ q : Nat, s.heap.size ≤ q → va_A [] s.heap.size q := fun q h => Or.inr h
  have hS : va_S (va_A [] s.heap.size) s.heap s.heap [] := va_S.rf
  have hP : va_P G vwCl [(m_tree, .inl (y 0, 240, .inl (upd (upd (fun _ => 0) 0 3) 3 1)))] s.heap := hP
  have hl := lv_entry ([.ref m_tree, .int 0]) (n := 2) (Nat.le_of_ble_eq_true rfl)
  rw [lg_entry_eq]
  generalize (lg_sl ([.ref m_tree, .int 0]) ++ List.replicate (2 - (lg_sl ([.ref m_tree, .int 0])).length) Slot.unset).toArray = ls at hl ⊢
  have hl : lv_has ls 2 [(0, .ref m_tree), (1, .int 0)] := hl
  refine lv_aload_n hx hb dX11_kind_0 rfl (lv_at hl 0 rfl) ?_
  refine lv_iconst (v := 4) hx hb dX11_kind_1 (by decide) ?_
  refine lv_iload_n hx hb dX11_kind_2 rfl (lv_at hl 1 rfl) ?_
  refine lv_imul hx hb dX11_kind_3 ?_
  refine nq_top (z := 0) (by decide) ?_
  refine va_iald hx hb hK.1 hP 0 0 rfl rfl (i := 0) (nq_in (by decide)) dX11_kind_4 ?_
  refine nq_top (z := 3) ((pk_un (by decide)).trans (pk_us)) ?_
  refine W.widen (k := 0) (n := 0) (Nat.le_of_ble_eq_true rfl) (Nat.le_of_ble_eq_true rfl) ?_
  exact W.iret (v := 3) hx hb hr (fun t ht hW => ⟨⟨3, (), rfl, rfl, trivial⟩, hS.F ht⟩) hS.2.2 dX11_kind_5

set_option maxHeartbeats 4000000 in
set_option maxRecDepth 100000 in
theorem c_m_size (l : Launch) (G : va_G) (y : Nat → ClassId) (sz : Nat) (m_tree : Nat)  : Met l yX11_size wsX11_size ({ frames := 0, cells := 0, slots := 0, locals := 0 }) (nq_P G y sz [.ref m_tree, .int 0] [(m_tree, .inl (y 0, 240, .inl (upd (upd (fun _ => 0) 0 3) 3 1)))]) (va_Qi (fun (r : Int32) (_ : Unit) => r = 1) (fun _ _ => True) (va_A [] sz)) 0 0 (va_A [] sz) := by
  refine Met.ofW (cc := cX11_size) (maxL := 2) (ret := (some .int)) (by decide) rfl ?_
  intro p e s m args below meth c s₁ B hml hv
  obtain ⟨rfl, hsz, hP, hK, hD0⟩ := hv
  have hx := B.exec
  have hb := B.bytes
  have hr := B.returns
  have hts := atoms_spec (ws := wsX11_size) B.pre
  have hown : s.vm.findClass RX11 = some m.cls := findClass_of_methodNamed B.named
  have hlocks := B.notSynchronized
  subst hsz
  have hD := hD0
  have hA : ∀ q : Nat, s.heap.size ≤ q → va_A [] s.heap.size q := fun q h => Or.inr h
  have hS : va_S (va_A [] s.heap.size) s.heap s.heap [] := va_S.rf
  have hP : va_P G vwCl [(m_tree, .inl (y 0, 240, .inl (upd (upd (fun _ => 0) 0 3) 3 1)))] s.heap := hP
  have hl := lv_entry ([.ref m_tree, .int 0]) (n := 2) (Nat.le_of_ble_eq_true rfl)
  rw [lg_entry_eq]
  generalize (lg_sl ([.ref m_tree, .int 0]) ++ List.replicate (2 - (lg_sl ([.ref m_tree, .int 0])).length) Slot.unset).toArray = ls at hl ⊢
  have hl : lv_has ls 2 [(0, .ref m_tree), (1, .int 0)] := hl
  refine lv_aload_n hx hb dX11_size_0 rfl (lv_at hl 0 rfl) ?_
  refine lv_iconst (v := 4) hx hb dX11_size_1 (by decide) ?_
  refine lv_iload_n hx hb dX11_size_2 rfl (lv_at hl 1 rfl) ?_
  refine lv_imul hx hb dX11_size_3 ?_
  refine nq_top (z := 0) (by decide) ?_
  refine lv_iconst (v := 3) hx hb dX11_size_4 (by decide) ?_
  refine lv_iadd hx hb dX11_size_5 ?_
  refine nq_top (z := 3) (by decide) ?_
  refine va_iald hx hb hK.1 hP 0 0 rfl rfl (i := 3) (nq_in (by decide)) dX11_size_6 ?_
  refine nq_top (z := 1) (pk_us) ?_
  refine W.widen (k := 0) (n := 0) (Nat.le_of_ble_eq_true rfl) (Nat.le_of_ble_eq_true rfl) ?_
  exact W.iret (v := 1) hx hb hr (fun t ht hW => ⟨⟨1, (), rfl, rfl, trivial⟩, hS.F ht⟩) hS.2.2 dX11_size_7

set_option maxHeartbeats 4000000 in
set_option maxRecDepth 100000 in
theorem c_m_holds (l : Launch) (G : va_G) (y : Nat → ClassId) (sz : Nat) (m_tree : Nat)  : Met l yX11_holds wsX11_holds ({ frames := 0, cells := 0, slots := 0, locals := 0 }) (nq_P G y sz [.ref m_tree, .int 0] [(m_tree, .inl (y 0, 240, .inl (upd (upd (fun _ => 0) 0 3) 3 1)))]) (va_Qi (fun (r : Int32) (_ : Unit) => r = 1) (fun _ _ => True) (va_A [] sz)) 0 0 (va_A [] sz) := by
  refine Met.ofW (cc := cX11_holds) (maxL := 2) (ret := (some .boolean)) (by decide) rfl ?_
  intro p e s m args below meth c s₁ B hml hv
  obtain ⟨rfl, hsz, hP, hK, hD0⟩ := hv
  have hx := B.exec
  have hb := B.bytes
  have hr := B.returns
  have hts := atoms_spec (ws := wsX11_holds) B.pre
  have hown : s.vm.findClass RX11 = some m.cls := findClass_of_methodNamed B.named
  have hlocks := B.notSynchronized
  subst hsz
  have hD := hD0
  have hA : ∀ q : Nat, s.heap.size ≤ q → va_A [] s.heap.size q := fun q h => Or.inr h
  have hS : va_S (va_A [] s.heap.size) s.heap s.heap [] := va_S.rf
  have hP : va_P G vwCl [(m_tree, .inl (y 0, 240, .inl (upd (upd (fun _ => 0) 0 3) 3 1)))] s.heap := hP
  have hl := lv_entry ([.ref m_tree, .int 0]) (n := 2) (Nat.le_of_ble_eq_true rfl)
  rw [lg_entry_eq]
  generalize (lg_sl ([.ref m_tree, .int 0]) ++ List.replicate (2 - (lg_sl ([.ref m_tree, .int 0])).length) Slot.unset).toArray = ls at hl ⊢
  have hl : lv_has ls 2 [(0, .ref m_tree), (1, .int 0)] := hl
  refine lv_aload_n hx hb dX11_holds_0 rfl (lv_at hl 0 rfl) ?_
  refine lv_iconst (v := 4) hx hb dX11_holds_1 (by decide) ?_
  refine lv_iload_n hx hb dX11_holds_2 rfl (lv_at hl 1 rfl) ?_
  refine lv_imul hx hb dX11_holds_3 ?_
  refine nq_top (z := 0) (by decide) ?_
  refine va_iald hx hb hK.1 hP 0 0 rfl rfl (i := 0) (nq_in (by decide)) dX11_holds_4 ?_
  refine nq_top (z := 3) ((pk_un (by decide)).trans (pk_us)) ?_
  refine lv_iconst (v := 2) hx hb dX11_holds_5 (by decide) ?_
  refine lv_icmp_lt (tgt := 13) hx hb dX11_holds_6 (by decide) (fun c_1 => absurd c_1 (by decide)) (fun _ => ?_)
  refine lv_iconst (v := 1) hx hb dX11_holds_9 (by decide) ?_
  refine lv_goto (tgt := 14) hx hb dX11_holds_10 (by decide) ?_
  refine W.widen (k := 0) (n := 0) (Nat.le_of_ble_eq_true rfl) (Nat.le_of_ble_eq_true rfl) ?_
  exact W.zret (v := 1) hx hb hr (by decide) (fun t ht hW => ⟨⟨1, (), rfl, rfl, trivial⟩, hS.F ht⟩) hS.2.2 dX11_holds_14

set_option maxHeartbeats 4000000 in
set_option maxRecDepth 100000 in
theorem c_m_many (l : Launch) (G : va_G) (y : Nat → ClassId) (sz : Nat) (m_tree : Nat)  : Met l yX11_many wsX11_many ({ frames := 1, cells := 0, slots := 0, locals := 21 }) (nq_P G y sz [.ref m_tree, .int 0] [(m_tree, .inl (y 0, 240, .inl (upd (upd (fun _ => 0) 0 3) 3 1)))]) (va_Qi (fun (r : Int32) (_ : Unit) => r = 0) (fun _ _ => True) (va_A [] sz)) 0 0 (va_A [] sz) := by
  refine Met.ofW (cc := cX11_many) (maxL := 4) (ret := (some .int)) (by decide) rfl ?_
  intro p e s m args below meth c s₁ B hml hv
  obtain ⟨rfl, hsz, hP, hK, hD0⟩ := hv
  have hx := B.exec
  have hb := B.bytes
  have hr := B.returns
  have hts := atoms_spec (ws := wsX11_many) B.pre
  have hown : s.vm.findClass RX11 = some m.cls := findClass_of_methodNamed B.named
  have hlocks := B.notSynchronized
  subst hsz
  have hD := hD0
  have hA : ∀ q : Nat, s.heap.size ≤ q → va_A [] s.heap.size q := fun q h => Or.inr h
  have hS : va_S (va_A [] s.heap.size) s.heap s.heap [] := va_S.rf
  have hP : va_P G vwCl [(m_tree, .inl (y 0, 240, .inl (upd (upd (fun _ => 0) 0 3) 3 1)))] s.heap := hP
  have hl := lv_entry ([.ref m_tree, .int 0]) (n := 4) (Nat.le_of_ble_eq_true rfl)
  rw [lg_entry_eq]
  generalize (lg_sl ([.ref m_tree, .int 0]) ++ List.replicate (4 - (lg_sl ([.ref m_tree, .int 0])).length) Slot.unset).toArray = ls at hl ⊢
  have hl : lv_has ls 4 [(0, .ref m_tree), (1, .int 0)] := hl
  refine lv_iconst (v := 0) hx hb dX11_many_0 (by decide) ?_
  refine lv_istore_n (lv' := [(2, .int 0), (0, .ref m_tree), (1, .int 0)]) hx hb dX11_many_1 rfl hl (by decide) rfl (fun ls hl => ?_)
  refine lv_iload_n hx hb dX11_many_2 rfl (lv_at hl 2 rfl) ?_
  refine lv_iconst (v := 1) hx hb dX11_many_3 (by decide) ?_
  refine lv_iadd hx hb dX11_many_4 ?_
  refine nq_top (z := 1) (by decide) ?_
  refine lv_istore_n (lv' := [(3, .int 1), (2, .int 0), (0, .ref m_tree), (1, .int 0)]) hx hb dX11_many_5 rfl hl (by decide) rfl (fun ls hl => ?_)
  refine lv_iload_n hx hb dX11_many_6 rfl (lv_at hl 0 rfl) ?_
  refine lv_iload_n hx hb dX11_many_7 rfl (lv_at hl 3 rfl) ?_
  refine lv_aload_n hx hb dX11_many_8 rfl (lv_at hl 2 rfl) ?_
  refine lv_iload_n hx hb dX11_many_9 rfl (lv_at hl 3 rfl) ?_
  refine nq_rdi (va_runS (As := [.ref m_tree, .int 0]) (rest := [.int 0, .int 1]) ⟨hx, hb, hml, hown, hts⟩ (c_m_size l G y s.heap.size m_tree ) (va_cwS 2 hts gX11_many_X11_size rfl rfl rfl (by decide +kernel) ⟨Nat.le_of_ble_eq_true rfl, Nat.le_of_ble_eq_true rfl⟩) (nq_PS hK hP hD [0] rfl rfl) rfl rfl hl.1 rfl (lv_room (Nat.le_of_ble_eq_true rfl)) dX11_many_10 ⟨Nat.le_of_ble_eq_true rfl, Nat.le_of_ble_eq_true rfl⟩) hP hS hA (fun r_1 H locs hw_2 hP hS => ?_)
  subst hw_2
  refine lv_iadd hx hb dX11_many_13 ?_
  refine nq_top (z := 1) (by decide) ?_
  refine lv_icmp_ge (tgt := 31) hx hb dX11_many_14 (by decide) (fun _ => ?_) (fun c_3 => absurd c_3 (by decide))
  refine lv_iload_n hx hb dX11_many_31 rfl (lv_at hl 1 rfl) ?_
  refine W.widen (k := 0) (n := 0) (Nat.le_of_ble_eq_true rfl) (Nat.le_of_ble_eq_true rfl) ?_
  exact W.iret (v := 0) hx hb hr (fun t ht hW => ⟨⟨0, (), rfl, rfl, trivial⟩, hS.F ht⟩) hS.2.2 dX11_many_32

set_option maxHeartbeats 4000000 in
set_option maxRecDepth 100000 in
theorem c_m_parentOf (l : Launch) (G : va_G) (y : Nat → ClassId) (sz : Nat) (m_tree : Nat)  : Met l yX11_parentOf wsX11_parentOf ({ frames := 0, cells := 0, slots := 0, locals := 0 }) (nq_P G y sz [.ref m_tree, .int 0] [(m_tree, .inl (y 0, 240, .inl (upd (upd (fun _ => 0) 0 3) 3 1)))]) (va_Qi (fun (r : Int32) (_ : Unit) => r = (-1)) (fun _ _ => True) (va_A [] sz)) 0 0 (va_A [] sz) := by
  refine Met.ofW (cc := cX11_parentOf) (maxL := 3) (ret := (some .int)) (by decide) rfl ?_
  intro p e s m args below meth c s₁ B hml hv
  obtain ⟨rfl, hsz, hP, hK, hD0⟩ := hv
  have hx := B.exec
  have hb := B.bytes
  have hr := B.returns
  have hts := atoms_spec (ws := wsX11_parentOf) B.pre
  have hown : s.vm.findClass RX11 = some m.cls := findClass_of_methodNamed B.named
  have hlocks := B.notSynchronized
  subst hsz
  have hD := hD0
  have hA : ∀ q : Nat, s.heap.size ≤ q → va_A [] s.heap.size q := fun q h => Or.inr h
  have hS : va_S (va_A [] s.heap.size) s.heap s.heap [] := va_S.rf
  have hP : va_P G vwCl [(m_tree, .inl (y 0, 240, .inl (upd (upd (fun _ => 0) 0 3) 3 1)))] s.heap := hP
  have hl := lv_entry ([.ref m_tree, .int 0]) (n := 3) (Nat.le_of_ble_eq_true rfl)
  rw [lg_entry_eq]
  generalize (lg_sl ([.ref m_tree, .int 0]) ++ List.replicate (3 - (lg_sl ([.ref m_tree, .int 0])).length) Slot.unset).toArray = ls at hl ⊢
  have hl : lv_has ls 3 [(0, .ref m_tree), (1, .int 0)] := hl
  refine lv_iload_n hx hb dX11_parentOf_0 rfl (lv_at hl 1 rfl) ?_
  refine lv_iconst (v := 1) hx hb dX11_parentOf_1 (by decide) ?_
  refine lv_isub hx hb dX11_parentOf_2 ?_
  refine nq_top (z := (-1)) (by decide) ?_
  refine lv_istore_n (lv' := [(2, .int (-1)), (0, .ref m_tree), (1, .int 0)]) hx hb dX11_parentOf_3 rfl hl (by decide) rfl (fun ls hl => ?_)
  refine lv_iload_n hx hb dX11_parentOf_4 rfl (lv_at hl 0 rfl) ?_
  refine lv_if_lt (tgt := 27) hx hb dX11_parentOf_5 (by decide) (fun _ => ?_) (fun c_1 => absurd c_1 (by decide))
  refine lv_iconst (v := (-1)) hx hb dX11_parentOf_27 (by decide) ?_
  refine W.widen (k := 0) (n := 0) (Nat.le_of_ble_eq_true rfl) (Nat.le_of_ble_eq_true rfl) ?_
  exact W.iret (v := (-1)) hx hb hr (fun t ht hW => ⟨⟨(-1), (), rfl, rfl, trivial⟩, hS.F ht⟩) hS.2.2 dX11_parentOf_28

set_option maxHeartbeats 4000000 in
set_option maxRecDepth 100000 in
theorem c_m_depthOf (l : Launch) (G : va_G) (y : Nat → ClassId) (sz : Nat) (m_tree : Nat)  : Met l yX11_depthOf wsX11_depthOf ({ frames := 0, cells := 0, slots := 0, locals := 0 }) (nq_P G y sz [.ref m_tree, .int 0] [(m_tree, .inl (y 0, 240, .inl (upd (upd (fun _ => 0) 0 3) 3 1)))]) (va_Qi (fun (r : Int32) (_ : Unit) => r = 0) (fun _ _ => True) (va_A [] sz)) 0 0 (va_A [] sz) := by
  refine Met.ofW (cc := cX11_depthOf) (maxL := 4) (ret := (some .int)) (by decide) rfl ?_
  intro p e s m args below meth c s₁ B hml hv
  obtain ⟨rfl, hsz, hP, hK, hD0⟩ := hv
  have hx := B.exec
  have hb := B.bytes
  have hr := B.returns
  have hts := atoms_spec (ws := wsX11_depthOf) B.pre
  have hown : s.vm.findClass RX11 = some m.cls := findClass_of_methodNamed B.named
  have hlocks := B.notSynchronized
  subst hsz
  have hD := hD0
  have hA : ∀ q : Nat, s.heap.size ≤ q → va_A [] s.heap.size q := fun q h => Or.inr h
  have hS : va_S (va_A [] s.heap.size) s.heap s.heap [] := va_S.rf
  have hP : va_P G vwCl [(m_tree, .inl (y 0, 240, .inl (upd (upd (fun _ => 0) 0 3) 3 1)))] s.heap := hP
  have hl := lv_entry ([.ref m_tree, .int 0]) (n := 4) (Nat.le_of_ble_eq_true rfl)
  rw [lg_entry_eq]
  generalize (lg_sl ([.ref m_tree, .int 0]) ++ List.replicate (4 - (lg_sl ([.ref m_tree, .int 0])).length) Slot.unset).toArray = ls at hl ⊢
  have hl : lv_has ls 4 [(0, .ref m_tree), (1, .int 0)] := hl
  refine lv_iconst (v := 0) hx hb dX11_depthOf_0 (by decide) ?_
  refine lv_istore_n (lv' := [(2, .int 0), (0, .ref m_tree), (1, .int 0)]) hx hb dX11_depthOf_1 rfl hl (by decide) rfl (fun ls hl => ?_)
  refine lv_iconst (v := 0) hx hb dX11_depthOf_2 (by decide) ?_
  refine lv_istore_n (lv' := [(3, .int 0), (2, .int 0), (0, .ref m_tree), (1, .int 0)]) hx hb dX11_depthOf_3 rfl hl (by decide) rfl (fun ls hl => ?_)
  refine lv_iload_n hx hb dX11_depthOf_4 rfl (lv_at hl 0 rfl) ?_
  refine lv_iload_n hx hb dX11_depthOf_5 rfl (lv_at hl 3 rfl) ?_
  refine lv_icmp_ge (tgt := 34) hx hb dX11_depthOf_6 (by decide) (fun _ => ?_) (fun c_1 => absurd c_1 (by decide))
  refine lv_iload_n hx hb dX11_depthOf_34 rfl (lv_at hl 1 rfl) ?_
  refine W.widen (k := 0) (n := 0) (Nat.le_of_ble_eq_true rfl) (Nat.le_of_ble_eq_true rfl) ?_
  exact W.iret (v := 0) hx hb hr (fun t ht hW => ⟨⟨0, (), rfl, rfl, trivial⟩, hS.F ht⟩) hS.2.2 dX11_depthOf_35

set_option maxHeartbeats 4000000 in
set_option maxRecDepth 100000 in
theorem c_m_placeOf (l : Launch) (G : va_G) (y : Nat → ClassId) (sz : Nat) (m_tree : Nat)  : Met l yX11_placeOf wsX11_placeOf ({ frames := 1, cells := 0, slots := 0, locals := 22 }) (nq_P G y sz [.ref m_tree, .int 0] [(m_tree, .inl (y 0, 240, .inl (upd (upd (fun _ => 0) 0 3) 3 1)))]) (va_Qi (fun (r : Int32) (_ : Unit) => r = (-1)) (fun _ _ => True) (va_A [] sz)) 0 0 (va_A [] sz) := by
  refine Met.ofW (cc := cX11_placeOf) (maxL := 5) (ret := (some .int)) (by decide) rfl ?_
  intro p e s m args below meth c s₁ B hml hv
  obtain ⟨rfl, hsz, hP, hK, hD0⟩ := hv
  have hx := B.exec
  have hb := B.bytes
  have hr := B.returns
  have hts := atoms_spec (ws := wsX11_placeOf) B.pre
  have hown : s.vm.findClass RX11 = some m.cls := findClass_of_methodNamed B.named
  have hlocks := B.notSynchronized
  subst hsz
  have hD := hD0
  have hA : ∀ q : Nat, s.heap.size ≤ q → va_A [] s.heap.size q := fun q h => Or.inr h
  have hS : va_S (va_A [] s.heap.size) s.heap s.heap [] := va_S.rf
  have hP : va_P G vwCl [(m_tree, .inl (y 0, 240, .inl (upd (upd (fun _ => 0) 0 3) 3 1)))] s.heap := hP
  have hl := lv_entry ([.ref m_tree, .int 0]) (n := 5) (Nat.le_of_ble_eq_true rfl)
  rw [lg_entry_eq]
  generalize (lg_sl ([.ref m_tree, .int 0]) ++ List.replicate (5 - (lg_sl ([.ref m_tree, .int 0])).length) Slot.unset).toArray = ls at hl ⊢
  have hl : lv_has ls 5 [(0, .ref m_tree), (1, .int 0)] := hl
  refine lv_aload_n hx hb dX11_placeOf_0 rfl (lv_at hl 0 rfl) ?_
  refine lv_iload_n hx hb dX11_placeOf_1 rfl (lv_at hl 1 rfl) ?_
  refine nq_rdi (va_runS (As := [.ref m_tree, .int 0]) (rest := []) ⟨hx, hb, hml, hown, hts⟩ (c_m_parentOf l G y s.heap.size m_tree ) (va_cwS 2 hts gX11_placeOf_X11_parentOf rfl rfl rfl (by decide +kernel) ⟨Nat.le_of_ble_eq_true rfl, Nat.le_of_ble_eq_true rfl⟩) (nq_PS hK hP hD [0] rfl rfl) rfl rfl hl.1 rfl (lv_room (Nat.le_of_ble_eq_true rfl)) dX11_placeOf_2 ⟨Nat.le_of_ble_eq_true rfl, Nat.le_of_ble_eq_true rfl⟩) hP hS hA (fun r_1 H locs hw_2 hP hS => ?_)
  subst hw_2
  refine lv_istore_n (lv' := [(2, .int (-1)), (0, .ref m_tree), (1, .int 0)]) hx hb dX11_placeOf_5 rfl hl (by decide) rfl (fun ls hl => ?_)
  refine lv_iconst (v := 0) hx hb dX11_placeOf_6 (by decide) ?_
  refine lv_istore_n (lv' := [(3, .int 0), (2, .int (-1)), (0, .ref m_tree), (1, .int 0)]) hx hb dX11_placeOf_7 rfl hl (by decide) rfl (fun ls hl => ?_)
  refine lv_iload_n hx hb dX11_placeOf_8 rfl (lv_at hl 1 rfl) ?_
  refine lv_iconst (v := 1) hx hb dX11_placeOf_9 (by decide) ?_
  refine lv_iadd hx hb dX11_placeOf_10 ?_
  refine nq_top (z := 0) (by decide) ?_
  refine lv_istore (lv' := [(4, .int 0), (3, .int 0), (2, .int (-1)), (0, .ref m_tree), (1, .int 0)]) hx hb dX11_placeOf_11 hl (by decide) rfl (fun ls hl => ?_)
  refine lv_iload hx hb dX11_placeOf_13 (lv_at hl 0 rfl) ?_
  refine lv_iload_n hx hb dX11_placeOf_15 rfl (lv_at hl 4 rfl) ?_
  refine lv_icmp_ge (tgt := 41) hx hb dX11_placeOf_16 (by decide) (fun _ => ?_) (fun c_3 => absurd c_3 (by decide))
  refine lv_iload_n hx hb dX11_placeOf_41 rfl (lv_at hl 2 rfl) ?_
  refine lv_iconst (v := (-1)) hx hb dX11_placeOf_42 (by decide) ?_
  refine lv_icmp_ne (tgt := 50) hx hb dX11_placeOf_43 (by decide) (fun c_4 => absurd c_4 (by decide)) (fun _ => ?_)
  refine lv_iconst (v := (-1)) hx hb dX11_placeOf_46 (by decide) ?_
  refine lv_goto (tgt := 51) hx hb dX11_placeOf_47 (by decide) ?_
  refine W.widen (k := 0) (n := 0) (Nat.le_of_ble_eq_true rfl) (Nat.le_of_ble_eq_true rfl) ?_
  exact W.iret (v := (-1)) hx hb hr (fun t ht hW => ⟨⟨(-1), (), rfl, rfl, trivial⟩, hS.F ht⟩) hS.2.2 dX11_placeOf_51

set_option maxHeartbeats 4000000 in
set_option maxRecDepth 100000 in
theorem c_m_areLike (l : Launch) (G : va_G) (y : Nat → ClassId) (sz : Nat) (m_tree : Nat)  : Met l yX11_areLike wsX11_areLike ({ frames := 2, cells := 0, slots := 0, locals := 44 }) (nq_P G y sz [.ref m_tree, .int 0, .ref m_tree, .int 0] [(m_tree, .inl (y 0, 240, .inl (upd (upd (fun _ => 0) 0 3) 3 1)))]) (va_Qi (fun (r : Int32) (_ : Unit) => r = 1) (fun _ _ => True) (va_A [] sz)) 0 0 (va_A [] sz) := by
  refine Met.ofW (cc := cX11_areLike) (maxL := 8) (ret := (some .boolean)) (by decide) rfl ?_
  intro p e s m args below meth c s₁ B hml hv
  obtain ⟨rfl, hsz, hP, hK, hD0⟩ := hv
  have hx := B.exec
  have hb := B.bytes
  have hr := B.returns
  have hts := atoms_spec (ws := wsX11_areLike) B.pre
  have hown : s.vm.findClass RX11 = some m.cls := findClass_of_methodNamed B.named
  have hlocks := B.notSynchronized
  subst hsz
  have hD := hD0
  have hA : ∀ q : Nat, s.heap.size ≤ q → va_A [] s.heap.size q := fun q h => Or.inr h
  have hS : va_S (va_A [] s.heap.size) s.heap s.heap [] := va_S.rf
  have hP : va_P G vwCl [(m_tree, .inl (y 0, 240, .inl (upd (upd (fun _ => 0) 0 3) 3 1)))] s.heap := hP
  have hl := lv_entry ([.ref m_tree, .int 0, .ref m_tree, .int 0]) (n := 8) (Nat.le_of_ble_eq_true rfl)
  rw [lg_entry_eq]
  generalize (lg_sl ([.ref m_tree, .int 0, .ref m_tree, .int 0]) ++ List.replicate (8 - (lg_sl ([.ref m_tree, .int 0, .ref m_tree, .int 0])).length) Slot.unset).toArray = ls at hl ⊢
  have hl : lv_has ls 8 [(0, .ref m_tree), (1, .int 0), (2, .ref m_tree), (3, .int 0)] := hl
  refine lv_aload_n hx hb dX11_areLike_0 rfl (lv_at hl 0 rfl) ?_
  refine lv_iload_n hx hb dX11_areLike_1 rfl (lv_at hl 1 rfl) ?_
  refine nq_rdi (va_runS (As := [.ref m_tree, .int 0]) (rest := []) ⟨hx, hb, hml, hown, hts⟩ (c_m_kind l G y s.heap.size m_tree ) (va_cwS 2 hts gX11_areLike_X11_kind rfl rfl rfl (by decide +kernel) ⟨Nat.le_of_ble_eq_true rfl, Nat.le_of_ble_eq_true rfl⟩) (nq_PS hK hP hD [0] rfl rfl) rfl rfl hl.1 rfl (lv_room (Nat.le_of_ble_eq_true rfl)) dX11_areLike_2 ⟨Nat.le_of_ble_eq_true rfl, Nat.le_of_ble_eq_true rfl⟩) hP hS hA (fun r_1 H locs hw_2 hP hS => ?_)
  subst hw_2
  refine lv_aload_n hx hb dX11_areLike_5 rfl (lv_at hl 2 rfl) ?_
  refine lv_iload_n hx hb dX11_areLike_6 rfl (lv_at hl 3 rfl) ?_
  refine nq_rdi (va_runS (As := [.ref m_tree, .int 0]) (rest := [.int 3]) ⟨hx, hb, hml, hown, hts⟩ (c_m_kind l G y H.size m_tree ) (va_cwS 2 hts gX11_areLike_X11_kind rfl rfl rfl (by decide +kernel) ⟨Nat.le_of_ble_eq_true rfl, Nat.le_of_ble_eq_true rfl⟩) (nq_PS hK hP hD [0] rfl rfl) rfl rfl hl.1 rfl (lv_room (Nat.le_of_ble_eq_true rfl)) dX11_areLike_7 ⟨Nat.le_of_ble_eq_true rfl, Nat.le_of_ble_eq_true rfl⟩) hP hS hA (fun r_3 H locs hw_4 hP hS => ?_)
  subst hw_4
  refine lv_icmp_ne (tgt := 26) hx hb dX11_areLike_10 (by decide) (fun c_5 => absurd c_5 (by decide)) (fun _ => ?_)
  refine lv_aload_n hx hb dX11_areLike_13 rfl (lv_at hl 0 rfl) ?_
  refine lv_iload_n hx hb dX11_areLike_14 rfl (lv_at hl 1 rfl) ?_
  refine nq_rdi (va_runS (As := [.ref m_tree, .int 0]) (rest := []) ⟨hx, hb, hml, hown, hts⟩ (c_m_size l G y H.size m_tree ) (va_cwS 2 hts gX11_areLike_X11_size rfl rfl rfl (by decide +kernel) ⟨Nat.le_of_ble_eq_true rfl, Nat.le_of_ble_eq_true rfl⟩) (nq_PS hK hP hD [0] rfl rfl) rfl rfl hl.1 rfl (lv_room (Nat.le_of_ble_eq_true rfl)) dX11_areLike_15 ⟨Nat.le_of_ble_eq_true rfl, Nat.le_of_ble_eq_true rfl⟩) hP hS hA (fun r_6 H locs hw_7 hP hS => ?_)
  subst hw_7
  refine lv_aload_n hx hb dX11_areLike_18 rfl (lv_at hl 2 rfl) ?_
  refine lv_iload_n hx hb dX11_areLike_19 rfl (lv_at hl 3 rfl) ?_
  refine nq_rdi (va_runS (As := [.ref m_tree, .int 0]) (rest := [.int 1]) ⟨hx, hb, hml, hown, hts⟩ (c_m_size l G y H.size m_tree ) (va_cwS 2 hts gX11_areLike_X11_size rfl rfl rfl (by decide +kernel) ⟨Nat.le_of_ble_eq_true rfl, Nat.le_of_ble_eq_true rfl⟩) (nq_PS hK hP hD [0] rfl rfl) rfl rfl hl.1 rfl (lv_room (Nat.le_of_ble_eq_true rfl)) dX11_areLike_20 ⟨Nat.le_of_ble_eq_true rfl, Nat.le_of_ble_eq_true rfl⟩) hP hS hA (fun r_8 H locs hw_9 hP hS => ?_)
  subst hw_9
  refine lv_icmp_eq (tgt := 28) hx hb dX11_areLike_23 (by decide) (fun _ => ?_) (fun c_10 => absurd c_10 (by decide))
  refine lv_aload_n hx hb dX11_areLike_28 rfl (lv_at hl 0 rfl) ?_
  refine lv_iload_n hx hb dX11_areLike_29 rfl (lv_at hl 1 rfl) ?_
  refine nq_rdi (va_runS (As := [.ref m_tree, .int 0]) (rest := []) ⟨hx, hb, hml, hown, hts⟩ (c_m_holds l G y H.size m_tree ) (va_cwS 2 hts gX11_areLike_X11_holds rfl rfl rfl (by decide +kernel) ⟨Nat.le_of_ble_eq_true rfl, Nat.le_of_ble_eq_true rfl⟩) (nq_PS hK hP hD [0] rfl rfl) rfl rfl hl.1 rfl (lv_room (Nat.le_of_ble_eq_true rfl)) dX11_areLike_30 ⟨Nat.le_of_ble_eq_true rfl, Nat.le_of_ble_eq_true rfl⟩) hP hS hA (fun r_11 H locs hw_12 hP hS => ?_)
  subst hw_12
  refine lv_if_ne (tgt := 59) hx hb dX11_areLike_33 (by decide) (fun _ => ?_) (fun c_13 => absurd c_13 (by decide))
  refine lv_aload_n hx hb dX11_areLike_59 rfl (lv_at hl 0 rfl) ?_
  refine lv_iload_n hx hb dX11_areLike_60 rfl (lv_at hl 1 rfl) ?_
  refine nq_rdi (va_runS (As := [.ref m_tree, .int 0]) (rest := []) ⟨hx, hb, hml, hown, hts⟩ (c_m_many l G y H.size m_tree ) (va_cwS 2 hts gX11_areLike_X11_many rfl rfl rfl (by decide +kernel) ⟨Nat.le_of_ble_eq_true rfl, Nat.le_of_ble_eq_true rfl⟩) (nq_PS hK hP hD [0] rfl rfl) rfl rfl hl.1 rfl (lv_room (Nat.le_of_ble_eq_true rfl)) dX11_areLike_61 ⟨Nat.le_of_ble_eq_true rfl, Nat.le_of_ble_eq_true rfl⟩) hP hS hA (fun r_14 H locs hw_15 hP hS => ?_)
  subst hw_15
  refine lv_aload_n hx hb dX11_areLike_64 rfl (lv_at hl 2 rfl) ?_
  refine lv_iload_n hx hb dX11_areLike_65 rfl (lv_at hl 3 rfl) ?_
  refine nq_rdi (va_runS (As := [.ref m_tree, .int 0]) (rest := [.int 0]) ⟨hx, hb, hml, hown, hts⟩ (c_m_many l G y H.size m_tree ) (va_cwS 2 hts gX11_areLike_X11_many rfl rfl rfl (by decide +kernel) ⟨Nat.le_of_ble_eq_true rfl, Nat.le_of_ble_eq_true rfl⟩) (nq_PS hK hP hD [0] rfl rfl) rfl rfl hl.1 rfl (lv_room (Nat.le_of_ble_eq_true rfl)) dX11_areLike_66 ⟨Nat.le_of_ble_eq_true rfl, Nat.le_of_ble_eq_true rfl⟩) hP hS hA (fun r_16 H locs hw_17 hP hS => ?_)
  subst hw_17
  refine lv_icmp_eq (tgt := 74) hx hb dX11_areLike_69 (by decide) (fun _ => ?_) (fun c_18 => absurd c_18 (by decide))
  refine lv_iconst (v := 1) hx hb dX11_areLike_74 (by decide) ?_
  refine lv_istore (lv' := [(4, .int 1), (0, .ref m_tree), (1, .int 0), (2, .ref m_tree), (3, .int 0)]) hx hb dX11_areLike_75 hl (by decide) rfl (fun ls hl => ?_)
  refine lv_iconst (v := 0) hx hb dX11_areLike_77 (by decide) ?_
  refine lv_istore (lv' := [(5, .int 0), (4, .int 1), (0, .ref m_tree), (1, .int 0), (2, .ref m_tree), (3, .int 0)]) hx hb dX11_areLike_78 hl (by decide) rfl (fun ls hl => ?_)
  refine lv_iload_n hx hb dX11_areLike_80 rfl (lv_at hl 3 rfl) ?_
  refine lv_iconst (v := 1) hx hb dX11_areLike_81 (by decide) ?_
  refine lv_iadd hx hb dX11_areLike_82 ?_
  refine nq_top (z := 1) (by decide) ?_
  refine lv_istore (lv' := [(6, .int 1), (5, .int 0), (4, .int 1), (0, .ref m_tree), (1, .int 0), (2, .ref m_tree), (3, .int 0)]) hx hb dX11_areLike_83 hl (by decide) rfl (fun ls hl => ?_)
  refine lv_iload hx hb dX11_areLike_85 (lv_at hl 0 rfl) ?_
  refine lv_iload_n hx hb dX11_areLike_87 rfl (lv_at hl 4 rfl) ?_
  refine lv_aload_n hx hb dX11_areLike_88 rfl (lv_at hl 3 rfl) ?_
  refine lv_iload_n hx hb dX11_areLike_89 rfl (lv_at hl 4 rfl) ?_
  refine nq_rdi (va_runS (As := [.ref m_tree, .int 0]) (rest := [.int 0, .int 1]) ⟨hx, hb, hml, hown, hts⟩ (c_m_size l G y H.size m_tree ) (va_cwS 2 hts gX11_areLike_X11_size rfl rfl rfl (by decide +kernel) ⟨Nat.le_of_ble_eq_true rfl, Nat.le_of_ble_eq_true rfl⟩) (nq_PS hK hP hD [0] rfl rfl) rfl rfl hl.1 rfl (lv_room (Nat.le_of_ble_eq_true rfl)) dX11_areLike_90 ⟨Nat.le_of_ble_eq_true rfl, Nat.le_of_ble_eq_true rfl⟩) hP hS hA (fun r_19 H locs hw_20 hP hS => ?_)
  subst hw_20
  refine lv_iadd hx hb dX11_areLike_93 ?_
  refine nq_top (z := 1) (by decide) ?_
  refine lv_icmp_ge (tgt := 178) hx hb dX11_areLike_94 (by decide) (fun _ => ?_) (fun c_21 => absurd c_21 (by decide))
  refine lv_iload hx hb dX11_areLike_178 (lv_at hl 2 rfl) ?_
  refine W.widen (k := 0) (n := 0) (Nat.le_of_ble_eq_true rfl) (Nat.le_of_ble_eq_true rfl) ?_
  exact W.zret (v := 1) hx hb hr (by decide) (fun t ht hW => ⟨⟨1, (), rfl, rfl, trivial⟩, hS.F ht⟩) hS.2.2 dX11_areLike_180

set_option maxHeartbeats 4000000 in
set_option maxRecDepth 100000 in
theorem c_m_lettersOf (l : Launch) (G : va_G) (y : Nat → ClassId) (sz : Nat)   : Met l yX11_lettersOf wsX11_lettersOf ({ frames := 0, cells := 0, slots := 0, locals := 0 }) (nq_P G y sz [.int 0] []) (va_Qi (fun (r : Int32) (_ : Unit) => r = 0) (fun _ _ => True) (va_A [] sz)) 0 0 (va_A [] sz) := by
  refine Met.ofW (cc := cX11_lettersOf) (maxL := 3) (ret := (some .int)) (by decide) rfl ?_
  intro p e s m args below meth c s₁ B hml hv
  obtain ⟨rfl, hsz, hP, hK, hD0⟩ := hv
  have hx := B.exec
  have hb := B.bytes
  have hr := B.returns
  have hts := atoms_spec (ws := wsX11_lettersOf) B.pre
  have hown : s.vm.findClass RX11 = some m.cls := findClass_of_methodNamed B.named
  have hlocks := B.notSynchronized
  subst hsz
  have hD := hD0
  have hA : ∀ q : Nat, s.heap.size ≤ q → va_A [] s.heap.size q := fun q h => Or.inr h
  have hS : va_S (va_A [] s.heap.size) s.heap s.heap [] := va_S.rf
  have hP : va_P G vwCl [] s.heap := hP
  have hl := lv_entry ([.int 0]) (n := 3) (Nat.le_of_ble_eq_true rfl)
  rw [lg_entry_eq]
  generalize (lg_sl ([.int 0]) ++ List.replicate (3 - (lg_sl ([.int 0])).length) Slot.unset).toArray = ls at hl ⊢
  have hl : lv_has ls 3 [(0, .int 0)] := hl
  refine lv_iconst (v := 0) hx hb dX11_lettersOf_0 (by decide) ?_
  refine lv_istore_n (lv' := [(1, .int 0), (0, .int 0)]) hx hb dX11_lettersOf_1 rfl hl (by decide) rfl (fun ls hl => ?_)
  refine lv_iload_n hx hb dX11_lettersOf_2 rfl (lv_at hl 1 rfl) ?_
  refine lv_istore_n (lv' := [(2, .int 0), (1, .int 0), (0, .int 0)]) hx hb dX11_lettersOf_3 rfl hl (by decide) rfl (fun ls hl => ?_)
  refine lv_iload_n hx hb dX11_lettersOf_4 rfl (lv_at hl 0 rfl) ?_
  refine lv_if_le (tgt := 19) hx hb dX11_lettersOf_5 (by decide) (fun _ => ?_) (fun c_1 => absurd c_1 (by decide))
  refine lv_iload_n hx hb dX11_lettersOf_19 rfl (lv_at hl 1 rfl) ?_
  refine W.widen (k := 0) (n := 0) (Nat.le_of_ble_eq_true rfl) (Nat.le_of_ble_eq_true rfl) ?_
  exact W.iret (v := 0) hx hb hr (fun t ht hW => ⟨⟨0, (), rfl, rfl, trivial⟩, hS.F ht⟩) hS.2.2 dX11_lettersOf_20

set_option maxHeartbeats 4000000 in
set_option maxRecDepth 100000 in
theorem c_m_things (l : Launch) (G : va_G) (y : Nat → ClassId) (sz : Nat) (h0 : Nat) (m_tree : Nat) (m_data : Nat) (m_made : Nat) (m_status : Nat) (m_tape : Nat) (m_paths : Nat) (m_pathSize : Nat) (m_set : Nat) (m_to : Nat) (m_lifted : Nat) (m_order : Nat) (m_past : Nat) (m_rowKind : Nat) (m_rowSteps : Nat) (m_rowPath : Nat) (m_rowWas : Nat) (m_rowIs : Nat) (m_pool : Nat) (m_rowsMany : Nat) (m_poolMany : Nat) (m_way : Nat) (m_out : Nat) (m_notedThing : Nat) (m_notedIs : Nat) (m_votes : Nat) (m_treeThen : Nat) (m_imageTree : Nat) (m_pastThen : Nat) (m_notedThingThen : Nat) (m_notedIsThen : Nat) (m_statusThen : Nat)  : Met l yX11_things wsX11_things ({ frames := 0, cells := 0, slots := 0, locals := 0 }) (nq_P G y sz [.ref h0] [(h0, .inr (11, [.int 0, .ref m_tree, .ref m_data, .ref m_made, .ref m_status, .int 0, .ref m_tape, .ref m_paths, .ref m_pathSize, .null, .int 0, .int 0, .int 0, .int 0, .int 0, .int 0, .int 0, .int 0, .int 0, .int 0, .int 0, .int (-1), .int 0, .ref m_set, .ref m_to, .int 0, .int 0, .int 0, .int 0, .int 0, .int 0, .ref m_lifted, .int 0, .int 0, .int 0, .ref m_order, .int 0, .ref m_past, .int 0, .ref m_rowKind, .ref m_rowSteps, .ref m_rowPath, .ref m_rowWas, .ref m_rowIs, .ref m_pool, .ref m_rowsMany, .ref m_poolMany, .ref m_way, .int 0, .ref m_out, .int 0, .int 0, .ref m_notedThing, .ref m_notedIs, .ref m_votes, .int 0, .int 0, .ref m_treeThen, .int 0, .int 0, .int 0, .ref m_imageTree, .ref m_pastThen, .ref m_notedThingThen, .ref m_notedIsThen, .ref m_statusThen])), (m_tree, .inl (y 0, 240, .inl (upd (upd (fun _ => 0) 0 3) 3 1)))]) (va_Qi (fun (r : Int32) (_ : Unit) => r = 1) (fun _ _ => True) (va_A [] sz)) 0 0 (va_A [] sz) := by
  refine Met.ofW (cc := cX11_things) (maxL := 1) (ret := (some .int)) (by decide) rfl ?_
  intro p e s m args below meth c s₁ B hml hv
  obtain ⟨rfl, hsz, hP, hK, hD0⟩ := hv
  have hx := B.exec
  have hb := B.bytes
  have hr := B.returns
  have hts := atoms_spec (ws := wsX11_things) B.pre
  have hown : s.vm.findClass RX11 = some m.cls := findClass_of_methodNamed B.named
  have hlocks := B.notSynchronized
  subst hsz
  have hD := hD0
  have hA : ∀ q : Nat, s.heap.size ≤ q → va_A [] s.heap.size q := fun q h => Or.inr h
  have hS : va_S (va_A [] s.heap.size) s.heap s.heap [] := va_S.rf
  have hP : va_P G vwCl [(h0, .inr (11, [.int 0, .ref m_tree, .ref m_data, .ref m_made, .ref m_status, .int 0, .ref m_tape, .ref m_paths, .ref m_pathSize, .null, .int 0, .int 0, .int 0, .int 0, .int 0, .int 0, .int 0, .int 0, .int 0, .int 0, .int 0, .int (-1), .int 0, .ref m_set, .ref m_to, .int 0, .int 0, .int 0, .int 0, .int 0, .int 0, .ref m_lifted, .int 0, .int 0, .int 0, .ref m_order, .int 0, .ref m_past, .int 0, .ref m_rowKind, .ref m_rowSteps, .ref m_rowPath, .ref m_rowWas, .ref m_rowIs, .ref m_pool, .ref m_rowsMany, .ref m_poolMany, .ref m_way, .int 0, .ref m_out, .int 0, .int 0, .ref m_notedThing, .ref m_notedIs, .ref m_votes, .int 0, .int 0, .ref m_treeThen, .int 0, .int 0, .int 0, .ref m_imageTree, .ref m_pastThen, .ref m_notedThingThen, .ref m_notedIsThen, .ref m_statusThen])), (m_tree, .inl (y 0, 240, .inl (upd (upd (fun _ => 0) 0 3) 3 1)))] s.heap := hP
  have inX11 : ∀ w ∈ wsX110, w ∈ wsX11_things := by decide +kernel
  have hl := lv_entry ([.ref h0]) (n := 1) (Nat.le_of_ble_eq_true rfl)
  rw [lg_entry_eq]
  generalize (lg_sl ([.ref h0]) ++ List.replicate (1 - (lg_sl ([.ref h0])).length) Slot.unset).toArray = ls at hl ⊢
  have hl : lv_has ls 1 [(0, .ref h0)] := hl
  refine lv_aload_n hx hb dX11_things_0 rfl (lv_at hl 0 rfl) ?_
  refine va_get (D := G) (ci := 11) (v := .ref m_tree) (C := RX11) (T := TX11) (N := 66) hx hb hts inX11 hown hK.1 hP 0 rfl rfl 1 (by decide) (hts (.fieldLink RX11 9 "NestQueryModel" "tree" "[I") (by decide +kernel)) (fun _ h9 => h9) rfl dX11_things_1 ?_
  refine lv_iconst (v := 3) hx hb dX11_things_4 (by decide) ?_
  refine va_iald hx hb hK.1 hP 1 0 rfl rfl (i := 3) (nq_in (by decide)) dX11_things_5 ?_
  refine nq_top (z := 1) (pk_us) ?_
  refine W.widen (k := 0) (n := 0) (Nat.le_of_ble_eq_true rfl) (Nat.le_of_ble_eq_true rfl) ?_
  exact W.iret (v := 1) hx hb hr (fun t ht hW => ⟨⟨1, (), rfl, rfl, trivial⟩, hS.F ht⟩) hS.2.2 dX11_things_6

set_option maxHeartbeats 4000000 in
set_option maxRecDepth 100000 in
theorem c_m_isThing (l : Launch) (G : va_G) (y : Nat → ClassId) (sz : Nat) (h0 : Nat) (m_tree : Nat) (m_data : Nat) (m_made : Nat) (m_status : Nat) (m_tape : Nat) (m_paths : Nat) (m_pathSize : Nat) (m_set : Nat) (m_to : Nat) (m_lifted : Nat) (m_order : Nat) (m_past : Nat) (m_rowKind : Nat) (m_rowSteps : Nat) (m_rowPath : Nat) (m_rowWas : Nat) (m_rowIs : Nat) (m_pool : Nat) (m_rowsMany : Nat) (m_poolMany : Nat) (m_way : Nat) (m_out : Nat) (m_notedThing : Nat) (m_notedIs : Nat) (m_votes : Nat) (m_treeThen : Nat) (m_imageTree : Nat) (m_pastThen : Nat) (m_notedThingThen : Nat) (m_notedIsThen : Nat) (m_statusThen : Nat) (i : Int32)  : Met l yX11_isThing wsX11_isThing ({ frames := 1, cells := 0, slots := 0, locals := 22 }) (nq_P G y sz [.ref h0, .int i] [(h0, .inr (11, [.int 0, .ref m_tree, .ref m_data, .ref m_made, .ref m_status, .int 0, .ref m_tape, .ref m_paths, .ref m_pathSize, .null, .int 0, .int 0, .int 0, .int 0, .int 0, .int 0, .int 0, .int 0, .int 0, .int 0, .int 0, .int (-1), .int 0, .ref m_set, .ref m_to, .int 0, .int 0, .int 0, .int 0, .int 0, .int 0, .ref m_lifted, .int 0, .int 0, .int 0, .ref m_order, .int 0, .ref m_past, .int 0, .ref m_rowKind, .ref m_rowSteps, .ref m_rowPath, .ref m_rowWas, .ref m_rowIs, .ref m_pool, .ref m_rowsMany, .ref m_poolMany, .ref m_way, .int 0, .ref m_out, .int 0, .int 0, .ref m_notedThing, .ref m_notedIs, .ref m_votes, .int 0, .int 0, .ref m_treeThen, .int 0, .int 0, .int 0, .ref m_imageTree, .ref m_pastThen, .ref m_notedThingThen, .ref m_notedIsThen, .ref m_statusThen])), (m_tree, .inl (y 0, 240, .inl (upd (upd (fun _ => 0) 0 3) 3 1)))]) (va_Qi (fun (r : Int32) (_ : Unit) => (i = 0 ∧ r = 1) ∨ (¬ i = 0 ∧ r = 0)) (fun _ _ => True) (va_A [] sz)) 0 0 (va_A [] sz) := by
  refine Met.ofW (cc := cX11_isThing) (maxL := 2) (ret := (some .boolean)) (by decide) rfl ?_
  intro p e s m args below meth c s₁ B hml hv
  obtain ⟨rfl, hsz, hP, hK, hD0⟩ := hv
  have hx := B.exec
  have hb := B.bytes
  have hr := B.returns
  have hts := atoms_spec (ws := wsX11_isThing) B.pre
  have hown : s.vm.findClass RX11 = some m.cls := findClass_of_methodNamed B.named
  have hlocks := B.notSynchronized
  subst hsz
  have hD := hD0
  have hA : ∀ q : Nat, s.heap.size ≤ q → va_A [] s.heap.size q := fun q h => Or.inr h
  have hS : va_S (va_A [] s.heap.size) s.heap s.heap [] := va_S.rf
  have hP : va_P G vwCl [(h0, .inr (11, [.int 0, .ref m_tree, .ref m_data, .ref m_made, .ref m_status, .int 0, .ref m_tape, .ref m_paths, .ref m_pathSize, .null, .int 0, .int 0, .int 0, .int 0, .int 0, .int 0, .int 0, .int 0, .int 0, .int 0, .int 0, .int (-1), .int 0, .ref m_set, .ref m_to, .int 0, .int 0, .int 0, .int 0, .int 0, .int 0, .ref m_lifted, .int 0, .int 0, .int 0, .ref m_order, .int 0, .ref m_past, .int 0, .ref m_rowKind, .ref m_rowSteps, .ref m_rowPath, .ref m_rowWas, .ref m_rowIs, .ref m_pool, .ref m_rowsMany, .ref m_poolMany, .ref m_way, .int 0, .ref m_out, .int 0, .int 0, .ref m_notedThing, .ref m_notedIs, .ref m_votes, .int 0, .int 0, .ref m_treeThen, .int 0, .int 0, .int 0, .ref m_imageTree, .ref m_pastThen, .ref m_notedThingThen, .ref m_notedIsThen, .ref m_statusThen])), (m_tree, .inl (y 0, 240, .inl (upd (upd (fun _ => 0) 0 3) 3 1)))] s.heap := hP
  have hl := lv_entry ([.ref h0, .int i]) (n := 2) (Nat.le_of_ble_eq_true rfl)
  rw [lg_entry_eq]
  generalize (lg_sl ([.ref h0, .int i]) ++ List.replicate (2 - (lg_sl ([.ref h0, .int i])).length) Slot.unset).toArray = ls at hl ⊢
  have hl : lv_has ls 2 [(0, .ref h0), (1, .int i)] := hl
  refine lv_iload_n hx hb dX11_isThing_0 rfl (lv_at hl 1 rfl) ?_
  refine lv_iconst (v := 0) hx hb dX11_isThing_1 (by decide) ?_
  refine lv_aload_n hx hb dX11_isThing_2 rfl (lv_at hl 0 rfl) ?_
  refine nq_rdi (va_runV (As := []) (rest := [.int 0, .int i]) ⟨hx, hb, hml, hown, hts⟩ (c_m_things l G y s.heap.size h0 m_tree m_data m_made m_status m_tape m_paths m_pathSize m_set m_to m_lifted m_order m_past m_rowKind m_rowSteps m_rowPath m_rowWas m_rowIs m_pool m_rowsMany m_poolMany m_way m_out m_notedThing m_notedIs m_votes m_treeThen m_imageTree m_pastThen m_notedThingThen m_notedIsThen m_statusThen ) (cwV 0 hts gX11_isThing_X11_things rfl rfl rfl (by decide +kernel) ⟨Nat.le_of_ble_eq_true rfl, Nat.le_of_ble_eq_true rfl⟩) (nq_PV hK hP hD [0, 1] rfl rfl 0 rfl rfl) rfl rfl hl.1 rfl (lv_room (Nat.le_of_ble_eq_true rfl)) dX11_isThing_3 ⟨Nat.le_of_ble_eq_true rfl, Nat.le_of_ble_eq_true rfl⟩) hP hS hA (fun r_1 H locs hw_2 hP hS => ?_)
  subst hw_2
  refine lv_iconst (v := 1) hx hb dX11_isThing_6 (by decide) ?_
  refine lv_isub hx hb dX11_isThing_7 ?_
  refine nq_top (z := 0) (by decide) ?_
  refine nq_rdi (va_runS (As := [.int i, .int 0, .int 0]) (rest := []) ⟨hx, hb, hml, hown, hts⟩ (c_m_isIn0_0 l G y H.size i ) (va_cwS 3 hts gX11_isThing_X11_isIn rfl rfl rfl (by decide +kernel) ⟨Nat.le_of_ble_eq_true rfl, Nat.le_of_ble_eq_true rfl⟩) (nq_PS hK hP hD [] rfl rfl) rfl rfl hl.1 rfl (lv_room (Nat.le_of_ble_eq_true rfl)) dX11_isThing_8 ⟨Nat.le_of_ble_eq_true rfl, Nat.le_of_ble_eq_true rfl⟩) hP hS hA (fun r_3 H locs hw_4 hP hS => ?_)
  rcases hw_4 with ⟨c_5, hr_6⟩ | ⟨c_7, hr_8⟩
  · subst c_5
    subst hr_6
    refine W.widen (k := 0) (n := 0) (Nat.le_of_ble_eq_true rfl) (Nat.le_of_ble_eq_true rfl) ?_
    exact W.zret (v := 1) hx hb hr (by decide) (fun t ht hW => ⟨⟨1, (), rfl, Or.inl (⟨by decide, rfl⟩), trivial⟩, hS.F ht⟩) hS.2.2 dX11_isThing_11
  · subst hr_8
    refine W.widen (k := 0) (n := 0) (Nat.le_of_ble_eq_true rfl) (Nat.le_of_ble_eq_true rfl) ?_
    exact W.zret (v := 0) hx hb hr (by decide) (fun t ht hW => ⟨⟨0, (), rfl, Or.inr (⟨c_7, rfl⟩), trivial⟩, hS.F ht⟩) hS.2.2 dX11_isThing_11

set_option maxHeartbeats 4000000 in
set_option maxRecDepth 100000 in
theorem c_m_isTape (l : Launch) (G : va_G) (y : Nat → ClassId) (sz : Nat) (h0 : Nat) (m_tree : Nat) (m_data : Nat) (m_made : Nat) (m_status : Nat) (m_tape : Nat) (m_paths : Nat) (m_pathSize : Nat) (m_set : Nat) (m_to : Nat) (m_lifted : Nat) (m_order : Nat) (m_past : Nat) (m_rowKind : Nat) (m_rowSteps : Nat) (m_rowPath : Nat) (m_rowWas : Nat) (m_rowIs : Nat) (m_pool : Nat) (m_rowsMany : Nat) (m_poolMany : Nat) (m_way : Nat) (m_out : Nat) (m_notedThing : Nat) (m_notedIs : Nat) (m_votes : Nat) (m_treeThen : Nat) (m_imageTree : Nat) (m_pastThen : Nat) (m_notedThingThen : Nat) (m_notedIsThen : Nat) (m_statusThen : Nat) (n : Int32)  : Met l yX11_isTape wsX11_isTape ({ frames := 1, cells := 0, slots := 0, locals := 22 }) (nq_P G y sz [.ref h0, .int n] [(h0, .inr (11, [.int 0, .ref m_tree, .ref m_data, .ref m_made, .ref m_status, .int 0, .ref m_tape, .ref m_paths, .ref m_pathSize, .null, .int 0, .int 0, .int 0, .int 0, .int 0, .int 0, .int 0, .int 0, .int 0, .int 0, .int 0, .int (-1), .int 0, .ref m_set, .ref m_to, .int 0, .int 0, .int 0, .int 0, .int 0, .int 0, .ref m_lifted, .int 0, .int 0, .int 0, .ref m_order, .int 0, .ref m_past, .int 0, .ref m_rowKind, .ref m_rowSteps, .ref m_rowPath, .ref m_rowWas, .ref m_rowIs, .ref m_pool, .ref m_rowsMany, .ref m_poolMany, .ref m_way, .int 0, .ref m_out, .int 0, .int 0, .ref m_notedThing, .ref m_notedIs, .ref m_votes, .int 0, .int 0, .ref m_treeThen, .int 0, .int 0, .int 0, .ref m_imageTree, .ref m_pastThen, .ref m_notedThingThen, .ref m_notedIsThen, .ref m_statusThen]))]) (va_Qi (fun (r : Int32) (_ : Unit) => (n = 0 ∧ r = 1) ∨ (¬ n = 0 ∧ r = 0)) (fun _ _ => True) (va_A [] sz)) 0 0 (va_A [] sz) := by
  refine Met.ofW (cc := cX11_isTape) (maxL := 2) (ret := (some .boolean)) (by decide) rfl ?_
  intro p e s m args below meth c s₁ B hml hv
  obtain ⟨rfl, hsz, hP, hK, hD0⟩ := hv
  have hx := B.exec
  have hb := B.bytes
  have hr := B.returns
  have hts := atoms_spec (ws := wsX11_isTape) B.pre
  have hown : s.vm.findClass RX11 = some m.cls := findClass_of_methodNamed B.named
  have hlocks := B.notSynchronized
  subst hsz
  have hD := hD0
  have hA : ∀ q : Nat, s.heap.size ≤ q → va_A [] s.heap.size q := fun q h => Or.inr h
  have hS : va_S (va_A [] s.heap.size) s.heap s.heap [] := va_S.rf
  have hP : va_P G vwCl [(h0, .inr (11, [.int 0, .ref m_tree, .ref m_data, .ref m_made, .ref m_status, .int 0, .ref m_tape, .ref m_paths, .ref m_pathSize, .null, .int 0, .int 0, .int 0, .int 0, .int 0, .int 0, .int 0, .int 0, .int 0, .int 0, .int 0, .int (-1), .int 0, .ref m_set, .ref m_to, .int 0, .int 0, .int 0, .int 0, .int 0, .int 0, .ref m_lifted, .int 0, .int 0, .int 0, .ref m_order, .int 0, .ref m_past, .int 0, .ref m_rowKind, .ref m_rowSteps, .ref m_rowPath, .ref m_rowWas, .ref m_rowIs, .ref m_pool, .ref m_rowsMany, .ref m_poolMany, .ref m_way, .int 0, .ref m_out, .int 0, .int 0, .ref m_notedThing, .ref m_notedIs, .ref m_votes, .int 0, .int 0, .ref m_treeThen, .int 0, .int 0, .int 0, .ref m_imageTree, .ref m_pastThen, .ref m_notedThingThen, .ref m_notedIsThen, .ref m_statusThen]))] s.heap := hP
  have inX11 : ∀ w ∈ wsX110, w ∈ wsX11_isTape := by decide +kernel
  have hl := lv_entry ([.ref h0, .int n]) (n := 2) (Nat.le_of_ble_eq_true rfl)
  rw [lg_entry_eq]
  generalize (lg_sl ([.ref h0, .int n]) ++ List.replicate (2 - (lg_sl ([.ref h0, .int n])).length) Slot.unset).toArray = ls at hl ⊢
  have hl : lv_has ls 2 [(0, .ref h0), (1, .int n)] := hl
  refine lv_iload_n hx hb dX11_isTape_0 rfl (lv_at hl 1 rfl) ?_
  refine lv_iconst (v := 0) hx hb dX11_isTape_1 (by decide) ?_
  refine lv_aload_n hx hb dX11_isTape_2 rfl (lv_at hl 0 rfl) ?_
  refine va_get (D := G) (ci := 11) (v := .int 0) (C := RX11) (T := TX11) (N := 66) hx hb hts inX11 hown hK.1 hP 0 rfl rfl 12 (by decide) (hts (.fieldLink RX11 114 "NestQueryModel" "taped" "I") (by decide +kernel)) (fun _ h9 => h9) rfl dX11_isTape_3 ?_
  refine nq_rdi (va_runS (As := [.int n, .int 0, .int 0]) (rest := []) ⟨hx, hb, hml, hown, hts⟩ (c_m_isIn0_0 l G y s.heap.size n ) (va_cwS 3 hts gX11_isTape_X11_isIn rfl rfl rfl (by decide +kernel) ⟨Nat.le_of_ble_eq_true rfl, Nat.le_of_ble_eq_true rfl⟩) (nq_PS hK hP hD [] rfl rfl) rfl rfl hl.1 rfl (lv_room (Nat.le_of_ble_eq_true rfl)) dX11_isTape_6 ⟨Nat.le_of_ble_eq_true rfl, Nat.le_of_ble_eq_true rfl⟩) hP hS hA (fun r_1 H locs hw_2 hP hS => ?_)
  rcases hw_2 with ⟨c_3, hr_4⟩ | ⟨c_5, hr_6⟩
  · subst c_3
    subst hr_4
    refine W.widen (k := 0) (n := 0) (Nat.le_of_ble_eq_true rfl) (Nat.le_of_ble_eq_true rfl) ?_
    exact W.zret (v := 1) hx hb hr (by decide) (fun t ht hW => ⟨⟨1, (), rfl, Or.inl (⟨by decide, rfl⟩), trivial⟩, hS.F ht⟩) hS.2.2 dX11_isTape_9
  · subst hr_6
    refine W.widen (k := 0) (n := 0) (Nat.le_of_ble_eq_true rfl) (Nat.le_of_ble_eq_true rfl) ?_
    exact W.zret (v := 0) hx hb hr (by decide) (fun t ht hW => ⟨⟨0, (), rfl, Or.inr (⟨c_5, rfl⟩), trivial⟩, hS.F ht⟩) hS.2.2 dX11_isTape_9

set_option maxHeartbeats 4000000 in
set_option maxRecDepth 100000 in
theorem c_m_isPath (l : Launch) (G : va_G) (y : Nat → ClassId) (sz : Nat) (h0 : Nat) (m_tree : Nat) (m_data : Nat) (m_made : Nat) (m_status : Nat) (m_tape : Nat) (m_paths : Nat) (m_pathSize : Nat) (m_set : Nat) (m_to : Nat) (m_lifted : Nat) (m_order : Nat) (m_past : Nat) (m_rowKind : Nat) (m_rowSteps : Nat) (m_rowPath : Nat) (m_rowWas : Nat) (m_rowIs : Nat) (m_pool : Nat) (m_rowsMany : Nat) (m_poolMany : Nat) (m_way : Nat) (m_out : Nat) (m_notedThing : Nat) (m_notedIs : Nat) (m_votes : Nat) (m_treeThen : Nat) (m_imageTree : Nat) (m_pastThen : Nat) (m_notedThingThen : Nat) (m_notedIsThen : Nat) (m_statusThen : Nat) (i : Int32)  : Met l yX11_isPath wsX11_isPath ({ frames := 1, cells := 0, slots := 0, locals := 22 }) (nq_P G y sz [.ref h0, .int i] [(h0, .inr (11, [.int 0, .ref m_tree, .ref m_data, .ref m_made, .ref m_status, .int 0, .ref m_tape, .ref m_paths, .ref m_pathSize, .null, .int 0, .int 0, .int 0, .int 0, .int 0, .int 0, .int 0, .int 0, .int 0, .int 0, .int 0, .int (-1), .int 0, .ref m_set, .ref m_to, .int 0, .int 0, .int 0, .int 0, .int 0, .int 0, .ref m_lifted, .int 0, .int 0, .int 0, .ref m_order, .int 0, .ref m_past, .int 0, .ref m_rowKind, .ref m_rowSteps, .ref m_rowPath, .ref m_rowWas, .ref m_rowIs, .ref m_pool, .ref m_rowsMany, .ref m_poolMany, .ref m_way, .int 0, .ref m_out, .int 0, .int 0, .ref m_notedThing, .ref m_notedIs, .ref m_votes, .int 0, .int 0, .ref m_treeThen, .int 0, .int 0, .int 0, .ref m_imageTree, .ref m_pastThen, .ref m_notedThingThen, .ref m_notedIsThen, .ref m_statusThen])), (m_pathSize, .inl (y 0, 4, .inl (fun _ => 0)))]) (va_Qi (fun (r : Int32) (_ : Unit) => r = 0) (fun _ _ => True) (va_A [] sz)) 0 0 (va_A [] sz) := by
  refine Met.ofW (cc := cX11_isPath) (maxL := 2) (ret := (some .boolean)) (by decide) rfl ?_
  intro p e s m args below meth c s₁ B hml hv
  obtain ⟨rfl, hsz, hP, hK, hD0⟩ := hv
  have hx := B.exec
  have hb := B.bytes
  have hr := B.returns
  have hts := atoms_spec (ws := wsX11_isPath) B.pre
  have hown : s.vm.findClass RX11 = some m.cls := findClass_of_methodNamed B.named
  have hlocks := B.notSynchronized
  subst hsz
  have hD := hD0
  have hA : ∀ q : Nat, s.heap.size ≤ q → va_A [] s.heap.size q := fun q h => Or.inr h
  have hS : va_S (va_A [] s.heap.size) s.heap s.heap [] := va_S.rf
  have hP : va_P G vwCl [(h0, .inr (11, [.int 0, .ref m_tree, .ref m_data, .ref m_made, .ref m_status, .int 0, .ref m_tape, .ref m_paths, .ref m_pathSize, .null, .int 0, .int 0, .int 0, .int 0, .int 0, .int 0, .int 0, .int 0, .int 0, .int 0, .int 0, .int (-1), .int 0, .ref m_set, .ref m_to, .int 0, .int 0, .int 0, .int 0, .int 0, .int 0, .ref m_lifted, .int 0, .int 0, .int 0, .ref m_order, .int 0, .ref m_past, .int 0, .ref m_rowKind, .ref m_rowSteps, .ref m_rowPath, .ref m_rowWas, .ref m_rowIs, .ref m_pool, .ref m_rowsMany, .ref m_poolMany, .ref m_way, .int 0, .ref m_out, .int 0, .int 0, .ref m_notedThing, .ref m_notedIs, .ref m_votes, .int 0, .int 0, .ref m_treeThen, .int 0, .int 0, .int 0, .ref m_imageTree, .ref m_pastThen, .ref m_notedThingThen, .ref m_notedIsThen, .ref m_statusThen])), (m_pathSize, .inl (y 0, 4, .inl (fun _ => 0)))] s.heap := hP
  have inX11 : ∀ w ∈ wsX110, w ∈ wsX11_isPath := by decide +kernel
  have hl := lv_entry ([.ref h0, .int i]) (n := 2) (Nat.le_of_ble_eq_true rfl)
  rw [lg_entry_eq]
  generalize (lg_sl ([.ref h0, .int i]) ++ List.replicate (2 - (lg_sl ([.ref h0, .int i])).length) Slot.unset).toArray = ls at hl ⊢
  have hl : lv_has ls 2 [(0, .ref h0), (1, .int i)] := hl
  refine lv_iload_n hx hb dX11_isPath_0 rfl (lv_at hl 1 rfl) ?_
  refine lv_iconst (v := 0) hx hb dX11_isPath_1 (by decide) ?_
  refine lv_iconst (v := 3) hx hb dX11_isPath_2 (by decide) ?_
  refine nq_rdi (va_runS (As := [.int i, .int 0, .int 3]) (rest := []) ⟨hx, hb, hml, hown, hts⟩ (c_m_isIn0_3 l G y s.heap.size i ) (va_cwS 3 hts gX11_isPath_X11_isIn rfl rfl rfl (by decide +kernel) ⟨Nat.le_of_ble_eq_true rfl, Nat.le_of_ble_eq_true rfl⟩) (nq_PS hK hP hD [] rfl rfl) rfl rfl hl.1 rfl (lv_room (Nat.le_of_ble_eq_true rfl)) dX11_isPath_3 ⟨Nat.le_of_ble_eq_true rfl, Nat.le_of_ble_eq_true rfl⟩) hP hS hA (fun r_1 H locs hw_2 hP hS => ?_)
  rcases hw_2 with ⟨c_3, c_4, hr_5⟩ | ⟨c_6, hr_7⟩ | ⟨c_8, hr_9⟩
  · subst hr_5
    refine lv_if_eq (tgt := 22) hx hb dX11_isPath_6 (by decide) (fun c_10 => absurd c_10 (by decide)) (fun _ => ?_)
    refine lv_aload_n hx hb dX11_isPath_9 rfl (lv_at hl 0 rfl) ?_
    refine va_get (D := G) (ci := 11) (v := .ref m_pathSize) (C := RX11) (T := TX11) (N := 66) hx hb hts inX11 hown hK.1 hP 0 rfl rfl 8 (by decide) (hts (.fieldLink RX11 28 "NestQueryModel" "pathSize" "[I") (by decide +kernel)) (fun _ h9 => h9) rfl dX11_isPath_10 ?_
    refine lv_iload_n hx hb dX11_isPath_13 rfl (lv_at hl 1 rfl) ?_
    refine va_iald hx hb hK.1 hP 1 0 rfl rfl (i := i) (nq_inb c_3 c_4 (by decide) (by decide)) dX11_isPath_14 ?_
    refine nq_top (z := 0) (rfl) ?_
    refine lv_if_le (tgt := 22) hx hb dX11_isPath_15 (by decide) (fun _ => ?_) (fun c_11 => absurd c_11 (by decide))
    refine lv_iconst (v := 0) hx hb dX11_isPath_22 (by decide) ?_
    refine W.widen (k := 0) (n := 0) (Nat.le_of_ble_eq_true rfl) (Nat.le_of_ble_eq_true rfl) ?_
    exact W.zret (v := 0) hx hb hr (by decide) (fun t ht hW => ⟨⟨0, (), rfl, rfl, trivial⟩, hS.F ht⟩) hS.2.2 dX11_isPath_23
  · subst hr_7
    refine lv_if_eq (tgt := 22) hx hb dX11_isPath_6 (by decide) (fun _ => ?_) (fun c_12 => absurd c_12 (by decide))
    refine lv_iconst (v := 0) hx hb dX11_isPath_22 (by decide) ?_
    refine W.widen (k := 0) (n := 0) (Nat.le_of_ble_eq_true rfl) (Nat.le_of_ble_eq_true rfl) ?_
    exact W.zret (v := 0) hx hb hr (by decide) (fun t ht hW => ⟨⟨0, (), rfl, rfl, trivial⟩, hS.F ht⟩) hS.2.2 dX11_isPath_23
  · subst hr_9
    refine lv_if_eq (tgt := 22) hx hb dX11_isPath_6 (by decide) (fun _ => ?_) (fun c_13 => absurd c_13 (by decide))
    refine lv_iconst (v := 0) hx hb dX11_isPath_22 (by decide) ?_
    refine W.widen (k := 0) (n := 0) (Nat.le_of_ble_eq_true rfl) (Nat.le_of_ble_eq_true rfl) ?_
    exact W.zret (v := 0) hx hb hr (by decide) (fun t ht hW => ⟨⟨0, (), rfl, rfl, trivial⟩, hS.F ht⟩) hS.2.2 dX11_isPath_23

set_option maxHeartbeats 4000000 in
set_option maxRecDepth 100000 in
theorem c_m_isRow (l : Launch) (G : va_G) (y : Nat → ClassId) (sz : Nat) (h0 : Nat) (m_tree : Nat) (m_data : Nat) (m_made : Nat) (m_status : Nat) (m_tape : Nat) (m_paths : Nat) (m_pathSize : Nat) (m_set : Nat) (m_to : Nat) (m_lifted : Nat) (m_order : Nat) (m_past : Nat) (m_rowKind : Nat) (m_rowSteps : Nat) (m_rowPath : Nat) (m_rowWas : Nat) (m_rowIs : Nat) (m_pool : Nat) (m_rowsMany : Nat) (m_poolMany : Nat) (m_way : Nat) (m_out : Nat) (m_notedThing : Nat) (m_notedIs : Nat) (m_votes : Nat) (m_treeThen : Nat) (m_imageTree : Nat) (m_pastThen : Nat) (m_notedThingThen : Nat) (m_notedIsThen : Nat) (m_statusThen : Nat) (i : Int32)  : Met l yX11_isRow wsX11_isRow ({ frames := 1, cells := 0, slots := 0, locals := 22 }) (nq_P G y sz [.ref h0, .int i] [(h0, .inr (11, [.int 0, .ref m_tree, .ref m_data, .ref m_made, .ref m_status, .int 0, .ref m_tape, .ref m_paths, .ref m_pathSize, .null, .int 0, .int 0, .int 0, .int 0, .int 0, .int 0, .int 0, .int 0, .int 0, .int 0, .int 0, .int (-1), .int 0, .ref m_set, .ref m_to, .int 0, .int 0, .int 0, .int 0, .int 0, .int 0, .ref m_lifted, .int 0, .int 0, .int 0, .ref m_order, .int 0, .ref m_past, .int 0, .ref m_rowKind, .ref m_rowSteps, .ref m_rowPath, .ref m_rowWas, .ref m_rowIs, .ref m_pool, .ref m_rowsMany, .ref m_poolMany, .ref m_way, .int 0, .ref m_out, .int 0, .int 0, .ref m_notedThing, .ref m_notedIs, .ref m_votes, .int 0, .int 0, .ref m_treeThen, .int 0, .int 0, .int 0, .ref m_imageTree, .ref m_pastThen, .ref m_notedThingThen, .ref m_notedIsThen, .ref m_statusThen])), (m_rowsMany, .inl (y 0, 2, .inl (fun _ => 0)))]) (va_Qi (fun (r : Int32) (_ : Unit) => r = 0) (fun _ _ => True) (va_A [] sz)) 0 0 (va_A [] sz) := by
  refine Met.ofW (cc := cX11_isRow) (maxL := 2) (ret := (some .boolean)) (by decide) rfl ?_
  intro p e s m args below meth c s₁ B hml hv
  obtain ⟨rfl, hsz, hP, hK, hD0⟩ := hv
  have hx := B.exec
  have hb := B.bytes
  have hr := B.returns
  have hts := atoms_spec (ws := wsX11_isRow) B.pre
  have hown : s.vm.findClass RX11 = some m.cls := findClass_of_methodNamed B.named
  have hlocks := B.notSynchronized
  subst hsz
  have hD := hD0
  have hA : ∀ q : Nat, s.heap.size ≤ q → va_A [] s.heap.size q := fun q h => Or.inr h
  have hS : va_S (va_A [] s.heap.size) s.heap s.heap [] := va_S.rf
  have hP : va_P G vwCl [(h0, .inr (11, [.int 0, .ref m_tree, .ref m_data, .ref m_made, .ref m_status, .int 0, .ref m_tape, .ref m_paths, .ref m_pathSize, .null, .int 0, .int 0, .int 0, .int 0, .int 0, .int 0, .int 0, .int 0, .int 0, .int 0, .int 0, .int (-1), .int 0, .ref m_set, .ref m_to, .int 0, .int 0, .int 0, .int 0, .int 0, .int 0, .ref m_lifted, .int 0, .int 0, .int 0, .ref m_order, .int 0, .ref m_past, .int 0, .ref m_rowKind, .ref m_rowSteps, .ref m_rowPath, .ref m_rowWas, .ref m_rowIs, .ref m_pool, .ref m_rowsMany, .ref m_poolMany, .ref m_way, .int 0, .ref m_out, .int 0, .int 0, .ref m_notedThing, .ref m_notedIs, .ref m_votes, .int 0, .int 0, .ref m_treeThen, .int 0, .int 0, .int 0, .ref m_imageTree, .ref m_pastThen, .ref m_notedThingThen, .ref m_notedIsThen, .ref m_statusThen])), (m_rowsMany, .inl (y 0, 2, .inl (fun _ => 0)))] s.heap := hP
  have inX11 : ∀ w ∈ wsX110, w ∈ wsX11_isRow := by decide +kernel
  have hl := lv_entry ([.ref h0, .int i]) (n := 2) (Nat.le_of_ble_eq_true rfl)
  rw [lg_entry_eq]
  generalize (lg_sl ([.ref h0, .int i]) ++ List.replicate (2 - (lg_sl ([.ref h0, .int i])).length) Slot.unset).toArray = ls at hl ⊢
  have hl : lv_has ls 2 [(0, .ref h0), (1, .int i)] := hl
  refine lv_iload_n hx hb dX11_isRow_0 rfl (lv_at hl 1 rfl) ?_
  refine lv_iconst (v := 0) hx hb dX11_isRow_1 (by decide) ?_
  refine lv_aload_n hx hb dX11_isRow_2 rfl (lv_at hl 0 rfl) ?_
  refine va_get (D := G) (ci := 11) (v := .ref m_rowsMany) (C := RX11) (T := TX11) (N := 66) hx hb hts inX11 hown hK.1 hP 0 rfl rfl 45 (by decide) (hts (.fieldLink RX11 69 "NestQueryModel" "rowsMany" "[I") (by decide +kernel)) (fun _ h9 => h9) rfl dX11_isRow_3 ?_
  refine lv_iconst (v := 1) hx hb dX11_isRow_6 (by decide) ?_
  refine va_iald hx hb hK.1 hP 1 0 rfl rfl (i := 1) (nq_in (by decide)) dX11_isRow_7 ?_
  refine nq_top (z := 0) (rfl) ?_
  refine lv_iconst (v := 1) hx hb dX11_isRow_8 (by decide) ?_
  refine lv_isub hx hb dX11_isRow_9 ?_
  refine nq_top (z := (-1)) (by decide) ?_
  refine nq_rdi (va_runS (As := [.int i, .int 0, .int (-1)]) (rest := []) ⟨hx, hb, hml, hown, hts⟩ (c_m_isIn0_m1 l G y s.heap.size i ) (va_cwS 3 hts gX11_isRow_X11_isIn rfl rfl rfl (by decide +kernel) ⟨Nat.le_of_ble_eq_true rfl, Nat.le_of_ble_eq_true rfl⟩) (nq_PS hK hP hD [] rfl rfl) rfl rfl hl.1 rfl (lv_room (Nat.le_of_ble_eq_true rfl)) dX11_isRow_10 ⟨Nat.le_of_ble_eq_true rfl, Nat.le_of_ble_eq_true rfl⟩) hP hS hA (fun r_1 H locs hw_2 hP hS => ?_)
  subst hw_2
  refine W.widen (k := 0) (n := 0) (Nat.le_of_ble_eq_true rfl) (Nat.le_of_ble_eq_true rfl) ?_
  exact W.zret (v := 0) hx hb hr (by decide) (fun t ht hW => ⟨⟨0, (), rfl, rfl, trivial⟩, hS.F ht⟩) hS.2.2 dX11_isRow_13

set_option maxHeartbeats 4000000 in
set_option maxRecDepth 100000 in
theorem c_m_ofKind0 (l : Launch) (G : va_G) (y : Nat → ClassId) (sz : Nat) (h0 : Nat) (m_tree : Nat) (m_data : Nat) (m_made : Nat) (m_status : Nat) (m_tape : Nat) (m_paths : Nat) (m_pathSize : Nat) (m_set : Nat) (m_to : Nat) (m_lifted : Nat) (m_order : Nat) (m_past : Nat) (m_rowKind : Nat) (m_rowSteps : Nat) (m_rowPath : Nat) (m_rowWas : Nat) (m_rowIs : Nat) (m_pool : Nat) (m_rowsMany : Nat) (m_poolMany : Nat) (m_way : Nat) (m_out : Nat) (m_notedThing : Nat) (m_notedIs : Nat) (m_votes : Nat) (m_treeThen : Nat) (m_imageTree : Nat) (m_pastThen : Nat) (m_notedThingThen : Nat) (m_notedIsThen : Nat) (m_statusThen : Nat)  : Met l yX11_ofKind wsX11_ofKind ({ frames := 1, cells := 0, slots := 0, locals := 21 }) (nq_P G y sz [.ref h0, .int 0] [(h0, .inr (11, [.int 0, .ref m_tree, .ref m_data, .ref m_made, .ref m_status, .int 0, .ref m_tape, .ref m_paths, .ref m_pathSize, .null, .int 0, .int 0, .int 0, .int 0, .int 0, .int 0, .int 0, .int 0, .int 0, .int 0, .int 0, .int (-1), .int 0, .ref m_set, .ref m_to, .int 0, .int 0, .int 0, .int 0, .int 0, .int 0, .ref m_lifted, .int 0, .int 0, .int 0, .ref m_order, .int 0, .ref m_past, .int 0, .ref m_rowKind, .ref m_rowSteps, .ref m_rowPath, .ref m_rowWas, .ref m_rowIs, .ref m_pool, .ref m_rowsMany, .ref m_poolMany, .ref m_way, .int 0, .ref m_out, .int 0, .int 0, .ref m_notedThing, .ref m_notedIs, .ref m_votes, .int 0, .int 0, .ref m_treeThen, .int 0, .int 0, .int 0, .ref m_imageTree, .ref m_pastThen, .ref m_notedThingThen, .ref m_notedIsThen, .ref m_statusThen])), (m_tree, .inl (y 0, 240, .inl (upd (upd (fun _ => 0) 0 3) 3 1)))]) (va_Qi (fun (r : Int32) (_ : Unit) => r = 0) (fun _ _ => True) (va_A [] sz)) 0 0 (va_A [] sz) := by
  refine Met.ofW (cc := cX11_ofKind) (maxL := 4) (ret := (some .int)) (by decide) rfl ?_
  intro p e s m args below meth c s₁ B hml hv
  obtain ⟨rfl, hsz, hP, hK, hD0⟩ := hv
  have hx := B.exec
  have hb := B.bytes
  have hr := B.returns
  have hts := atoms_spec (ws := wsX11_ofKind) B.pre
  have hown : s.vm.findClass RX11 = some m.cls := findClass_of_methodNamed B.named
  have hlocks := B.notSynchronized
  subst hsz
  have hD := hD0
  have hA : ∀ q : Nat, s.heap.size ≤ q → va_A [] s.heap.size q := fun q h => Or.inr h
  have hS : va_S (va_A [] s.heap.size) s.heap s.heap [] := va_S.rf
  have hP : va_P G vwCl [(h0, .inr (11, [.int 0, .ref m_tree, .ref m_data, .ref m_made, .ref m_status, .int 0, .ref m_tape, .ref m_paths, .ref m_pathSize, .null, .int 0, .int 0, .int 0, .int 0, .int 0, .int 0, .int 0, .int 0, .int 0, .int 0, .int 0, .int (-1), .int 0, .ref m_set, .ref m_to, .int 0, .int 0, .int 0, .int 0, .int 0, .int 0, .ref m_lifted, .int 0, .int 0, .int 0, .ref m_order, .int 0, .ref m_past, .int 0, .ref m_rowKind, .ref m_rowSteps, .ref m_rowPath, .ref m_rowWas, .ref m_rowIs, .ref m_pool, .ref m_rowsMany, .ref m_poolMany, .ref m_way, .int 0, .ref m_out, .int 0, .int 0, .ref m_notedThing, .ref m_notedIs, .ref m_votes, .int 0, .int 0, .ref m_treeThen, .int 0, .int 0, .int 0, .ref m_imageTree, .ref m_pastThen, .ref m_notedThingThen, .ref m_notedIsThen, .ref m_statusThen])), (m_tree, .inl (y 0, 240, .inl (upd (upd (fun _ => 0) 0 3) 3 1)))] s.heap := hP
  have inX11 : ∀ w ∈ wsX110, w ∈ wsX11_ofKind := by decide +kernel
  have hl := lv_entry ([.ref h0, .int 0]) (n := 4) (Nat.le_of_ble_eq_true rfl)
  rw [lg_entry_eq]
  generalize (lg_sl ([.ref h0, .int 0]) ++ List.replicate (4 - (lg_sl ([.ref h0, .int 0])).length) Slot.unset).toArray = ls at hl ⊢
  have hl : lv_has ls 4 [(0, .ref h0), (1, .int 0)] := hl
  refine lv_iconst (v := 0) hx hb dX11_ofKind_0 (by decide) ?_
  refine lv_istore_n (lv' := [(2, .int 0), (0, .ref h0), (1, .int 0)]) hx hb dX11_ofKind_1 rfl hl (by decide) rfl (fun ls hl => ?_)
  refine lv_iconst (v := 0) hx hb dX11_ofKind_2 (by decide) ?_
  refine lv_istore_n (lv' := [(3, .int 0), (2, .int 0), (0, .ref h0), (1, .int 0)]) hx hb dX11_ofKind_3 rfl hl (by decide) rfl (fun ls hl => ?_)
  refine lv_iload_n hx hb dX11_ofKind_4 rfl (lv_at hl 0 rfl) ?_
  refine lv_aload_n hx hb dX11_ofKind_5 rfl (lv_at hl 2 rfl) ?_
  refine nq_rdi (va_runV (As := []) (rest := [.int 0]) ⟨hx, hb, hml, hown, hts⟩ (c_m_things l G y s.heap.size h0 m_tree m_data m_made m_status m_tape m_paths m_pathSize m_set m_to m_lifted m_order m_past m_rowKind m_rowSteps m_rowPath m_rowWas m_rowIs m_pool m_rowsMany m_poolMany m_way m_out m_notedThing m_notedIs m_votes m_treeThen m_imageTree m_pastThen m_notedThingThen m_notedIsThen m_statusThen ) (cwV 0 hts gX11_ofKind_X11_things rfl rfl rfl (by decide +kernel) ⟨Nat.le_of_ble_eq_true rfl, Nat.le_of_ble_eq_true rfl⟩) (nq_PV hK hP hD [0, 1] rfl rfl 0 rfl rfl) rfl rfl hl.1 rfl (lv_room (Nat.le_of_ble_eq_true rfl)) dX11_ofKind_6 ⟨Nat.le_of_ble_eq_true rfl, Nat.le_of_ble_eq_true rfl⟩) hP hS hA (fun r_1 H locs hw_2 hP hS => ?_)
  subst hw_2
  refine lv_icmp_ge (tgt := 38) hx hb dX11_ofKind_9 (by decide) (fun c_3 => absurd c_3 (by decide)) (fun _ => ?_)
  refine lv_iload_n hx hb dX11_ofKind_12 rfl (lv_at hl 1 rfl) ?_
  refine lv_aload_n hx hb dX11_ofKind_13 rfl (lv_at hl 2 rfl) ?_
  refine va_get (D := G) (ci := 11) (v := .ref m_tree) (C := RX11) (T := TX11) (N := 66) hx hb hts inX11 hown hK.1 hP 0 rfl rfl 1 (by decide) (hts (.fieldLink RX11 9 "NestQueryModel" "tree" "[I") (by decide +kernel)) (fun _ h9 => h9) rfl dX11_ofKind_14 ?_
  refine lv_iload_n hx hb dX11_ofKind_17 rfl (lv_at hl 0 rfl) ?_
  refine nq_rdi (va_runS (As := [.ref m_tree, .int 0]) (rest := [.int 0]) ⟨hx, hb, hml, hown, hts⟩ (c_m_kind l G y H.size m_tree ) (va_cwS 2 hts gX11_ofKind_X11_kind rfl rfl rfl (by decide +kernel) ⟨Nat.le_of_ble_eq_true rfl, Nat.le_of_ble_eq_true rfl⟩) (nq_PS hK hP hD [1] rfl rfl) rfl rfl hl.1 rfl (lv_room (Nat.le_of_ble_eq_true rfl)) dX11_ofKind_18 ⟨Nat.le_of_ble_eq_true rfl, Nat.le_of_ble_eq_true rfl⟩) hP hS hA (fun r_4 H locs hw_5 hP hS => ?_)
  subst hw_5
  refine lv_iload_n hx hb dX11_ofKind_21 rfl (lv_at hl 3 rfl) ?_
  refine lv_icmp_ne (tgt := 29) hx hb dX11_ofKind_22 (by decide) (fun _ => ?_) (fun c_6 => absurd c_6 (by decide))
  refine lv_iconst (v := 0) hx hb dX11_ofKind_29 (by decide) ?_
  refine lv_iadd hx hb dX11_ofKind_30 ?_
  refine nq_top (z := 0) (by decide) ?_
  refine lv_istore_n (lv' := [(2, .int 0), (3, .int 0), (0, .ref h0), (1, .int 0)]) hx hb dX11_ofKind_31 rfl hl (by decide) rfl (fun ls hl => ?_)
  refine lv_iinc (v := 1) (lv' := [(3, .int 1), (2, .int 0), (0, .ref h0), (1, .int 0)]) hx hb dX11_ofKind_32 hl (k := 1) rfl (by decide) (by decide) rfl (fun ls hl => ?_)
  refine lv_goto (tgt := 4) hx hb dX11_ofKind_35 (by decide) ?_
  refine lv_iload_n hx hb dX11_ofKind_4 rfl (lv_at hl 0 rfl) ?_
  refine lv_aload_n hx hb dX11_ofKind_5 rfl (lv_at hl 2 rfl) ?_
  refine nq_rdi (va_runV (As := []) (rest := [.int 1]) ⟨hx, hb, hml, hown, hts⟩ (c_m_things l G y H.size h0 m_tree m_data m_made m_status m_tape m_paths m_pathSize m_set m_to m_lifted m_order m_past m_rowKind m_rowSteps m_rowPath m_rowWas m_rowIs m_pool m_rowsMany m_poolMany m_way m_out m_notedThing m_notedIs m_votes m_treeThen m_imageTree m_pastThen m_notedThingThen m_notedIsThen m_statusThen ) (cwV 0 hts gX11_ofKind_X11_things rfl rfl rfl (by decide +kernel) ⟨Nat.le_of_ble_eq_true rfl, Nat.le_of_ble_eq_true rfl⟩) (nq_PV hK hP hD [0, 1] rfl rfl 0 rfl rfl) rfl rfl hl.1 rfl (lv_room (Nat.le_of_ble_eq_true rfl)) dX11_ofKind_6 ⟨Nat.le_of_ble_eq_true rfl, Nat.le_of_ble_eq_true rfl⟩) hP hS hA (fun r_7 H locs hw_8 hP hS => ?_)
  subst hw_8
  refine lv_icmp_ge (tgt := 38) hx hb dX11_ofKind_9 (by decide) (fun _ => ?_) (fun c_9 => absurd c_9 (by decide))
  refine lv_iload_n hx hb dX11_ofKind_38 rfl (lv_at hl 1 rfl) ?_
  refine W.widen (k := 0) (n := 0) (Nat.le_of_ble_eq_true rfl) (Nat.le_of_ble_eq_true rfl) ?_
  exact W.iret (v := 0) hx hb hr (fun t ht hW => ⟨⟨0, (), rfl, rfl, trivial⟩, hS.F ht⟩) hS.2.2 dX11_ofKind_39

set_option maxHeartbeats 4000000 in
set_option maxRecDepth 100000 in
theorem c_m_ofKind1 (l : Launch) (G : va_G) (y : Nat → ClassId) (sz : Nat) (h0 : Nat) (m_tree : Nat) (m_data : Nat) (m_made : Nat) (m_status : Nat) (m_tape : Nat) (m_paths : Nat) (m_pathSize : Nat) (m_set : Nat) (m_to : Nat) (m_lifted : Nat) (m_order : Nat) (m_past : Nat) (m_rowKind : Nat) (m_rowSteps : Nat) (m_rowPath : Nat) (m_rowWas : Nat) (m_rowIs : Nat) (m_pool : Nat) (m_rowsMany : Nat) (m_poolMany : Nat) (m_way : Nat) (m_out : Nat) (m_notedThing : Nat) (m_notedIs : Nat) (m_votes : Nat) (m_treeThen : Nat) (m_imageTree : Nat) (m_pastThen : Nat) (m_notedThingThen : Nat) (m_notedIsThen : Nat) (m_statusThen : Nat)  : Met l yX11_ofKind wsX11_ofKind ({ frames := 1, cells := 0, slots := 0, locals := 21 }) (nq_P G y sz [.ref h0, .int 1] [(h0, .inr (11, [.int 0, .ref m_tree, .ref m_data, .ref m_made, .ref m_status, .int 0, .ref m_tape, .ref m_paths, .ref m_pathSize, .null, .int 0, .int 0, .int 0, .int 0, .int 0, .int 0, .int 0, .int 0, .int 0, .int 0, .int 0, .int (-1), .int 0, .ref m_set, .ref m_to, .int 0, .int 0, .int 0, .int 0, .int 0, .int 0, .ref m_lifted, .int 0, .int 0, .int 0, .ref m_order, .int 0, .ref m_past, .int 0, .ref m_rowKind, .ref m_rowSteps, .ref m_rowPath, .ref m_rowWas, .ref m_rowIs, .ref m_pool, .ref m_rowsMany, .ref m_poolMany, .ref m_way, .int 0, .ref m_out, .int 0, .int 0, .ref m_notedThing, .ref m_notedIs, .ref m_votes, .int 0, .int 0, .ref m_treeThen, .int 0, .int 0, .int 0, .ref m_imageTree, .ref m_pastThen, .ref m_notedThingThen, .ref m_notedIsThen, .ref m_statusThen])), (m_tree, .inl (y 0, 240, .inl (upd (upd (fun _ => 0) 0 3) 3 1)))]) (va_Qi (fun (r : Int32) (_ : Unit) => r = 0) (fun _ _ => True) (va_A [] sz)) 0 0 (va_A [] sz) := by
  refine Met.ofW (cc := cX11_ofKind) (maxL := 4) (ret := (some .int)) (by decide) rfl ?_
  intro p e s m args below meth c s₁ B hml hv
  obtain ⟨rfl, hsz, hP, hK, hD0⟩ := hv
  have hx := B.exec
  have hb := B.bytes
  have hr := B.returns
  have hts := atoms_spec (ws := wsX11_ofKind) B.pre
  have hown : s.vm.findClass RX11 = some m.cls := findClass_of_methodNamed B.named
  have hlocks := B.notSynchronized
  subst hsz
  have hD := hD0
  have hA : ∀ q : Nat, s.heap.size ≤ q → va_A [] s.heap.size q := fun q h => Or.inr h
  have hS : va_S (va_A [] s.heap.size) s.heap s.heap [] := va_S.rf
  have hP : va_P G vwCl [(h0, .inr (11, [.int 0, .ref m_tree, .ref m_data, .ref m_made, .ref m_status, .int 0, .ref m_tape, .ref m_paths, .ref m_pathSize, .null, .int 0, .int 0, .int 0, .int 0, .int 0, .int 0, .int 0, .int 0, .int 0, .int 0, .int 0, .int (-1), .int 0, .ref m_set, .ref m_to, .int 0, .int 0, .int 0, .int 0, .int 0, .int 0, .ref m_lifted, .int 0, .int 0, .int 0, .ref m_order, .int 0, .ref m_past, .int 0, .ref m_rowKind, .ref m_rowSteps, .ref m_rowPath, .ref m_rowWas, .ref m_rowIs, .ref m_pool, .ref m_rowsMany, .ref m_poolMany, .ref m_way, .int 0, .ref m_out, .int 0, .int 0, .ref m_notedThing, .ref m_notedIs, .ref m_votes, .int 0, .int 0, .ref m_treeThen, .int 0, .int 0, .int 0, .ref m_imageTree, .ref m_pastThen, .ref m_notedThingThen, .ref m_notedIsThen, .ref m_statusThen])), (m_tree, .inl (y 0, 240, .inl (upd (upd (fun _ => 0) 0 3) 3 1)))] s.heap := hP
  have inX11 : ∀ w ∈ wsX110, w ∈ wsX11_ofKind := by decide +kernel
  have hl := lv_entry ([.ref h0, .int 1]) (n := 4) (Nat.le_of_ble_eq_true rfl)
  rw [lg_entry_eq]
  generalize (lg_sl ([.ref h0, .int 1]) ++ List.replicate (4 - (lg_sl ([.ref h0, .int 1])).length) Slot.unset).toArray = ls at hl ⊢
  have hl : lv_has ls 4 [(0, .ref h0), (1, .int 1)] := hl
  refine lv_iconst (v := 0) hx hb dX11_ofKind_0 (by decide) ?_
  refine lv_istore_n (lv' := [(2, .int 0), (0, .ref h0), (1, .int 1)]) hx hb dX11_ofKind_1 rfl hl (by decide) rfl (fun ls hl => ?_)
  refine lv_iconst (v := 0) hx hb dX11_ofKind_2 (by decide) ?_
  refine lv_istore_n (lv' := [(3, .int 0), (2, .int 0), (0, .ref h0), (1, .int 1)]) hx hb dX11_ofKind_3 rfl hl (by decide) rfl (fun ls hl => ?_)
  refine lv_iload_n hx hb dX11_ofKind_4 rfl (lv_at hl 0 rfl) ?_
  refine lv_aload_n hx hb dX11_ofKind_5 rfl (lv_at hl 2 rfl) ?_
  refine nq_rdi (va_runV (As := []) (rest := [.int 0]) ⟨hx, hb, hml, hown, hts⟩ (c_m_things l G y s.heap.size h0 m_tree m_data m_made m_status m_tape m_paths m_pathSize m_set m_to m_lifted m_order m_past m_rowKind m_rowSteps m_rowPath m_rowWas m_rowIs m_pool m_rowsMany m_poolMany m_way m_out m_notedThing m_notedIs m_votes m_treeThen m_imageTree m_pastThen m_notedThingThen m_notedIsThen m_statusThen ) (cwV 0 hts gX11_ofKind_X11_things rfl rfl rfl (by decide +kernel) ⟨Nat.le_of_ble_eq_true rfl, Nat.le_of_ble_eq_true rfl⟩) (nq_PV hK hP hD [0, 1] rfl rfl 0 rfl rfl) rfl rfl hl.1 rfl (lv_room (Nat.le_of_ble_eq_true rfl)) dX11_ofKind_6 ⟨Nat.le_of_ble_eq_true rfl, Nat.le_of_ble_eq_true rfl⟩) hP hS hA (fun r_1 H locs hw_2 hP hS => ?_)
  subst hw_2
  refine lv_icmp_ge (tgt := 38) hx hb dX11_ofKind_9 (by decide) (fun c_3 => absurd c_3 (by decide)) (fun _ => ?_)
  refine lv_iload_n hx hb dX11_ofKind_12 rfl (lv_at hl 1 rfl) ?_
  refine lv_aload_n hx hb dX11_ofKind_13 rfl (lv_at hl 2 rfl) ?_
  refine va_get (D := G) (ci := 11) (v := .ref m_tree) (C := RX11) (T := TX11) (N := 66) hx hb hts inX11 hown hK.1 hP 0 rfl rfl 1 (by decide) (hts (.fieldLink RX11 9 "NestQueryModel" "tree" "[I") (by decide +kernel)) (fun _ h9 => h9) rfl dX11_ofKind_14 ?_
  refine lv_iload_n hx hb dX11_ofKind_17 rfl (lv_at hl 0 rfl) ?_
  refine nq_rdi (va_runS (As := [.ref m_tree, .int 0]) (rest := [.int 0]) ⟨hx, hb, hml, hown, hts⟩ (c_m_kind l G y H.size m_tree ) (va_cwS 2 hts gX11_ofKind_X11_kind rfl rfl rfl (by decide +kernel) ⟨Nat.le_of_ble_eq_true rfl, Nat.le_of_ble_eq_true rfl⟩) (nq_PS hK hP hD [1] rfl rfl) rfl rfl hl.1 rfl (lv_room (Nat.le_of_ble_eq_true rfl)) dX11_ofKind_18 ⟨Nat.le_of_ble_eq_true rfl, Nat.le_of_ble_eq_true rfl⟩) hP hS hA (fun r_4 H locs hw_5 hP hS => ?_)
  subst hw_5
  refine lv_iload_n hx hb dX11_ofKind_21 rfl (lv_at hl 3 rfl) ?_
  refine lv_icmp_ne (tgt := 29) hx hb dX11_ofKind_22 (by decide) (fun _ => ?_) (fun c_6 => absurd c_6 (by decide))
  refine lv_iconst (v := 0) hx hb dX11_ofKind_29 (by decide) ?_
  refine lv_iadd hx hb dX11_ofKind_30 ?_
  refine nq_top (z := 0) (by decide) ?_
  refine lv_istore_n (lv' := [(2, .int 0), (3, .int 0), (0, .ref h0), (1, .int 1)]) hx hb dX11_ofKind_31 rfl hl (by decide) rfl (fun ls hl => ?_)
  refine lv_iinc (v := 1) (lv' := [(3, .int 1), (2, .int 0), (0, .ref h0), (1, .int 1)]) hx hb dX11_ofKind_32 hl (k := 1) rfl (by decide) (by decide) rfl (fun ls hl => ?_)
  refine lv_goto (tgt := 4) hx hb dX11_ofKind_35 (by decide) ?_
  refine lv_iload_n hx hb dX11_ofKind_4 rfl (lv_at hl 0 rfl) ?_
  refine lv_aload_n hx hb dX11_ofKind_5 rfl (lv_at hl 2 rfl) ?_
  refine nq_rdi (va_runV (As := []) (rest := [.int 1]) ⟨hx, hb, hml, hown, hts⟩ (c_m_things l G y H.size h0 m_tree m_data m_made m_status m_tape m_paths m_pathSize m_set m_to m_lifted m_order m_past m_rowKind m_rowSteps m_rowPath m_rowWas m_rowIs m_pool m_rowsMany m_poolMany m_way m_out m_notedThing m_notedIs m_votes m_treeThen m_imageTree m_pastThen m_notedThingThen m_notedIsThen m_statusThen ) (cwV 0 hts gX11_ofKind_X11_things rfl rfl rfl (by decide +kernel) ⟨Nat.le_of_ble_eq_true rfl, Nat.le_of_ble_eq_true rfl⟩) (nq_PV hK hP hD [0, 1] rfl rfl 0 rfl rfl) rfl rfl hl.1 rfl (lv_room (Nat.le_of_ble_eq_true rfl)) dX11_ofKind_6 ⟨Nat.le_of_ble_eq_true rfl, Nat.le_of_ble_eq_true rfl⟩) hP hS hA (fun r_7 H locs hw_8 hP hS => ?_)
  subst hw_8
  refine lv_icmp_ge (tgt := 38) hx hb dX11_ofKind_9 (by decide) (fun _ => ?_) (fun c_9 => absurd c_9 (by decide))
  refine lv_iload_n hx hb dX11_ofKind_38 rfl (lv_at hl 1 rfl) ?_
  refine W.widen (k := 0) (n := 0) (Nat.le_of_ble_eq_true rfl) (Nat.le_of_ble_eq_true rfl) ?_
  exact W.iret (v := 0) hx hb hr (fun t ht hW => ⟨⟨0, (), rfl, rfl, trivial⟩, hS.F ht⟩) hS.2.2 dX11_ofKind_39

set_option maxHeartbeats 4000000 in
set_option maxRecDepth 100000 in
theorem c_m_ofKind2 (l : Launch) (G : va_G) (y : Nat → ClassId) (sz : Nat) (h0 : Nat) (m_tree : Nat) (m_data : Nat) (m_made : Nat) (m_status : Nat) (m_tape : Nat) (m_paths : Nat) (m_pathSize : Nat) (m_set : Nat) (m_to : Nat) (m_lifted : Nat) (m_order : Nat) (m_past : Nat) (m_rowKind : Nat) (m_rowSteps : Nat) (m_rowPath : Nat) (m_rowWas : Nat) (m_rowIs : Nat) (m_pool : Nat) (m_rowsMany : Nat) (m_poolMany : Nat) (m_way : Nat) (m_out : Nat) (m_notedThing : Nat) (m_notedIs : Nat) (m_votes : Nat) (m_treeThen : Nat) (m_imageTree : Nat) (m_pastThen : Nat) (m_notedThingThen : Nat) (m_notedIsThen : Nat) (m_statusThen : Nat)  : Met l yX11_ofKind wsX11_ofKind ({ frames := 1, cells := 0, slots := 0, locals := 21 }) (nq_P G y sz [.ref h0, .int 2] [(h0, .inr (11, [.int 0, .ref m_tree, .ref m_data, .ref m_made, .ref m_status, .int 0, .ref m_tape, .ref m_paths, .ref m_pathSize, .null, .int 0, .int 0, .int 0, .int 0, .int 0, .int 0, .int 0, .int 0, .int 0, .int 0, .int 0, .int (-1), .int 0, .ref m_set, .ref m_to, .int 0, .int 0, .int 0, .int 0, .int 0, .int 0, .ref m_lifted, .int 0, .int 0, .int 0, .ref m_order, .int 0, .ref m_past, .int 0, .ref m_rowKind, .ref m_rowSteps, .ref m_rowPath, .ref m_rowWas, .ref m_rowIs, .ref m_pool, .ref m_rowsMany, .ref m_poolMany, .ref m_way, .int 0, .ref m_out, .int 0, .int 0, .ref m_notedThing, .ref m_notedIs, .ref m_votes, .int 0, .int 0, .ref m_treeThen, .int 0, .int 0, .int 0, .ref m_imageTree, .ref m_pastThen, .ref m_notedThingThen, .ref m_notedIsThen, .ref m_statusThen])), (m_tree, .inl (y 0, 240, .inl (upd (upd (fun _ => 0) 0 3) 3 1)))]) (va_Qi (fun (r : Int32) (_ : Unit) => r = 0) (fun _ _ => True) (va_A [] sz)) 0 0 (va_A [] sz) := by
  refine Met.ofW (cc := cX11_ofKind) (maxL := 4) (ret := (some .int)) (by decide) rfl ?_
  intro p e s m args below meth c s₁ B hml hv
  obtain ⟨rfl, hsz, hP, hK, hD0⟩ := hv
  have hx := B.exec
  have hb := B.bytes
  have hr := B.returns
  have hts := atoms_spec (ws := wsX11_ofKind) B.pre
  have hown : s.vm.findClass RX11 = some m.cls := findClass_of_methodNamed B.named
  have hlocks := B.notSynchronized
  subst hsz
  have hD := hD0
  have hA : ∀ q : Nat, s.heap.size ≤ q → va_A [] s.heap.size q := fun q h => Or.inr h
  have hS : va_S (va_A [] s.heap.size) s.heap s.heap [] := va_S.rf
  have hP : va_P G vwCl [(h0, .inr (11, [.int 0, .ref m_tree, .ref m_data, .ref m_made, .ref m_status, .int 0, .ref m_tape, .ref m_paths, .ref m_pathSize, .null, .int 0, .int 0, .int 0, .int 0, .int 0, .int 0, .int 0, .int 0, .int 0, .int 0, .int 0, .int (-1), .int 0, .ref m_set, .ref m_to, .int 0, .int 0, .int 0, .int 0, .int 0, .int 0, .ref m_lifted, .int 0, .int 0, .int 0, .ref m_order, .int 0, .ref m_past, .int 0, .ref m_rowKind, .ref m_rowSteps, .ref m_rowPath, .ref m_rowWas, .ref m_rowIs, .ref m_pool, .ref m_rowsMany, .ref m_poolMany, .ref m_way, .int 0, .ref m_out, .int 0, .int 0, .ref m_notedThing, .ref m_notedIs, .ref m_votes, .int 0, .int 0, .ref m_treeThen, .int 0, .int 0, .int 0, .ref m_imageTree, .ref m_pastThen, .ref m_notedThingThen, .ref m_notedIsThen, .ref m_statusThen])), (m_tree, .inl (y 0, 240, .inl (upd (upd (fun _ => 0) 0 3) 3 1)))] s.heap := hP
  have inX11 : ∀ w ∈ wsX110, w ∈ wsX11_ofKind := by decide +kernel
  have hl := lv_entry ([.ref h0, .int 2]) (n := 4) (Nat.le_of_ble_eq_true rfl)
  rw [lg_entry_eq]
  generalize (lg_sl ([.ref h0, .int 2]) ++ List.replicate (4 - (lg_sl ([.ref h0, .int 2])).length) Slot.unset).toArray = ls at hl ⊢
  have hl : lv_has ls 4 [(0, .ref h0), (1, .int 2)] := hl
  refine lv_iconst (v := 0) hx hb dX11_ofKind_0 (by decide) ?_
  refine lv_istore_n (lv' := [(2, .int 0), (0, .ref h0), (1, .int 2)]) hx hb dX11_ofKind_1 rfl hl (by decide) rfl (fun ls hl => ?_)
  refine lv_iconst (v := 0) hx hb dX11_ofKind_2 (by decide) ?_
  refine lv_istore_n (lv' := [(3, .int 0), (2, .int 0), (0, .ref h0), (1, .int 2)]) hx hb dX11_ofKind_3 rfl hl (by decide) rfl (fun ls hl => ?_)
  refine lv_iload_n hx hb dX11_ofKind_4 rfl (lv_at hl 0 rfl) ?_
  refine lv_aload_n hx hb dX11_ofKind_5 rfl (lv_at hl 2 rfl) ?_
  refine nq_rdi (va_runV (As := []) (rest := [.int 0]) ⟨hx, hb, hml, hown, hts⟩ (c_m_things l G y s.heap.size h0 m_tree m_data m_made m_status m_tape m_paths m_pathSize m_set m_to m_lifted m_order m_past m_rowKind m_rowSteps m_rowPath m_rowWas m_rowIs m_pool m_rowsMany m_poolMany m_way m_out m_notedThing m_notedIs m_votes m_treeThen m_imageTree m_pastThen m_notedThingThen m_notedIsThen m_statusThen ) (cwV 0 hts gX11_ofKind_X11_things rfl rfl rfl (by decide +kernel) ⟨Nat.le_of_ble_eq_true rfl, Nat.le_of_ble_eq_true rfl⟩) (nq_PV hK hP hD [0, 1] rfl rfl 0 rfl rfl) rfl rfl hl.1 rfl (lv_room (Nat.le_of_ble_eq_true rfl)) dX11_ofKind_6 ⟨Nat.le_of_ble_eq_true rfl, Nat.le_of_ble_eq_true rfl⟩) hP hS hA (fun r_1 H locs hw_2 hP hS => ?_)
  subst hw_2
  refine lv_icmp_ge (tgt := 38) hx hb dX11_ofKind_9 (by decide) (fun c_3 => absurd c_3 (by decide)) (fun _ => ?_)
  refine lv_iload_n hx hb dX11_ofKind_12 rfl (lv_at hl 1 rfl) ?_
  refine lv_aload_n hx hb dX11_ofKind_13 rfl (lv_at hl 2 rfl) ?_
  refine va_get (D := G) (ci := 11) (v := .ref m_tree) (C := RX11) (T := TX11) (N := 66) hx hb hts inX11 hown hK.1 hP 0 rfl rfl 1 (by decide) (hts (.fieldLink RX11 9 "NestQueryModel" "tree" "[I") (by decide +kernel)) (fun _ h9 => h9) rfl dX11_ofKind_14 ?_
  refine lv_iload_n hx hb dX11_ofKind_17 rfl (lv_at hl 0 rfl) ?_
  refine nq_rdi (va_runS (As := [.ref m_tree, .int 0]) (rest := [.int 0]) ⟨hx, hb, hml, hown, hts⟩ (c_m_kind l G y H.size m_tree ) (va_cwS 2 hts gX11_ofKind_X11_kind rfl rfl rfl (by decide +kernel) ⟨Nat.le_of_ble_eq_true rfl, Nat.le_of_ble_eq_true rfl⟩) (nq_PS hK hP hD [1] rfl rfl) rfl rfl hl.1 rfl (lv_room (Nat.le_of_ble_eq_true rfl)) dX11_ofKind_18 ⟨Nat.le_of_ble_eq_true rfl, Nat.le_of_ble_eq_true rfl⟩) hP hS hA (fun r_4 H locs hw_5 hP hS => ?_)
  subst hw_5
  refine lv_iload_n hx hb dX11_ofKind_21 rfl (lv_at hl 3 rfl) ?_
  refine lv_icmp_ne (tgt := 29) hx hb dX11_ofKind_22 (by decide) (fun _ => ?_) (fun c_6 => absurd c_6 (by decide))
  refine lv_iconst (v := 0) hx hb dX11_ofKind_29 (by decide) ?_
  refine lv_iadd hx hb dX11_ofKind_30 ?_
  refine nq_top (z := 0) (by decide) ?_
  refine lv_istore_n (lv' := [(2, .int 0), (3, .int 0), (0, .ref h0), (1, .int 2)]) hx hb dX11_ofKind_31 rfl hl (by decide) rfl (fun ls hl => ?_)
  refine lv_iinc (v := 1) (lv' := [(3, .int 1), (2, .int 0), (0, .ref h0), (1, .int 2)]) hx hb dX11_ofKind_32 hl (k := 1) rfl (by decide) (by decide) rfl (fun ls hl => ?_)
  refine lv_goto (tgt := 4) hx hb dX11_ofKind_35 (by decide) ?_
  refine lv_iload_n hx hb dX11_ofKind_4 rfl (lv_at hl 0 rfl) ?_
  refine lv_aload_n hx hb dX11_ofKind_5 rfl (lv_at hl 2 rfl) ?_
  refine nq_rdi (va_runV (As := []) (rest := [.int 1]) ⟨hx, hb, hml, hown, hts⟩ (c_m_things l G y H.size h0 m_tree m_data m_made m_status m_tape m_paths m_pathSize m_set m_to m_lifted m_order m_past m_rowKind m_rowSteps m_rowPath m_rowWas m_rowIs m_pool m_rowsMany m_poolMany m_way m_out m_notedThing m_notedIs m_votes m_treeThen m_imageTree m_pastThen m_notedThingThen m_notedIsThen m_statusThen ) (cwV 0 hts gX11_ofKind_X11_things rfl rfl rfl (by decide +kernel) ⟨Nat.le_of_ble_eq_true rfl, Nat.le_of_ble_eq_true rfl⟩) (nq_PV hK hP hD [0, 1] rfl rfl 0 rfl rfl) rfl rfl hl.1 rfl (lv_room (Nat.le_of_ble_eq_true rfl)) dX11_ofKind_6 ⟨Nat.le_of_ble_eq_true rfl, Nat.le_of_ble_eq_true rfl⟩) hP hS hA (fun r_7 H locs hw_8 hP hS => ?_)
  subst hw_8
  refine lv_icmp_ge (tgt := 38) hx hb dX11_ofKind_9 (by decide) (fun _ => ?_) (fun c_9 => absurd c_9 (by decide))
  refine lv_iload_n hx hb dX11_ofKind_38 rfl (lv_at hl 1 rfl) ?_
  refine W.widen (k := 0) (n := 0) (Nat.le_of_ble_eq_true rfl) (Nat.le_of_ble_eq_true rfl) ?_
  exact W.iret (v := 0) hx hb hr (fun t ht hW => ⟨⟨0, (), rfl, rfl, trivial⟩, hS.F ht⟩) hS.2.2 dX11_ofKind_39

set_option maxHeartbeats 4000000 in
set_option maxRecDepth 100000 in
theorem c_m_ofKind3 (l : Launch) (G : va_G) (y : Nat → ClassId) (sz : Nat) (h0 : Nat) (m_tree : Nat) (m_data : Nat) (m_made : Nat) (m_status : Nat) (m_tape : Nat) (m_paths : Nat) (m_pathSize : Nat) (m_set : Nat) (m_to : Nat) (m_lifted : Nat) (m_order : Nat) (m_past : Nat) (m_rowKind : Nat) (m_rowSteps : Nat) (m_rowPath : Nat) (m_rowWas : Nat) (m_rowIs : Nat) (m_pool : Nat) (m_rowsMany : Nat) (m_poolMany : Nat) (m_way : Nat) (m_out : Nat) (m_notedThing : Nat) (m_notedIs : Nat) (m_votes : Nat) (m_treeThen : Nat) (m_imageTree : Nat) (m_pastThen : Nat) (m_notedThingThen : Nat) (m_notedIsThen : Nat) (m_statusThen : Nat)  : Met l yX11_ofKind wsX11_ofKind ({ frames := 1, cells := 0, slots := 0, locals := 21 }) (nq_P G y sz [.ref h0, .int 3] [(h0, .inr (11, [.int 0, .ref m_tree, .ref m_data, .ref m_made, .ref m_status, .int 0, .ref m_tape, .ref m_paths, .ref m_pathSize, .null, .int 0, .int 0, .int 0, .int 0, .int 0, .int 0, .int 0, .int 0, .int 0, .int 0, .int 0, .int (-1), .int 0, .ref m_set, .ref m_to, .int 0, .int 0, .int 0, .int 0, .int 0, .int 0, .ref m_lifted, .int 0, .int 0, .int 0, .ref m_order, .int 0, .ref m_past, .int 0, .ref m_rowKind, .ref m_rowSteps, .ref m_rowPath, .ref m_rowWas, .ref m_rowIs, .ref m_pool, .ref m_rowsMany, .ref m_poolMany, .ref m_way, .int 0, .ref m_out, .int 0, .int 0, .ref m_notedThing, .ref m_notedIs, .ref m_votes, .int 0, .int 0, .ref m_treeThen, .int 0, .int 0, .int 0, .ref m_imageTree, .ref m_pastThen, .ref m_notedThingThen, .ref m_notedIsThen, .ref m_statusThen])), (m_tree, .inl (y 0, 240, .inl (upd (upd (fun _ => 0) 0 3) 3 1)))]) (va_Qi (fun (r : Int32) (_ : Unit) => r = 1) (fun _ _ => True) (va_A [] sz)) 0 0 (va_A [] sz) := by
  refine Met.ofW (cc := cX11_ofKind) (maxL := 4) (ret := (some .int)) (by decide) rfl ?_
  intro p e s m args below meth c s₁ B hml hv
  obtain ⟨rfl, hsz, hP, hK, hD0⟩ := hv
  have hx := B.exec
  have hb := B.bytes
  have hr := B.returns
  have hts := atoms_spec (ws := wsX11_ofKind) B.pre
  have hown : s.vm.findClass RX11 = some m.cls := findClass_of_methodNamed B.named
  have hlocks := B.notSynchronized
  subst hsz
  have hD := hD0
  have hA : ∀ q : Nat, s.heap.size ≤ q → va_A [] s.heap.size q := fun q h => Or.inr h
  have hS : va_S (va_A [] s.heap.size) s.heap s.heap [] := va_S.rf
  have hP : va_P G vwCl [(h0, .inr (11, [.int 0, .ref m_tree, .ref m_data, .ref m_made, .ref m_status, .int 0, .ref m_tape, .ref m_paths, .ref m_pathSize, .null, .int 0, .int 0, .int 0, .int 0, .int 0, .int 0, .int 0, .int 0, .int 0, .int 0, .int 0, .int (-1), .int 0, .ref m_set, .ref m_to, .int 0, .int 0, .int 0, .int 0, .int 0, .int 0, .ref m_lifted, .int 0, .int 0, .int 0, .ref m_order, .int 0, .ref m_past, .int 0, .ref m_rowKind, .ref m_rowSteps, .ref m_rowPath, .ref m_rowWas, .ref m_rowIs, .ref m_pool, .ref m_rowsMany, .ref m_poolMany, .ref m_way, .int 0, .ref m_out, .int 0, .int 0, .ref m_notedThing, .ref m_notedIs, .ref m_votes, .int 0, .int 0, .ref m_treeThen, .int 0, .int 0, .int 0, .ref m_imageTree, .ref m_pastThen, .ref m_notedThingThen, .ref m_notedIsThen, .ref m_statusThen])), (m_tree, .inl (y 0, 240, .inl (upd (upd (fun _ => 0) 0 3) 3 1)))] s.heap := hP
  have inX11 : ∀ w ∈ wsX110, w ∈ wsX11_ofKind := by decide +kernel
  have hl := lv_entry ([.ref h0, .int 3]) (n := 4) (Nat.le_of_ble_eq_true rfl)
  rw [lg_entry_eq]
  generalize (lg_sl ([.ref h0, .int 3]) ++ List.replicate (4 - (lg_sl ([.ref h0, .int 3])).length) Slot.unset).toArray = ls at hl ⊢
  have hl : lv_has ls 4 [(0, .ref h0), (1, .int 3)] := hl
  refine lv_iconst (v := 0) hx hb dX11_ofKind_0 (by decide) ?_
  refine lv_istore_n (lv' := [(2, .int 0), (0, .ref h0), (1, .int 3)]) hx hb dX11_ofKind_1 rfl hl (by decide) rfl (fun ls hl => ?_)
  refine lv_iconst (v := 0) hx hb dX11_ofKind_2 (by decide) ?_
  refine lv_istore_n (lv' := [(3, .int 0), (2, .int 0), (0, .ref h0), (1, .int 3)]) hx hb dX11_ofKind_3 rfl hl (by decide) rfl (fun ls hl => ?_)
  refine lv_iload_n hx hb dX11_ofKind_4 rfl (lv_at hl 0 rfl) ?_
  refine lv_aload_n hx hb dX11_ofKind_5 rfl (lv_at hl 2 rfl) ?_
  refine nq_rdi (va_runV (As := []) (rest := [.int 0]) ⟨hx, hb, hml, hown, hts⟩ (c_m_things l G y s.heap.size h0 m_tree m_data m_made m_status m_tape m_paths m_pathSize m_set m_to m_lifted m_order m_past m_rowKind m_rowSteps m_rowPath m_rowWas m_rowIs m_pool m_rowsMany m_poolMany m_way m_out m_notedThing m_notedIs m_votes m_treeThen m_imageTree m_pastThen m_notedThingThen m_notedIsThen m_statusThen ) (cwV 0 hts gX11_ofKind_X11_things rfl rfl rfl (by decide +kernel) ⟨Nat.le_of_ble_eq_true rfl, Nat.le_of_ble_eq_true rfl⟩) (nq_PV hK hP hD [0, 1] rfl rfl 0 rfl rfl) rfl rfl hl.1 rfl (lv_room (Nat.le_of_ble_eq_true rfl)) dX11_ofKind_6 ⟨Nat.le_of_ble_eq_true rfl, Nat.le_of_ble_eq_true rfl⟩) hP hS hA (fun r_1 H locs hw_2 hP hS => ?_)
  subst hw_2
  refine lv_icmp_ge (tgt := 38) hx hb dX11_ofKind_9 (by decide) (fun c_3 => absurd c_3 (by decide)) (fun _ => ?_)
  refine lv_iload_n hx hb dX11_ofKind_12 rfl (lv_at hl 1 rfl) ?_
  refine lv_aload_n hx hb dX11_ofKind_13 rfl (lv_at hl 2 rfl) ?_
  refine va_get (D := G) (ci := 11) (v := .ref m_tree) (C := RX11) (T := TX11) (N := 66) hx hb hts inX11 hown hK.1 hP 0 rfl rfl 1 (by decide) (hts (.fieldLink RX11 9 "NestQueryModel" "tree" "[I") (by decide +kernel)) (fun _ h9 => h9) rfl dX11_ofKind_14 ?_
  refine lv_iload_n hx hb dX11_ofKind_17 rfl (lv_at hl 0 rfl) ?_
  refine nq_rdi (va_runS (As := [.ref m_tree, .int 0]) (rest := [.int 0]) ⟨hx, hb, hml, hown, hts⟩ (c_m_kind l G y H.size m_tree ) (va_cwS 2 hts gX11_ofKind_X11_kind rfl rfl rfl (by decide +kernel) ⟨Nat.le_of_ble_eq_true rfl, Nat.le_of_ble_eq_true rfl⟩) (nq_PS hK hP hD [1] rfl rfl) rfl rfl hl.1 rfl (lv_room (Nat.le_of_ble_eq_true rfl)) dX11_ofKind_18 ⟨Nat.le_of_ble_eq_true rfl, Nat.le_of_ble_eq_true rfl⟩) hP hS hA (fun r_4 H locs hw_5 hP hS => ?_)
  subst hw_5
  refine lv_iload_n hx hb dX11_ofKind_21 rfl (lv_at hl 3 rfl) ?_
  refine lv_icmp_ne (tgt := 29) hx hb dX11_ofKind_22 (by decide) (fun c_6 => absurd c_6 (by decide)) (fun _ => ?_)
  refine lv_iconst (v := 1) hx hb dX11_ofKind_25 (by decide) ?_
  refine lv_goto (tgt := 30) hx hb dX11_ofKind_26 (by decide) ?_
  refine lv_iadd hx hb dX11_ofKind_30 ?_
  refine nq_top (z := 1) (by decide) ?_
  refine lv_istore_n (lv' := [(2, .int 1), (3, .int 0), (0, .ref h0), (1, .int 3)]) hx hb dX11_ofKind_31 rfl hl (by decide) rfl (fun ls hl => ?_)
  refine lv_iinc (v := 1) (lv' := [(3, .int 1), (2, .int 1), (0, .ref h0), (1, .int 3)]) hx hb dX11_ofKind_32 hl (k := 1) rfl (by decide) (by decide) rfl (fun ls hl => ?_)
  refine lv_goto (tgt := 4) hx hb dX11_ofKind_35 (by decide) ?_
  refine lv_iload_n hx hb dX11_ofKind_4 rfl (lv_at hl 0 rfl) ?_
  refine lv_aload_n hx hb dX11_ofKind_5 rfl (lv_at hl 2 rfl) ?_
  refine nq_rdi (va_runV (As := []) (rest := [.int 1]) ⟨hx, hb, hml, hown, hts⟩ (c_m_things l G y H.size h0 m_tree m_data m_made m_status m_tape m_paths m_pathSize m_set m_to m_lifted m_order m_past m_rowKind m_rowSteps m_rowPath m_rowWas m_rowIs m_pool m_rowsMany m_poolMany m_way m_out m_notedThing m_notedIs m_votes m_treeThen m_imageTree m_pastThen m_notedThingThen m_notedIsThen m_statusThen ) (cwV 0 hts gX11_ofKind_X11_things rfl rfl rfl (by decide +kernel) ⟨Nat.le_of_ble_eq_true rfl, Nat.le_of_ble_eq_true rfl⟩) (nq_PV hK hP hD [0, 1] rfl rfl 0 rfl rfl) rfl rfl hl.1 rfl (lv_room (Nat.le_of_ble_eq_true rfl)) dX11_ofKind_6 ⟨Nat.le_of_ble_eq_true rfl, Nat.le_of_ble_eq_true rfl⟩) hP hS hA (fun r_7 H locs hw_8 hP hS => ?_)
  subst hw_8
  refine lv_icmp_ge (tgt := 38) hx hb dX11_ofKind_9 (by decide) (fun _ => ?_) (fun c_9 => absurd c_9 (by decide))
  refine lv_iload_n hx hb dX11_ofKind_38 rfl (lv_at hl 1 rfl) ?_
  refine W.widen (k := 0) (n := 0) (Nat.le_of_ble_eq_true rfl) (Nat.le_of_ble_eq_true rfl) ?_
  exact W.iret (v := 1) hx hb hr (fun t ht hW => ⟨⟨1, (), rfl, rfl, trivial⟩, hS.F ht⟩) hS.2.2 dX11_ofKind_39

set_option maxHeartbeats 4000000 in
set_option maxRecDepth 100000 in
theorem c_m_sum (l : Launch) (G : va_G) (y : Nat → ClassId) (sz : Nat) (h0 : Nat) (m_tree : Nat) (m_data : Nat) (m_made : Nat) (m_status : Nat) (m_tape : Nat) (m_paths : Nat) (m_pathSize : Nat) (m_set : Nat) (m_to : Nat) (m_lifted : Nat) (m_order : Nat) (m_past : Nat) (m_rowKind : Nat) (m_rowSteps : Nat) (m_rowPath : Nat) (m_rowWas : Nat) (m_rowIs : Nat) (m_pool : Nat) (m_rowsMany : Nat) (m_poolMany : Nat) (m_way : Nat) (m_out : Nat) (m_notedThing : Nat) (m_notedIs : Nat) (m_votes : Nat) (m_treeThen : Nat) (m_imageTree : Nat) (m_pastThen : Nat) (m_notedThingThen : Nat) (m_notedIsThen : Nat) (m_statusThen : Nat)  : Met l yX11_sum wsX11_sum ({ frames := 1, cells := 0, slots := 0, locals := 21 }) (nq_P G y sz [.ref h0] [(h0, .inr (11, [.int 0, .ref m_tree, .ref m_data, .ref m_made, .ref m_status, .int 0, .ref m_tape, .ref m_paths, .ref m_pathSize, .null, .int 0, .int 0, .int 0, .int 0, .int 0, .int 0, .int 0, .int 0, .int 0, .int 0, .int 0, .int (-1), .int 0, .ref m_set, .ref m_to, .int 0, .int 0, .int 0, .int 0, .int 0, .int 0, .ref m_lifted, .int 0, .int 0, .int 0, .ref m_order, .int 0, .ref m_past, .int 0, .ref m_rowKind, .ref m_rowSteps, .ref m_rowPath, .ref m_rowWas, .ref m_rowIs, .ref m_pool, .ref m_rowsMany, .ref m_poolMany, .ref m_way, .int 0, .ref m_out, .int 0, .int 0, .ref m_notedThing, .ref m_notedIs, .ref m_votes, .int 0, .int 0, .ref m_treeThen, .int 0, .int 0, .int 0, .ref m_imageTree, .ref m_pastThen, .ref m_notedThingThen, .ref m_notedIsThen, .ref m_statusThen])), (m_tree, .inl (y 0, 240, .inl (upd (upd (fun _ => 0) 0 3) 3 1)))]) (va_Qi (fun (r : Int32) (_ : Unit) => r = 0) (fun _ _ => True) (va_A [] sz)) 0 0 (va_A [] sz) := by
  refine Met.ofW (cc := cX11_sum) (maxL := 3) (ret := (some .int)) (by decide) rfl ?_
  intro p e s m args below meth c s₁ B hml hv
  obtain ⟨rfl, hsz, hP, hK, hD0⟩ := hv
  have hx := B.exec
  have hb := B.bytes
  have hr := B.returns
  have hts := atoms_spec (ws := wsX11_sum) B.pre
  have hown : s.vm.findClass RX11 = some m.cls := findClass_of_methodNamed B.named
  have hlocks := B.notSynchronized
  subst hsz
  have hD := hD0
  have hA : ∀ q : Nat, s.heap.size ≤ q → va_A [] s.heap.size q := fun q h => Or.inr h
  have hS : va_S (va_A [] s.heap.size) s.heap s.heap [] := va_S.rf
  have hP : va_P G vwCl [(h0, .inr (11, [.int 0, .ref m_tree, .ref m_data, .ref m_made, .ref m_status, .int 0, .ref m_tape, .ref m_paths, .ref m_pathSize, .null, .int 0, .int 0, .int 0, .int 0, .int 0, .int 0, .int 0, .int 0, .int 0, .int 0, .int 0, .int (-1), .int 0, .ref m_set, .ref m_to, .int 0, .int 0, .int 0, .int 0, .int 0, .int 0, .ref m_lifted, .int 0, .int 0, .int 0, .ref m_order, .int 0, .ref m_past, .int 0, .ref m_rowKind, .ref m_rowSteps, .ref m_rowPath, .ref m_rowWas, .ref m_rowIs, .ref m_pool, .ref m_rowsMany, .ref m_poolMany, .ref m_way, .int 0, .ref m_out, .int 0, .int 0, .ref m_notedThing, .ref m_notedIs, .ref m_votes, .int 0, .int 0, .ref m_treeThen, .int 0, .int 0, .int 0, .ref m_imageTree, .ref m_pastThen, .ref m_notedThingThen, .ref m_notedIsThen, .ref m_statusThen])), (m_tree, .inl (y 0, 240, .inl (upd (upd (fun _ => 0) 0 3) 3 1)))] s.heap := hP
  have inX11 : ∀ w ∈ wsX110, w ∈ wsX11_sum := by decide +kernel
  have hl := lv_entry ([.ref h0]) (n := 3) (Nat.le_of_ble_eq_true rfl)
  rw [lg_entry_eq]
  generalize (lg_sl ([.ref h0]) ++ List.replicate (3 - (lg_sl ([.ref h0])).length) Slot.unset).toArray = ls at hl ⊢
  have hl : lv_has ls 3 [(0, .ref h0)] := hl
  refine lv_iconst (v := 0) hx hb dX11_sum_0 (by decide) ?_
  refine lv_istore_n (lv' := [(1, .int 0), (0, .ref h0)]) hx hb dX11_sum_1 rfl hl (by decide) rfl (fun ls hl => ?_)
  refine lv_iconst (v := 0) hx hb dX11_sum_2 (by decide) ?_
  refine lv_istore_n (lv' := [(2, .int 0), (1, .int 0), (0, .ref h0)]) hx hb dX11_sum_3 rfl hl (by decide) rfl (fun ls hl => ?_)
  refine lv_iload_n hx hb dX11_sum_4 rfl (lv_at hl 0 rfl) ?_
  refine lv_aload_n hx hb dX11_sum_5 rfl (lv_at hl 2 rfl) ?_
  refine nq_rdi (va_runV (As := []) (rest := [.int 0]) ⟨hx, hb, hml, hown, hts⟩ (c_m_things l G y s.heap.size h0 m_tree m_data m_made m_status m_tape m_paths m_pathSize m_set m_to m_lifted m_order m_past m_rowKind m_rowSteps m_rowPath m_rowWas m_rowIs m_pool m_rowsMany m_poolMany m_way m_out m_notedThing m_notedIs m_votes m_treeThen m_imageTree m_pastThen m_notedThingThen m_notedIsThen m_statusThen ) (cwV 0 hts gX11_sum_X11_things rfl rfl rfl (by decide +kernel) ⟨Nat.le_of_ble_eq_true rfl, Nat.le_of_ble_eq_true rfl⟩) (nq_PV hK hP hD [0, 1] rfl rfl 0 rfl rfl) rfl rfl hl.1 rfl (lv_room (Nat.le_of_ble_eq_true rfl)) dX11_sum_6 ⟨Nat.le_of_ble_eq_true rfl, Nat.le_of_ble_eq_true rfl⟩) hP hS hA (fun r_1 H locs hw_2 hP hS => ?_)
  subst hw_2
  refine lv_icmp_ge (tgt := 46) hx hb dX11_sum_9 (by decide) (fun c_3 => absurd c_3 (by decide)) (fun _ => ?_)
  refine lv_iload_n hx hb dX11_sum_12 rfl (lv_at hl 1 rfl) ?_
  refine lv_aload_n hx hb dX11_sum_13 rfl (lv_at hl 2 rfl) ?_
  refine va_get (D := G) (ci := 11) (v := .ref m_tree) (C := RX11) (T := TX11) (N := 66) hx hb hts inX11 hown hK.1 hP 0 rfl rfl 1 (by decide) (hts (.fieldLink RX11 9 "NestQueryModel" "tree" "[I") (by decide +kernel)) (fun _ h9 => h9) rfl dX11_sum_14 ?_
  refine lv_iload_n hx hb dX11_sum_17 rfl (lv_at hl 0 rfl) ?_
  refine nq_rdi (va_runS (As := [.ref m_tree, .int 0]) (rest := [.int 0]) ⟨hx, hb, hml, hown, hts⟩ (c_m_kind l G y H.size m_tree ) (va_cwS 2 hts gX11_sum_X11_kind rfl rfl rfl (by decide +kernel) ⟨Nat.le_of_ble_eq_true rfl, Nat.le_of_ble_eq_true rfl⟩) (nq_PS hK hP hD [1] rfl rfl) rfl rfl hl.1 rfl (lv_room (Nat.le_of_ble_eq_true rfl)) dX11_sum_18 ⟨Nat.le_of_ble_eq_true rfl, Nat.le_of_ble_eq_true rfl⟩) hP hS hA (fun r_4 H locs hw_5 hP hS => ?_)
  subst hw_5
  refine lv_if_ne (tgt := 37) hx hb dX11_sum_21 (by decide) (fun _ => ?_) (fun c_6 => absurd c_6 (by decide))
  refine lv_iconst (v := 0) hx hb dX11_sum_37 (by decide) ?_
  refine lv_iadd hx hb dX11_sum_38 ?_
  refine nq_top (z := 0) (by decide) ?_
  refine lv_istore_n (lv' := [(1, .int 0), (2, .int 0), (0, .ref h0)]) hx hb dX11_sum_39 rfl hl (by decide) rfl (fun ls hl => ?_)
  refine lv_iinc (v := 1) (lv' := [(2, .int 1), (1, .int 0), (0, .ref h0)]) hx hb dX11_sum_40 hl (k := 1) rfl (by decide) (by decide) rfl (fun ls hl => ?_)
  refine lv_goto (tgt := 4) hx hb dX11_sum_43 (by decide) ?_
  refine lv_iload_n hx hb dX11_sum_4 rfl (lv_at hl 0 rfl) ?_
  refine lv_aload_n hx hb dX11_sum_5 rfl (lv_at hl 2 rfl) ?_
  refine nq_rdi (va_runV (As := []) (rest := [.int 1]) ⟨hx, hb, hml, hown, hts⟩ (c_m_things l G y H.size h0 m_tree m_data m_made m_status m_tape m_paths m_pathSize m_set m_to m_lifted m_order m_past m_rowKind m_rowSteps m_rowPath m_rowWas m_rowIs m_pool m_rowsMany m_poolMany m_way m_out m_notedThing m_notedIs m_votes m_treeThen m_imageTree m_pastThen m_notedThingThen m_notedIsThen m_statusThen ) (cwV 0 hts gX11_sum_X11_things rfl rfl rfl (by decide +kernel) ⟨Nat.le_of_ble_eq_true rfl, Nat.le_of_ble_eq_true rfl⟩) (nq_PV hK hP hD [0, 1] rfl rfl 0 rfl rfl) rfl rfl hl.1 rfl (lv_room (Nat.le_of_ble_eq_true rfl)) dX11_sum_6 ⟨Nat.le_of_ble_eq_true rfl, Nat.le_of_ble_eq_true rfl⟩) hP hS hA (fun r_7 H locs hw_8 hP hS => ?_)
  subst hw_8
  refine lv_icmp_ge (tgt := 46) hx hb dX11_sum_9 (by decide) (fun _ => ?_) (fun c_9 => absurd c_9 (by decide))
  refine lv_iload_n hx hb dX11_sum_46 rfl (lv_at hl 1 rfl) ?_
  refine W.widen (k := 0) (n := 0) (Nat.le_of_ble_eq_true rfl) (Nat.le_of_ble_eq_true rfl) ?_
  exact W.iret (v := 0) hx hb hr (fun t ht hW => ⟨⟨0, (), rfl, rfl, trivial⟩, hS.F ht⟩) hS.2.2 dX11_sum_47

set_option maxHeartbeats 4000000 in
set_option maxRecDepth 100000 in
theorem c_m_deepest (l : Launch) (G : va_G) (y : Nat → ClassId) (sz : Nat) (h0 : Nat) (m_tree : Nat) (m_data : Nat) (m_made : Nat) (m_status : Nat) (m_tape : Nat) (m_paths : Nat) (m_pathSize : Nat) (m_set : Nat) (m_to : Nat) (m_lifted : Nat) (m_order : Nat) (m_past : Nat) (m_rowKind : Nat) (m_rowSteps : Nat) (m_rowPath : Nat) (m_rowWas : Nat) (m_rowIs : Nat) (m_pool : Nat) (m_rowsMany : Nat) (m_poolMany : Nat) (m_way : Nat) (m_out : Nat) (m_notedThing : Nat) (m_notedIs : Nat) (m_votes : Nat) (m_treeThen : Nat) (m_imageTree : Nat) (m_pastThen : Nat) (m_notedThingThen : Nat) (m_notedIsThen : Nat) (m_statusThen : Nat)  : Met l yX11_deepest wsX11_deepest ({ frames := 1, cells := 0, slots := 0, locals := 40 }) (nq_P G y sz [.ref h0] [(h0, .inr (11, [.int 0, .ref m_tree, .ref m_data, .ref m_made, .ref m_status, .int 0, .ref m_tape, .ref m_paths, .ref m_pathSize, .null, .int 0, .int 0, .int 0, .int 0, .int 0, .int 0, .int 0, .int 0, .int 0, .int 0, .int 0, .int (-1), .int 0, .ref m_set, .ref m_to, .int 0, .int 0, .int 0, .int 0, .int 0, .int 0, .ref m_lifted, .int 0, .int 0, .int 0, .ref m_order, .int 0, .ref m_past, .int 0, .ref m_rowKind, .ref m_rowSteps, .ref m_rowPath, .ref m_rowWas, .ref m_rowIs, .ref m_pool, .ref m_rowsMany, .ref m_poolMany, .ref m_way, .int 0, .ref m_out, .int 0, .int 0, .ref m_notedThing, .ref m_notedIs, .ref m_votes, .int 0, .int 0, .ref m_treeThen, .int 0, .int 0, .int 0, .ref m_imageTree, .ref m_pastThen, .ref m_notedThingThen, .ref m_notedIsThen, .ref m_statusThen])), (m_tree, .inl (y 0, 240, .inl (upd (upd (fun _ => 0) 0 3) 3 1)))]) (va_Qi (fun (r : Int32) (_ : Unit) => r = 0) (fun _ _ => True) (va_A [] sz)) 0 0 (va_A [] sz) := by
  refine Met.ofW (cc := cX11_deepest) (maxL := 3) (ret := (some .int)) (by decide) rfl ?_
  intro p e s m args below meth c s₁ B hml hv
  obtain ⟨rfl, hsz, hP, hK, hD0⟩ := hv
  have hx := B.exec
  have hb := B.bytes
  have hr := B.returns
  have hts := atoms_spec (ws := wsX11_deepest) B.pre
  have hown : s.vm.findClass RX11 = some m.cls := findClass_of_methodNamed B.named
  have hlocks := B.notSynchronized
  subst hsz
  have hD := hD0
  have hA : ∀ q : Nat, s.heap.size ≤ q → va_A [] s.heap.size q := fun q h => Or.inr h
  have hS : va_S (va_A [] s.heap.size) s.heap s.heap [] := va_S.rf
  have hP : va_P G vwCl [(h0, .inr (11, [.int 0, .ref m_tree, .ref m_data, .ref m_made, .ref m_status, .int 0, .ref m_tape, .ref m_paths, .ref m_pathSize, .null, .int 0, .int 0, .int 0, .int 0, .int 0, .int 0, .int 0, .int 0, .int 0, .int 0, .int 0, .int (-1), .int 0, .ref m_set, .ref m_to, .int 0, .int 0, .int 0, .int 0, .int 0, .int 0, .ref m_lifted, .int 0, .int 0, .int 0, .ref m_order, .int 0, .ref m_past, .int 0, .ref m_rowKind, .ref m_rowSteps, .ref m_rowPath, .ref m_rowWas, .ref m_rowIs, .ref m_pool, .ref m_rowsMany, .ref m_poolMany, .ref m_way, .int 0, .ref m_out, .int 0, .int 0, .ref m_notedThing, .ref m_notedIs, .ref m_votes, .int 0, .int 0, .ref m_treeThen, .int 0, .int 0, .int 0, .ref m_imageTree, .ref m_pastThen, .ref m_notedThingThen, .ref m_notedIsThen, .ref m_statusThen])), (m_tree, .inl (y 0, 240, .inl (upd (upd (fun _ => 0) 0 3) 3 1)))] s.heap := hP
  have inX11 : ∀ w ∈ wsX110, w ∈ wsX11_deepest := by decide +kernel
  have hl := lv_entry ([.ref h0]) (n := 3) (Nat.le_of_ble_eq_true rfl)
  rw [lg_entry_eq]
  generalize (lg_sl ([.ref h0]) ++ List.replicate (3 - (lg_sl ([.ref h0])).length) Slot.unset).toArray = ls at hl ⊢
  have hl : lv_has ls 3 [(0, .ref h0)] := hl
  refine lv_iconst (v := 0) hx hb dX11_deepest_0 (by decide) ?_
  refine lv_istore_n (lv' := [(1, .int 0), (0, .ref h0)]) hx hb dX11_deepest_1 rfl hl (by decide) rfl (fun ls hl => ?_)
  refine lv_iconst (v := 0) hx hb dX11_deepest_2 (by decide) ?_
  refine lv_istore_n (lv' := [(2, .int 0), (1, .int 0), (0, .ref h0)]) hx hb dX11_deepest_3 rfl hl (by decide) rfl (fun ls hl => ?_)
  refine lv_iload_n hx hb dX11_deepest_4 rfl (lv_at hl 0 rfl) ?_
  refine lv_aload_n hx hb dX11_deepest_5 rfl (lv_at hl 2 rfl) ?_
  refine nq_rdi (va_runV (As := []) (rest := [.int 0]) ⟨hx, hb, hml, hown, hts⟩ (c_m_things l G y s.heap.size h0 m_tree m_data m_made m_status m_tape m_paths m_pathSize m_set m_to m_lifted m_order m_past m_rowKind m_rowSteps m_rowPath m_rowWas m_rowIs m_pool m_rowsMany m_poolMany m_way m_out m_notedThing m_notedIs m_votes m_treeThen m_imageTree m_pastThen m_notedThingThen m_notedIsThen m_statusThen ) (cwV 0 hts gX11_deepest_X11_things rfl rfl rfl (by decide +kernel) ⟨Nat.le_of_ble_eq_true rfl, Nat.le_of_ble_eq_true rfl⟩) (nq_PV hK hP hD [0, 1] rfl rfl 0 rfl rfl) rfl rfl hl.1 rfl (lv_room (Nat.le_of_ble_eq_true rfl)) dX11_deepest_6 ⟨Nat.le_of_ble_eq_true rfl, Nat.le_of_ble_eq_true rfl⟩) hP hS hA (fun r_1 H locs hw_2 hP hS => ?_)
  subst hw_2
  refine lv_icmp_ge (tgt := 31) hx hb dX11_deepest_9 (by decide) (fun c_3 => absurd c_3 (by decide)) (fun _ => ?_)
  refine lv_iload_n hx hb dX11_deepest_12 rfl (lv_at hl 1 rfl) ?_
  refine lv_aload_n hx hb dX11_deepest_13 rfl (lv_at hl 2 rfl) ?_
  refine va_get (D := G) (ci := 11) (v := .ref m_tree) (C := RX11) (T := TX11) (N := 66) hx hb hts inX11 hown hK.1 hP 0 rfl rfl 1 (by decide) (hts (.fieldLink RX11 9 "NestQueryModel" "tree" "[I") (by decide +kernel)) (fun _ h9 => h9) rfl dX11_deepest_14 ?_
  refine lv_iload_n hx hb dX11_deepest_17 rfl (lv_at hl 0 rfl) ?_
  refine nq_rdi (va_runS (As := [.ref m_tree, .int 0]) (rest := [.int 0]) ⟨hx, hb, hml, hown, hts⟩ (c_m_depthOf l G y H.size m_tree ) (va_cwS 2 hts gX11_deepest_X11_depthOf rfl rfl rfl (by decide +kernel) ⟨Nat.le_of_ble_eq_true rfl, Nat.le_of_ble_eq_true rfl⟩) (nq_PS hK hP hD [1] rfl rfl) rfl rfl hl.1 rfl (lv_room (Nat.le_of_ble_eq_true rfl)) dX11_deepest_18 ⟨Nat.le_of_ble_eq_true rfl, Nat.le_of_ble_eq_true rfl⟩) hP hS hA (fun r_4 H locs hw_5 hP hS => ?_)
  subst hw_5
  refine va_mmax hx hb (by rw [hml]; exact hl.1.symm) hown (hts (.methodLink RX11 313 Lib.Math.max.name) (by decide +kernel)) (hts (.static Lib.Math.max.name) (by decide +kernel)) (hts (.initialized "java/lang/Math") (by decide +kernel)) (hts (.code Lib.Math.max.name Lib.Math.max.code 2 (some .int)) (by decide +kernel)) (Nat.le_of_ble_eq_true rfl) (Nat.le_of_ble_eq_true rfl) (Nat.zero_le _) (Nat.zero_le _) dX11_deepest_21 ?_
  refine nq_top (z := 0) (by decide) ?_
  refine lv_istore_n (lv' := [(1, .int 0), (2, .int 0), (0, .ref h0)]) hx hb dX11_deepest_24 rfl hl (by decide) rfl (fun ls hl => ?_)
  refine lv_iinc (v := 1) (lv' := [(2, .int 1), (1, .int 0), (0, .ref h0)]) hx hb dX11_deepest_25 hl (k := 1) rfl (by decide) (by decide) rfl (fun ls hl => ?_)
  refine lv_goto (tgt := 4) hx hb dX11_deepest_28 (by decide) ?_
  refine lv_iload_n hx hb dX11_deepest_4 rfl (lv_at hl 0 rfl) ?_
  refine lv_aload_n hx hb dX11_deepest_5 rfl (lv_at hl 2 rfl) ?_
  refine nq_rdi (va_runV (As := []) (rest := [.int 1]) ⟨hx, hb, hml, hown, hts⟩ (c_m_things l G y H.size h0 m_tree m_data m_made m_status m_tape m_paths m_pathSize m_set m_to m_lifted m_order m_past m_rowKind m_rowSteps m_rowPath m_rowWas m_rowIs m_pool m_rowsMany m_poolMany m_way m_out m_notedThing m_notedIs m_votes m_treeThen m_imageTree m_pastThen m_notedThingThen m_notedIsThen m_statusThen ) (cwV 0 hts gX11_deepest_X11_things rfl rfl rfl (by decide +kernel) ⟨Nat.le_of_ble_eq_true rfl, Nat.le_of_ble_eq_true rfl⟩) (nq_PV hK hP hD [0, 1] rfl rfl 0 rfl rfl) rfl rfl hl.1 rfl (lv_room (Nat.le_of_ble_eq_true rfl)) dX11_deepest_6 ⟨Nat.le_of_ble_eq_true rfl, Nat.le_of_ble_eq_true rfl⟩) hP hS hA (fun r_6 H locs hw_7 hP hS => ?_)
  subst hw_7
  refine lv_icmp_ge (tgt := 31) hx hb dX11_deepest_9 (by decide) (fun _ => ?_) (fun c_8 => absurd c_8 (by decide))
  refine lv_iload_n hx hb dX11_deepest_31 rfl (lv_at hl 1 rfl) ?_
  refine W.widen (k := 0) (n := 0) (Nat.le_of_ble_eq_true rfl) (Nat.le_of_ble_eq_true rfl) ?_
  exact W.iret (v := 0) hx hb hr (fun t ht hW => ⟨⟨0, (), rfl, rfl, trivial⟩, hS.F ht⟩) hS.2.2 dX11_deepest_32

set_option maxHeartbeats 4000000 in
set_option maxRecDepth 100000 in
theorem c_m_unlike (l : Launch) (G : va_G) (y : Nat → ClassId) (sz : Nat) (h0 : Nat) (m_tree : Nat) (m_data : Nat) (m_made : Nat) (m_status : Nat) (m_tape : Nat) (m_paths : Nat) (m_pathSize : Nat) (m_set : Nat) (m_to : Nat) (m_lifted : Nat) (m_order : Nat) (m_past : Nat) (m_rowKind : Nat) (m_rowSteps : Nat) (m_rowPath : Nat) (m_rowWas : Nat) (m_rowIs : Nat) (m_pool : Nat) (m_rowsMany : Nat) (m_poolMany : Nat) (m_way : Nat) (m_out : Nat) (m_notedThing : Nat) (m_notedIs : Nat) (m_votes : Nat) (m_treeThen : Nat) (m_imageTree : Nat) (m_pastThen : Nat) (m_notedThingThen : Nat) (m_notedIsThen : Nat) (m_statusThen : Nat)  : Met l yX11_unlike wsX11_unlike ({ frames := 1, cells := 0, slots := 0, locals := 20 }) (nq_P G y sz [.ref h0] [(h0, .inr (11, [.int 0, .ref m_tree, .ref m_data, .ref m_made, .ref m_status, .int 0, .ref m_tape, .ref m_paths, .ref m_pathSize, .null, .int 0, .int 0, .int 0, .int 0, .int 0, .int 0, .int 0, .int 0, .int 0, .int 0, .int 0, .int (-1), .int 0, .ref m_set, .ref m_to, .int 0, .int 0, .int 0, .int 0, .int 0, .int 0, .ref m_lifted, .int 0, .int 0, .int 0, .ref m_order, .int 0, .ref m_past, .int 0, .ref m_rowKind, .ref m_rowSteps, .ref m_rowPath, .ref m_rowWas, .ref m_rowIs, .ref m_pool, .ref m_rowsMany, .ref m_poolMany, .ref m_way, .int 0, .ref m_out, .int 0, .int 0, .ref m_notedThing, .ref m_notedIs, .ref m_votes, .int 0, .int 0, .ref m_treeThen, .int 0, .int 0, .int 0, .ref m_imageTree, .ref m_pastThen, .ref m_notedThingThen, .ref m_notedIsThen, .ref m_statusThen])), (m_tree, .inl (y 0, 240, .inl (upd (upd (fun _ => 0) 0 3) 3 1)))]) (va_Qi (fun (r : Int32) (_ : Unit) => r = 1) (fun _ _ => True) (va_A [] sz)) 0 0 (va_A [] sz) := by
  refine Met.ofW (cc := cX11_unlike) (maxL := 5) (ret := (some .int)) (by decide) rfl ?_
  intro p e s m args below meth c s₁ B hml hv
  obtain ⟨rfl, hsz, hP, hK, hD0⟩ := hv
  have hx := B.exec
  have hb := B.bytes
  have hr := B.returns
  have hts := atoms_spec (ws := wsX11_unlike) B.pre
  have hown : s.vm.findClass RX11 = some m.cls := findClass_of_methodNamed B.named
  have hlocks := B.notSynchronized
  subst hsz
  have hD := hD0
  have hA : ∀ q : Nat, s.heap.size ≤ q → va_A [] s.heap.size q := fun q h => Or.inr h
  have hS : va_S (va_A [] s.heap.size) s.heap s.heap [] := va_S.rf
  have hP : va_P G vwCl [(h0, .inr (11, [.int 0, .ref m_tree, .ref m_data, .ref m_made, .ref m_status, .int 0, .ref m_tape, .ref m_paths, .ref m_pathSize, .null, .int 0, .int 0, .int 0, .int 0, .int 0, .int 0, .int 0, .int 0, .int 0, .int 0, .int 0, .int (-1), .int 0, .ref m_set, .ref m_to, .int 0, .int 0, .int 0, .int 0, .int 0, .int 0, .ref m_lifted, .int 0, .int 0, .int 0, .ref m_order, .int 0, .ref m_past, .int 0, .ref m_rowKind, .ref m_rowSteps, .ref m_rowPath, .ref m_rowWas, .ref m_rowIs, .ref m_pool, .ref m_rowsMany, .ref m_poolMany, .ref m_way, .int 0, .ref m_out, .int 0, .int 0, .ref m_notedThing, .ref m_notedIs, .ref m_votes, .int 0, .int 0, .ref m_treeThen, .int 0, .int 0, .int 0, .ref m_imageTree, .ref m_pastThen, .ref m_notedThingThen, .ref m_notedIsThen, .ref m_statusThen])), (m_tree, .inl (y 0, 240, .inl (upd (upd (fun _ => 0) 0 3) 3 1)))] s.heap := hP
  have hl := lv_entry ([.ref h0]) (n := 5) (Nat.le_of_ble_eq_true rfl)
  rw [lg_entry_eq]
  generalize (lg_sl ([.ref h0]) ++ List.replicate (5 - (lg_sl ([.ref h0])).length) Slot.unset).toArray = ls at hl ⊢
  have hl : lv_has ls 5 [(0, .ref h0)] := hl
  refine lv_iconst (v := 0) hx hb dX11_unlike_0 (by decide) ?_
  refine lv_istore_n (lv' := [(1, .int 0), (0, .ref h0)]) hx hb dX11_unlike_1 rfl hl (by decide) rfl (fun ls hl => ?_)
  refine lv_iconst (v := 0) hx hb dX11_unlike_2 (by decide) ?_
  refine lv_istore_n (lv' := [(2, .int 0), (1, .int 0), (0, .ref h0)]) hx hb dX11_unlike_3 rfl hl (by decide) rfl (fun ls hl => ?_)
  refine lv_iload_n hx hb dX11_unlike_4 rfl (lv_at hl 0 rfl) ?_
  refine lv_aload_n hx hb dX11_unlike_5 rfl (lv_at hl 2 rfl) ?_
  refine nq_rdi (va_runV (As := []) (rest := [.int 0]) ⟨hx, hb, hml, hown, hts⟩ (c_m_things l G y s.heap.size h0 m_tree m_data m_made m_status m_tape m_paths m_pathSize m_set m_to m_lifted m_order m_past m_rowKind m_rowSteps m_rowPath m_rowWas m_rowIs m_pool m_rowsMany m_poolMany m_way m_out m_notedThing m_notedIs m_votes m_treeThen m_imageTree m_pastThen m_notedThingThen m_notedIsThen m_statusThen ) (cwV 0 hts gX11_unlike_X11_things rfl rfl rfl (by decide +kernel) ⟨Nat.le_of_ble_eq_true rfl, Nat.le_of_ble_eq_true rfl⟩) (nq_PV hK hP hD [0, 1] rfl rfl 0 rfl rfl) rfl rfl hl.1 rfl (lv_room (Nat.le_of_ble_eq_true rfl)) dX11_unlike_6 ⟨Nat.le_of_ble_eq_true rfl, Nat.le_of_ble_eq_true rfl⟩) hP hS hA (fun r_1 H locs hw_2 hP hS => ?_)
  subst hw_2
  refine lv_icmp_ge (tgt := 74) hx hb dX11_unlike_9 (by decide) (fun c_3 => absurd c_3 (by decide)) (fun _ => ?_)
  refine lv_iconst (v := 1) hx hb dX11_unlike_12 (by decide) ?_
  refine lv_istore_n (lv' := [(3, .int 1), (2, .int 0), (1, .int 0), (0, .ref h0)]) hx hb dX11_unlike_13 rfl hl (by decide) rfl (fun ls hl => ?_)
  refine lv_iconst (v := 0) hx hb dX11_unlike_14 (by decide) ?_
  refine lv_istore (lv' := [(4, .int 0), (3, .int 1), (2, .int 0), (1, .int 0), (0, .ref h0)]) hx hb dX11_unlike_15 hl (by decide) rfl (fun ls hl => ?_)
  refine lv_iload hx hb dX11_unlike_17 (lv_at hl 0 rfl) ?_
  refine lv_iload_n hx hb dX11_unlike_19 rfl (lv_at hl 2 rfl) ?_
  refine lv_icmp_ge (tgt := 56) hx hb dX11_unlike_20 (by decide) (fun _ => ?_) (fun c_4 => absurd c_4 (by decide))
  refine lv_iload_n hx hb dX11_unlike_56 rfl (lv_at hl 3 rfl) ?_
  refine lv_iload_n hx hb dX11_unlike_57 rfl (lv_at hl 1 rfl) ?_
  refine lv_if_eq (tgt := 65) hx hb dX11_unlike_58 (by decide) (fun c_5 => absurd c_5 (by decide)) (fun _ => ?_)
  refine lv_iconst (v := 1) hx hb dX11_unlike_61 (by decide) ?_
  refine lv_goto (tgt := 66) hx hb dX11_unlike_62 (by decide) ?_
  refine lv_iadd hx hb dX11_unlike_66 ?_
  refine nq_top (z := 1) (by decide) ?_
  refine lv_istore_n (lv' := [(1, .int 1), (4, .int 0), (3, .int 1), (2, .int 0), (0, .ref h0)]) hx hb dX11_unlike_67 rfl hl (by decide) rfl (fun ls hl => ?_)
  refine lv_iinc (v := 1) (lv' := [(2, .int 1), (1, .int 1), (4, .int 0), (3, .int 1), (0, .ref h0)]) hx hb dX11_unlike_68 hl (k := 3) rfl (by decide) (by decide) rfl (fun ls hl => ?_)
  refine lv_goto (tgt := 4) hx hb dX11_unlike_71 (by decide) ?_
  refine lv_iload_n hx hb dX11_unlike_4 rfl (lv_at hl 0 rfl) ?_
  refine lv_aload_n hx hb dX11_unlike_5 rfl (lv_at hl 4 rfl) ?_
  refine nq_rdi (va_runV (As := []) (rest := [.int 1]) ⟨hx, hb, hml, hown, hts⟩ (c_m_things l G y H.size h0 m_tree m_data m_made m_status m_tape m_paths m_pathSize m_set m_to m_lifted m_order m_past m_rowKind m_rowSteps m_rowPath m_rowWas m_rowIs m_pool m_rowsMany m_poolMany m_way m_out m_notedThing m_notedIs m_votes m_treeThen m_imageTree m_pastThen m_notedThingThen m_notedIsThen m_statusThen ) (cwV 0 hts gX11_unlike_X11_things rfl rfl rfl (by decide +kernel) ⟨Nat.le_of_ble_eq_true rfl, Nat.le_of_ble_eq_true rfl⟩) (nq_PV hK hP hD [0, 1] rfl rfl 0 rfl rfl) rfl rfl hl.1 rfl (lv_room (Nat.le_of_ble_eq_true rfl)) dX11_unlike_6 ⟨Nat.le_of_ble_eq_true rfl, Nat.le_of_ble_eq_true rfl⟩) hP hS hA (fun r_6 H locs hw_7 hP hS => ?_)
  subst hw_7
  refine lv_icmp_ge (tgt := 74) hx hb dX11_unlike_9 (by decide) (fun _ => ?_) (fun c_8 => absurd c_8 (by decide))
  refine lv_iload_n hx hb dX11_unlike_74 rfl (lv_at hl 1 rfl) ?_
  refine W.widen (k := 0) (n := 0) (Nat.le_of_ble_eq_true rfl) (Nat.le_of_ble_eq_true rfl) ?_
  exact W.iret (v := 1) hx hb hr (fun t ht hW => ⟨⟨1, (), rfl, rfl, trivial⟩, hS.F ht⟩) hS.2.2 dX11_unlike_75

set_option maxHeartbeats 4000000 in
set_option maxRecDepth 100000 in
theorem c_m_twinsOf (l : Launch) (G : va_G) (y : Nat → ClassId) (sz : Nat) (h0 : Nat) (m_tree : Nat) (m_data : Nat) (m_made : Nat) (m_status : Nat) (m_tape : Nat) (m_paths : Nat) (m_pathSize : Nat) (m_set : Nat) (m_to : Nat) (m_lifted : Nat) (m_order : Nat) (m_past : Nat) (m_rowKind : Nat) (m_rowSteps : Nat) (m_rowPath : Nat) (m_rowWas : Nat) (m_rowIs : Nat) (m_pool : Nat) (m_rowsMany : Nat) (m_poolMany : Nat) (m_way : Nat) (m_out : Nat) (m_notedThing : Nat) (m_notedIs : Nat) (m_votes : Nat) (m_treeThen : Nat) (m_imageTree : Nat) (m_pastThen : Nat) (m_notedThingThen : Nat) (m_notedIsThen : Nat) (m_statusThen : Nat)  : Met l yX11_twinsOf wsX11_twinsOf ({ frames := 1, cells := 0, slots := 0, locals := 20 }) (nq_P G y sz [.ref h0, .int 0] [(h0, .inr (11, [.int 0, .ref m_tree, .ref m_data, .ref m_made, .ref m_status, .int 0, .ref m_tape, .ref m_paths, .ref m_pathSize, .null, .int 0, .int 0, .int 0, .int 0, .int 0, .int 0, .int 0, .int 0, .int 0, .int 0, .int 0, .int (-1), .int 0, .ref m_set, .ref m_to, .int 0, .int 0, .int 0, .int 0, .int 0, .int 0, .ref m_lifted, .int 0, .int 0, .int 0, .ref m_order, .int 0, .ref m_past, .int 0, .ref m_rowKind, .ref m_rowSteps, .ref m_rowPath, .ref m_rowWas, .ref m_rowIs, .ref m_pool, .ref m_rowsMany, .ref m_poolMany, .ref m_way, .int 0, .ref m_out, .int 0, .int 0, .ref m_notedThing, .ref m_notedIs, .ref m_votes, .int 0, .int 0, .ref m_treeThen, .int 0, .int 0, .int 0, .ref m_imageTree, .ref m_pastThen, .ref m_notedThingThen, .ref m_notedIsThen, .ref m_statusThen])), (m_tree, .inl (y 0, 240, .inl (upd (upd (fun _ => 0) 0 3) 3 1)))]) (va_Qi (fun (r : Int32) (_ : Unit) => r = 0) (fun _ _ => True) (va_A [] sz)) 0 0 (va_A [] sz) := by
  refine Met.ofW (cc := cX11_twinsOf) (maxL := 4) (ret := (some .int)) (by decide) rfl ?_
  intro p e s m args below meth c s₁ B hml hv
  obtain ⟨rfl, hsz, hP, hK, hD0⟩ := hv
  have hx := B.exec
  have hb := B.bytes
  have hr := B.returns
  have hts := atoms_spec (ws := wsX11_twinsOf) B.pre
  have hown : s.vm.findClass RX11 = some m.cls := findClass_of_methodNamed B.named
  have hlocks := B.notSynchronized
  subst hsz
  have hD := hD0
  have hA : ∀ q : Nat, s.heap.size ≤ q → va_A [] s.heap.size q := fun q h => Or.inr h
  have hS : va_S (va_A [] s.heap.size) s.heap s.heap [] := va_S.rf
  have hP : va_P G vwCl [(h0, .inr (11, [.int 0, .ref m_tree, .ref m_data, .ref m_made, .ref m_status, .int 0, .ref m_tape, .ref m_paths, .ref m_pathSize, .null, .int 0, .int 0, .int 0, .int 0, .int 0, .int 0, .int 0, .int 0, .int 0, .int 0, .int 0, .int (-1), .int 0, .ref m_set, .ref m_to, .int 0, .int 0, .int 0, .int 0, .int 0, .int 0, .ref m_lifted, .int 0, .int 0, .int 0, .ref m_order, .int 0, .ref m_past, .int 0, .ref m_rowKind, .ref m_rowSteps, .ref m_rowPath, .ref m_rowWas, .ref m_rowIs, .ref m_pool, .ref m_rowsMany, .ref m_poolMany, .ref m_way, .int 0, .ref m_out, .int 0, .int 0, .ref m_notedThing, .ref m_notedIs, .ref m_votes, .int 0, .int 0, .ref m_treeThen, .int 0, .int 0, .int 0, .ref m_imageTree, .ref m_pastThen, .ref m_notedThingThen, .ref m_notedIsThen, .ref m_statusThen])), (m_tree, .inl (y 0, 240, .inl (upd (upd (fun _ => 0) 0 3) 3 1)))] s.heap := hP
  have hl := lv_entry ([.ref h0, .int 0]) (n := 4) (Nat.le_of_ble_eq_true rfl)
  rw [lg_entry_eq]
  generalize (lg_sl ([.ref h0, .int 0]) ++ List.replicate (4 - (lg_sl ([.ref h0, .int 0])).length) Slot.unset).toArray = ls at hl ⊢
  have hl : lv_has ls 4 [(0, .ref h0), (1, .int 0)] := hl
  refine lv_iconst (v := 0) hx hb dX11_twinsOf_0 (by decide) ?_
  refine lv_istore_n (lv' := [(2, .int 0), (0, .ref h0), (1, .int 0)]) hx hb dX11_twinsOf_1 rfl hl (by decide) rfl (fun ls hl => ?_)
  refine lv_iconst (v := 0) hx hb dX11_twinsOf_2 (by decide) ?_
  refine lv_istore_n (lv' := [(3, .int 0), (2, .int 0), (0, .ref h0), (1, .int 0)]) hx hb dX11_twinsOf_3 rfl hl (by decide) rfl (fun ls hl => ?_)
  refine lv_iload_n hx hb dX11_twinsOf_4 rfl (lv_at hl 0 rfl) ?_
  refine lv_aload_n hx hb dX11_twinsOf_5 rfl (lv_at hl 2 rfl) ?_
  refine nq_rdi (va_runV (As := []) (rest := [.int 0]) ⟨hx, hb, hml, hown, hts⟩ (c_m_things l G y s.heap.size h0 m_tree m_data m_made m_status m_tape m_paths m_pathSize m_set m_to m_lifted m_order m_past m_rowKind m_rowSteps m_rowPath m_rowWas m_rowIs m_pool m_rowsMany m_poolMany m_way m_out m_notedThing m_notedIs m_votes m_treeThen m_imageTree m_pastThen m_notedThingThen m_notedIsThen m_statusThen ) (cwV 0 hts gX11_twinsOf_X11_things rfl rfl rfl (by decide +kernel) ⟨Nat.le_of_ble_eq_true rfl, Nat.le_of_ble_eq_true rfl⟩) (nq_PV hK hP hD [0, 1] rfl rfl 0 rfl rfl) rfl rfl hl.1 rfl (lv_room (Nat.le_of_ble_eq_true rfl)) dX11_twinsOf_6 ⟨Nat.le_of_ble_eq_true rfl, Nat.le_of_ble_eq_true rfl⟩) hP hS hA (fun r_1 H locs hw_2 hP hS => ?_)
  subst hw_2
  refine lv_icmp_ge (tgt := 47) hx hb dX11_twinsOf_9 (by decide) (fun c_3 => absurd c_3 (by decide)) (fun _ => ?_)
  refine lv_iload_n hx hb dX11_twinsOf_12 rfl (lv_at hl 1 rfl) ?_
  refine lv_iload_n hx hb dX11_twinsOf_13 rfl (lv_at hl 0 rfl) ?_
  refine lv_iload_n hx hb dX11_twinsOf_14 rfl (lv_at hl 3 rfl) ?_
  refine lv_icmp_eq (tgt := 38) hx hb dX11_twinsOf_15 (by decide) (fun _ => ?_) (fun c_4 => absurd c_4 (by decide))
  refine lv_iconst (v := 0) hx hb dX11_twinsOf_38 (by decide) ?_
  refine lv_iadd hx hb dX11_twinsOf_39 ?_
  refine nq_top (z := 0) (by decide) ?_
  refine lv_istore_n (lv' := [(2, .int 0), (3, .int 0), (0, .ref h0), (1, .int 0)]) hx hb dX11_twinsOf_40 rfl hl (by decide) rfl (fun ls hl => ?_)
  refine lv_iinc (v := 1) (lv' := [(3, .int 1), (2, .int 0), (0, .ref h0), (1, .int 0)]) hx hb dX11_twinsOf_41 hl (k := 1) rfl (by decide) (by decide) rfl (fun ls hl => ?_)
  refine lv_goto (tgt := 4) hx hb dX11_twinsOf_44 (by decide) ?_
  refine lv_iload_n hx hb dX11_twinsOf_4 rfl (lv_at hl 0 rfl) ?_
  refine lv_aload_n hx hb dX11_twinsOf_5 rfl (lv_at hl 2 rfl) ?_
  refine nq_rdi (va_runV (As := []) (rest := [.int 1]) ⟨hx, hb, hml, hown, hts⟩ (c_m_things l G y H.size h0 m_tree m_data m_made m_status m_tape m_paths m_pathSize m_set m_to m_lifted m_order m_past m_rowKind m_rowSteps m_rowPath m_rowWas m_rowIs m_pool m_rowsMany m_poolMany m_way m_out m_notedThing m_notedIs m_votes m_treeThen m_imageTree m_pastThen m_notedThingThen m_notedIsThen m_statusThen ) (cwV 0 hts gX11_twinsOf_X11_things rfl rfl rfl (by decide +kernel) ⟨Nat.le_of_ble_eq_true rfl, Nat.le_of_ble_eq_true rfl⟩) (nq_PV hK hP hD [0, 1] rfl rfl 0 rfl rfl) rfl rfl hl.1 rfl (lv_room (Nat.le_of_ble_eq_true rfl)) dX11_twinsOf_6 ⟨Nat.le_of_ble_eq_true rfl, Nat.le_of_ble_eq_true rfl⟩) hP hS hA (fun r_5 H locs hw_6 hP hS => ?_)
  subst hw_6
  refine lv_icmp_ge (tgt := 47) hx hb dX11_twinsOf_9 (by decide) (fun _ => ?_) (fun c_7 => absurd c_7 (by decide))
  refine lv_iload_n hx hb dX11_twinsOf_47 rfl (lv_at hl 1 rfl) ?_
  refine W.widen (k := 0) (n := 0) (Nat.le_of_ble_eq_true rfl) (Nat.le_of_ble_eq_true rfl) ?_
  exact W.iret (v := 0) hx hb hr (fun t ht hW => ⟨⟨0, (), rfl, rfl, trivial⟩, hS.F ht⟩) hS.2.2 dX11_twinsOf_48

set_option maxHeartbeats 4000000 in
set_option maxRecDepth 100000 in
theorem c_m_answers (l : Launch) (G : va_G) (y : Nat → ClassId) (sz : Nat) (h0 : Nat) (m_tree : Nat) (m_data : Nat) (m_made : Nat) (m_status : Nat) (m_tape : Nat) (m_paths : Nat) (m_pathSize : Nat) (m_set : Nat) (m_to : Nat) (m_lifted : Nat) (m_order : Nat) (m_past : Nat) (m_rowKind : Nat) (m_rowSteps : Nat) (m_rowPath : Nat) (m_rowWas : Nat) (m_rowIs : Nat) (m_pool : Nat) (m_rowsMany : Nat) (m_poolMany : Nat) (m_way : Nat) (m_out : Nat) (m_notedThing : Nat) (m_notedIs : Nat) (m_votes : Nat) (m_treeThen : Nat) (m_imageTree : Nat) (m_pastThen : Nat) (m_notedThingThen : Nat) (m_notedIsThen : Nat) (m_statusThen : Nat)  : Met l yX11_answers wsX11_answers ({ frames := 2, cells := 0, slots := 0, locals := 43 }) (nq_P G y sz [.ref h0, .int 0] [(h0, .inr (11, [.int 0, .ref m_tree, .ref m_data, .ref m_made, .ref m_status, .int 0, .ref m_tape, .ref m_paths, .ref m_pathSize, .null, .int 0, .int 0, .int 0, .int 0, .int 0, .int 0, .int 0, .int 0, .int 0, .int 0, .int 0, .int (-1), .int 0, .ref m_set, .ref m_to, .int 0, .int 0, .int 0, .int 0, .int 0, .int 0, .ref m_lifted, .int 0, .int 0, .int 0, .ref m_order, .int 0, .ref m_past, .int 0, .ref m_rowKind, .ref m_rowSteps, .ref m_rowPath, .ref m_rowWas, .ref m_rowIs, .ref m_pool, .ref m_rowsMany, .ref m_poolMany, .ref m_way, .int 0, .ref m_out, .int 0, .int 0, .ref m_notedThing, .ref m_notedIs, .ref m_votes, .int 0, .int 0, .ref m_treeThen, .int 0, .int 0, .int 0, .ref m_imageTree, .ref m_pastThen, .ref m_notedThingThen, .ref m_notedIsThen, .ref m_statusThen])), (m_pathSize, .inl (y 0, 4, .inl (fun _ => 0)))]) (va_Qi (fun (r : Int32) (_ : Unit) => r = 0) (fun _ _ => True) (va_A [] sz)) 0 0 (va_A [] sz) := by
  refine Met.ofW (cc := cX11_answers) (maxL := 4) (ret := (some .int)) (by decide) rfl ?_
  intro p e s m args below meth c s₁ B hml hv
  obtain ⟨rfl, hsz, hP, hK, hD0⟩ := hv
  have hx := B.exec
  have hb := B.bytes
  have hr := B.returns
  have hts := atoms_spec (ws := wsX11_answers) B.pre
  have hown : s.vm.findClass RX11 = some m.cls := findClass_of_methodNamed B.named
  have hlocks := B.notSynchronized
  subst hsz
  have hD := hD0
  have hA : ∀ q : Nat, s.heap.size ≤ q → va_A [] s.heap.size q := fun q h => Or.inr h
  have hS : va_S (va_A [] s.heap.size) s.heap s.heap [] := va_S.rf
  have hP : va_P G vwCl [(h0, .inr (11, [.int 0, .ref m_tree, .ref m_data, .ref m_made, .ref m_status, .int 0, .ref m_tape, .ref m_paths, .ref m_pathSize, .null, .int 0, .int 0, .int 0, .int 0, .int 0, .int 0, .int 0, .int 0, .int 0, .int 0, .int 0, .int (-1), .int 0, .ref m_set, .ref m_to, .int 0, .int 0, .int 0, .int 0, .int 0, .int 0, .ref m_lifted, .int 0, .int 0, .int 0, .ref m_order, .int 0, .ref m_past, .int 0, .ref m_rowKind, .ref m_rowSteps, .ref m_rowPath, .ref m_rowWas, .ref m_rowIs, .ref m_pool, .ref m_rowsMany, .ref m_poolMany, .ref m_way, .int 0, .ref m_out, .int 0, .int 0, .ref m_notedThing, .ref m_notedIs, .ref m_votes, .int 0, .int 0, .ref m_treeThen, .int 0, .int 0, .int 0, .ref m_imageTree, .ref m_pastThen, .ref m_notedThingThen, .ref m_notedIsThen, .ref m_statusThen])), (m_pathSize, .inl (y 0, 4, .inl (fun _ => 0)))] s.heap := hP
  have hl := lv_entry ([.ref h0, .int 0]) (n := 4) (Nat.le_of_ble_eq_true rfl)
  rw [lg_entry_eq]
  generalize (lg_sl ([.ref h0, .int 0]) ++ List.replicate (4 - (lg_sl ([.ref h0, .int 0])).length) Slot.unset).toArray = ls at hl ⊢
  have hl : lv_has ls 4 [(0, .ref h0), (1, .int 0)] := hl
  refine lv_iconst (v := 0) hx hb dX11_answers_0 (by decide) ?_
  refine lv_istore_n (lv' := [(2, .int 0), (0, .ref h0), (1, .int 0)]) hx hb dX11_answers_1 rfl hl (by decide) rfl (fun ls hl => ?_)
  refine lv_iconst (v := 0) hx hb dX11_answers_2 (by decide) ?_
  refine lv_istore_n (lv' := [(3, .int 0), (2, .int 0), (0, .ref h0), (1, .int 0)]) hx hb dX11_answers_3 rfl hl (by decide) rfl (fun ls hl => ?_)
  refine lv_iload_n hx hb dX11_answers_4 rfl (lv_at hl 0 rfl) ?_
  refine lv_iconst (v := 4) hx hb dX11_answers_5 (by decide) ?_
  refine lv_icmp_ge (tgt := 49) hx hb dX11_answers_6 (by decide) (fun c_1 => absurd c_1 (by decide)) (fun _ => ?_)
  refine lv_aload_n hx hb dX11_answers_9 rfl (lv_at hl 2 rfl) ?_
  refine lv_iload_n hx hb dX11_answers_10 rfl (lv_at hl 0 rfl) ?_
  refine nq_rdi (va_runV (As := [.int 0]) (rest := []) ⟨hx, hb, hml, hown, hts⟩ (c_m_isPath l G y s.heap.size h0 m_tree m_data m_made m_status m_tape m_paths m_pathSize m_set m_to m_lifted m_order m_past m_rowKind m_rowSteps m_rowPath m_rowWas m_rowIs m_pool m_rowsMany m_poolMany m_way m_out m_notedThing m_notedIs m_votes m_treeThen m_imageTree m_pastThen m_notedThingThen m_notedIsThen m_statusThen 0 ) (cwV 1 hts gX11_answers_X11_isPath rfl rfl rfl (by decide +kernel) ⟨Nat.le_of_ble_eq_true rfl, Nat.le_of_ble_eq_true rfl⟩) (nq_PV hK hP hD [0, 1] rfl rfl 0 rfl rfl) rfl rfl hl.1 rfl (lv_room (Nat.le_of_ble_eq_true rfl)) dX11_answers_11 ⟨Nat.le_of_ble_eq_true rfl, Nat.le_of_ble_eq_true rfl⟩) hP hS hA (fun r_2 H locs hw_3 hP hS => ?_)
  subst hw_3
  refine lv_if_ne (tgt := 20) hx hb dX11_answers_14 (by decide) (fun c_4 => absurd c_4 (by decide)) (fun _ => ?_)
  refine lv_goto (tgt := 43) hx hb dX11_answers_17 (by decide) ?_
  refine lv_iinc (v := 1) (lv' := [(3, .int 1), (2, .int 0), (0, .ref h0), (1, .int 0)]) hx hb dX11_answers_43 hl (k := 0) rfl (by decide) (by decide) rfl (fun ls hl => ?_)
  refine lv_goto (tgt := 4) hx hb dX11_answers_46 (by decide) ?_
  refine lv_iload_n hx hb dX11_answers_4 rfl (lv_at hl 0 rfl) ?_
  refine lv_iconst (v := 4) hx hb dX11_answers_5 (by decide) ?_
  refine lv_icmp_ge (tgt := 49) hx hb dX11_answers_6 (by decide) (fun c_5 => absurd c_5 (by decide)) (fun _ => ?_)
  refine lv_aload_n hx hb dX11_answers_9 rfl (lv_at hl 2 rfl) ?_
  refine lv_iload_n hx hb dX11_answers_10 rfl (lv_at hl 0 rfl) ?_
  refine nq_rdi (va_runV (As := [.int 1]) (rest := []) ⟨hx, hb, hml, hown, hts⟩ (c_m_isPath l G y H.size h0 m_tree m_data m_made m_status m_tape m_paths m_pathSize m_set m_to m_lifted m_order m_past m_rowKind m_rowSteps m_rowPath m_rowWas m_rowIs m_pool m_rowsMany m_poolMany m_way m_out m_notedThing m_notedIs m_votes m_treeThen m_imageTree m_pastThen m_notedThingThen m_notedIsThen m_statusThen 1 ) (cwV 1 hts gX11_answers_X11_isPath rfl rfl rfl (by decide +kernel) ⟨Nat.le_of_ble_eq_true rfl, Nat.le_of_ble_eq_true rfl⟩) (nq_PV hK hP hD [0, 1] rfl rfl 0 rfl rfl) rfl rfl hl.1 rfl (lv_room (Nat.le_of_ble_eq_true rfl)) dX11_answers_11 ⟨Nat.le_of_ble_eq_true rfl, Nat.le_of_ble_eq_true rfl⟩) hP hS hA (fun r_6 H locs hw_7 hP hS => ?_)
  subst hw_7
  refine lv_if_ne (tgt := 20) hx hb dX11_answers_14 (by decide) (fun c_8 => absurd c_8 (by decide)) (fun _ => ?_)
  refine lv_goto (tgt := 43) hx hb dX11_answers_17 (by decide) ?_
  refine lv_iinc (v := 2) (lv' := [(3, .int 2), (2, .int 0), (0, .ref h0), (1, .int 0)]) hx hb dX11_answers_43 hl (k := 0) rfl (by decide) (by decide) rfl (fun ls hl => ?_)
  refine lv_goto (tgt := 4) hx hb dX11_answers_46 (by decide) ?_
  refine lv_iload_n hx hb dX11_answers_4 rfl (lv_at hl 0 rfl) ?_
  refine lv_iconst (v := 4) hx hb dX11_answers_5 (by decide) ?_
  refine lv_icmp_ge (tgt := 49) hx hb dX11_answers_6 (by decide) (fun c_9 => absurd c_9 (by decide)) (fun _ => ?_)
  refine lv_aload_n hx hb dX11_answers_9 rfl (lv_at hl 2 rfl) ?_
  refine lv_iload_n hx hb dX11_answers_10 rfl (lv_at hl 0 rfl) ?_
  refine nq_rdi (va_runV (As := [.int 2]) (rest := []) ⟨hx, hb, hml, hown, hts⟩ (c_m_isPath l G y H.size h0 m_tree m_data m_made m_status m_tape m_paths m_pathSize m_set m_to m_lifted m_order m_past m_rowKind m_rowSteps m_rowPath m_rowWas m_rowIs m_pool m_rowsMany m_poolMany m_way m_out m_notedThing m_notedIs m_votes m_treeThen m_imageTree m_pastThen m_notedThingThen m_notedIsThen m_statusThen 2 ) (cwV 1 hts gX11_answers_X11_isPath rfl rfl rfl (by decide +kernel) ⟨Nat.le_of_ble_eq_true rfl, Nat.le_of_ble_eq_true rfl⟩) (nq_PV hK hP hD [0, 1] rfl rfl 0 rfl rfl) rfl rfl hl.1 rfl (lv_room (Nat.le_of_ble_eq_true rfl)) dX11_answers_11 ⟨Nat.le_of_ble_eq_true rfl, Nat.le_of_ble_eq_true rfl⟩) hP hS hA (fun r_10 H locs hw_11 hP hS => ?_)
  subst hw_11
  refine lv_if_ne (tgt := 20) hx hb dX11_answers_14 (by decide) (fun c_12 => absurd c_12 (by decide)) (fun _ => ?_)
  refine lv_goto (tgt := 43) hx hb dX11_answers_17 (by decide) ?_
  refine lv_iinc (v := 3) (lv' := [(3, .int 3), (2, .int 0), (0, .ref h0), (1, .int 0)]) hx hb dX11_answers_43 hl (k := 0) rfl (by decide) (by decide) rfl (fun ls hl => ?_)
  refine lv_goto (tgt := 4) hx hb dX11_answers_46 (by decide) ?_
  refine lv_iload_n hx hb dX11_answers_4 rfl (lv_at hl 0 rfl) ?_
  refine lv_iconst (v := 4) hx hb dX11_answers_5 (by decide) ?_
  refine lv_icmp_ge (tgt := 49) hx hb dX11_answers_6 (by decide) (fun c_13 => absurd c_13 (by decide)) (fun _ => ?_)
  refine lv_aload_n hx hb dX11_answers_9 rfl (lv_at hl 2 rfl) ?_
  refine lv_iload_n hx hb dX11_answers_10 rfl (lv_at hl 0 rfl) ?_
  refine nq_rdi (va_runV (As := [.int 3]) (rest := []) ⟨hx, hb, hml, hown, hts⟩ (c_m_isPath l G y H.size h0 m_tree m_data m_made m_status m_tape m_paths m_pathSize m_set m_to m_lifted m_order m_past m_rowKind m_rowSteps m_rowPath m_rowWas m_rowIs m_pool m_rowsMany m_poolMany m_way m_out m_notedThing m_notedIs m_votes m_treeThen m_imageTree m_pastThen m_notedThingThen m_notedIsThen m_statusThen 3 ) (cwV 1 hts gX11_answers_X11_isPath rfl rfl rfl (by decide +kernel) ⟨Nat.le_of_ble_eq_true rfl, Nat.le_of_ble_eq_true rfl⟩) (nq_PV hK hP hD [0, 1] rfl rfl 0 rfl rfl) rfl rfl hl.1 rfl (lv_room (Nat.le_of_ble_eq_true rfl)) dX11_answers_11 ⟨Nat.le_of_ble_eq_true rfl, Nat.le_of_ble_eq_true rfl⟩) hP hS hA (fun r_14 H locs hw_15 hP hS => ?_)
  subst hw_15
  refine lv_if_ne (tgt := 20) hx hb dX11_answers_14 (by decide) (fun c_16 => absurd c_16 (by decide)) (fun _ => ?_)
  refine lv_goto (tgt := 43) hx hb dX11_answers_17 (by decide) ?_
  refine lv_iinc (v := 4) (lv' := [(3, .int 4), (2, .int 0), (0, .ref h0), (1, .int 0)]) hx hb dX11_answers_43 hl (k := 0) rfl (by decide) (by decide) rfl (fun ls hl => ?_)
  refine lv_goto (tgt := 4) hx hb dX11_answers_46 (by decide) ?_
  refine lv_iload_n hx hb dX11_answers_4 rfl (lv_at hl 0 rfl) ?_
  refine lv_iconst (v := 4) hx hb dX11_answers_5 (by decide) ?_
  refine lv_icmp_ge (tgt := 49) hx hb dX11_answers_6 (by decide) (fun _ => ?_) (fun c_17 => absurd c_17 (by decide))
  refine lv_iload_n hx hb dX11_answers_49 rfl (lv_at hl 1 rfl) ?_
  refine W.widen (k := 0) (n := 0) (Nat.le_of_ble_eq_true rfl) (Nat.le_of_ble_eq_true rfl) ?_
  exact W.iret (v := 0) hx hb hr (fun t ht hW => ⟨⟨0, (), rfl, rfl, trivial⟩, hS.F ht⟩) hS.2.2 dX11_answers_50

set_option maxHeartbeats 4000000 in
set_option maxRecDepth 100000 in
theorem c_m_pathSet (l : Launch) (G : va_G) (y : Nat → ClassId) (sz : Nat) (h0 : Nat) (m_tree : Nat) (m_data : Nat) (m_made : Nat) (m_status : Nat) (m_tape : Nat) (m_paths : Nat) (m_pathSize : Nat) (m_set : Nat) (m_to : Nat) (m_lifted : Nat) (m_order : Nat) (m_past : Nat) (m_rowKind : Nat) (m_rowSteps : Nat) (m_rowPath : Nat) (m_rowWas : Nat) (m_rowIs : Nat) (m_pool : Nat) (m_rowsMany : Nat) (m_poolMany : Nat) (m_way : Nat) (m_out : Nat) (m_notedThing : Nat) (m_notedIs : Nat) (m_votes : Nat) (m_treeThen : Nat) (m_imageTree : Nat) (m_pastThen : Nat) (m_notedThingThen : Nat) (m_notedIsThen : Nat) (m_statusThen : Nat)  : Met l yX11_pathSet wsX11_pathSet ({ frames := 2, cells := 0, slots := 0, locals := 43 }) (nq_P G y sz [.ref h0] [(h0, .inr (11, [.int 0, .ref m_tree, .ref m_data, .ref m_made, .ref m_status, .int 0, .ref m_tape, .ref m_paths, .ref m_pathSize, .null, .int 0, .int 0, .int 0, .int 0, .int 0, .int 0, .int 0, .int 0, .int 0, .int 0, .int 0, .int (-1), .int 0, .ref m_set, .ref m_to, .int 0, .int 0, .int 0, .int 0, .int 0, .int 0, .ref m_lifted, .int 0, .int 0, .int 0, .ref m_order, .int 0, .ref m_past, .int 0, .ref m_rowKind, .ref m_rowSteps, .ref m_rowPath, .ref m_rowWas, .ref m_rowIs, .ref m_pool, .ref m_rowsMany, .ref m_poolMany, .ref m_way, .int 0, .ref m_out, .int 0, .int 0, .ref m_notedThing, .ref m_notedIs, .ref m_votes, .int 0, .int 0, .ref m_treeThen, .int 0, .int 0, .int 0, .ref m_imageTree, .ref m_pastThen, .ref m_notedThingThen, .ref m_notedIsThen, .ref m_statusThen])), (m_pathSize, .inl (y 0, 4, .inl (fun _ => 0)))]) (va_Qi (fun (r : Int32) (_ : Unit) => r = 0) (fun _ _ => True) (va_A [] sz)) 0 0 (va_A [] sz) := by
  refine Met.ofW (cc := cX11_pathSet) (maxL := 3) (ret := (some .int)) (by decide) rfl ?_
  intro p e s m args below meth c s₁ B hml hv
  obtain ⟨rfl, hsz, hP, hK, hD0⟩ := hv
  have hx := B.exec
  have hb := B.bytes
  have hr := B.returns
  have hts := atoms_spec (ws := wsX11_pathSet) B.pre
  have hown : s.vm.findClass RX11 = some m.cls := findClass_of_methodNamed B.named
  have hlocks := B.notSynchronized
  subst hsz
  have hD := hD0
  have hA : ∀ q : Nat, s.heap.size ≤ q → va_A [] s.heap.size q := fun q h => Or.inr h
  have hS : va_S (va_A [] s.heap.size) s.heap s.heap [] := va_S.rf
  have hP : va_P G vwCl [(h0, .inr (11, [.int 0, .ref m_tree, .ref m_data, .ref m_made, .ref m_status, .int 0, .ref m_tape, .ref m_paths, .ref m_pathSize, .null, .int 0, .int 0, .int 0, .int 0, .int 0, .int 0, .int 0, .int 0, .int 0, .int 0, .int 0, .int (-1), .int 0, .ref m_set, .ref m_to, .int 0, .int 0, .int 0, .int 0, .int 0, .int 0, .ref m_lifted, .int 0, .int 0, .int 0, .ref m_order, .int 0, .ref m_past, .int 0, .ref m_rowKind, .ref m_rowSteps, .ref m_rowPath, .ref m_rowWas, .ref m_rowIs, .ref m_pool, .ref m_rowsMany, .ref m_poolMany, .ref m_way, .int 0, .ref m_out, .int 0, .int 0, .ref m_notedThing, .ref m_notedIs, .ref m_votes, .int 0, .int 0, .ref m_treeThen, .int 0, .int 0, .int 0, .ref m_imageTree, .ref m_pastThen, .ref m_notedThingThen, .ref m_notedIsThen, .ref m_statusThen])), (m_pathSize, .inl (y 0, 4, .inl (fun _ => 0)))] s.heap := hP
  have hl := lv_entry ([.ref h0]) (n := 3) (Nat.le_of_ble_eq_true rfl)
  rw [lg_entry_eq]
  generalize (lg_sl ([.ref h0]) ++ List.replicate (3 - (lg_sl ([.ref h0])).length) Slot.unset).toArray = ls at hl ⊢
  have hl : lv_has ls 3 [(0, .ref h0)] := hl
  refine lv_iconst (v := 0) hx hb dX11_pathSet_0 (by decide) ?_
  refine lv_istore_n (lv' := [(1, .int 0), (0, .ref h0)]) hx hb dX11_pathSet_1 rfl hl (by decide) rfl (fun ls hl => ?_)
  refine lv_iconst (v := 0) hx hb dX11_pathSet_2 (by decide) ?_
  refine lv_istore_n (lv' := [(2, .int 0), (1, .int 0), (0, .ref h0)]) hx hb dX11_pathSet_3 rfl hl (by decide) rfl (fun ls hl => ?_)
  refine lv_iload_n hx hb dX11_pathSet_4 rfl (lv_at hl 0 rfl) ?_
  refine lv_iconst (v := 4) hx hb dX11_pathSet_5 (by decide) ?_
  refine lv_icmp_ge (tgt := 33) hx hb dX11_pathSet_6 (by decide) (fun c_1 => absurd c_1 (by decide)) (fun _ => ?_)
  refine lv_iload_n hx hb dX11_pathSet_9 rfl (lv_at hl 1 rfl) ?_
  refine lv_aload_n hx hb dX11_pathSet_10 rfl (lv_at hl 2 rfl) ?_
  refine lv_iload_n hx hb dX11_pathSet_11 rfl (lv_at hl 0 rfl) ?_
  refine nq_rdi (va_runV (As := [.int 0]) (rest := [.int 0]) ⟨hx, hb, hml, hown, hts⟩ (c_m_isPath l G y s.heap.size h0 m_tree m_data m_made m_status m_tape m_paths m_pathSize m_set m_to m_lifted m_order m_past m_rowKind m_rowSteps m_rowPath m_rowWas m_rowIs m_pool m_rowsMany m_poolMany m_way m_out m_notedThing m_notedIs m_votes m_treeThen m_imageTree m_pastThen m_notedThingThen m_notedIsThen m_statusThen 0 ) (cwV 1 hts gX11_pathSet_X11_isPath rfl rfl rfl (by decide +kernel) ⟨Nat.le_of_ble_eq_true rfl, Nat.le_of_ble_eq_true rfl⟩) (nq_PV hK hP hD [0, 1] rfl rfl 0 rfl rfl) rfl rfl hl.1 rfl (lv_room (Nat.le_of_ble_eq_true rfl)) dX11_pathSet_12 ⟨Nat.le_of_ble_eq_true rfl, Nat.le_of_ble_eq_true rfl⟩) hP hS hA (fun r_2 H locs hw_3 hP hS => ?_)
  subst hw_3
  refine lv_if_eq (tgt := 24) hx hb dX11_pathSet_15 (by decide) (fun _ => ?_) (fun c_4 => absurd c_4 (by decide))
  refine lv_iconst (v := 0) hx hb dX11_pathSet_24 (by decide) ?_
  refine lv_ior hx hb dX11_pathSet_25 ?_
  refine nq_top (z := 0) (by decide) ?_
  refine lv_istore_n (lv' := [(1, .int 0), (2, .int 0), (0, .ref h0)]) hx hb dX11_pathSet_26 rfl hl (by decide) rfl (fun ls hl => ?_)
  refine lv_iinc (v := 1) (lv' := [(2, .int 1), (1, .int 0), (0, .ref h0)]) hx hb dX11_pathSet_27 hl (k := 1) rfl (by decide) (by decide) rfl (fun ls hl => ?_)
  refine lv_goto (tgt := 4) hx hb dX11_pathSet_30 (by decide) ?_
  refine lv_iload_n hx hb dX11_pathSet_4 rfl (lv_at hl 0 rfl) ?_
  refine lv_iconst (v := 4) hx hb dX11_pathSet_5 (by decide) ?_
  refine lv_icmp_ge (tgt := 33) hx hb dX11_pathSet_6 (by decide) (fun c_5 => absurd c_5 (by decide)) (fun _ => ?_)
  refine lv_iload_n hx hb dX11_pathSet_9 rfl (lv_at hl 1 rfl) ?_
  refine lv_aload_n hx hb dX11_pathSet_10 rfl (lv_at hl 2 rfl) ?_
  refine lv_iload_n hx hb dX11_pathSet_11 rfl (lv_at hl 0 rfl) ?_
  refine nq_rdi (va_runV (As := [.int 1]) (rest := [.int 0]) ⟨hx, hb, hml, hown, hts⟩ (c_m_isPath l G y H.size h0 m_tree m_data m_made m_status m_tape m_paths m_pathSize m_set m_to m_lifted m_order m_past m_rowKind m_rowSteps m_rowPath m_rowWas m_rowIs m_pool m_rowsMany m_poolMany m_way m_out m_notedThing m_notedIs m_votes m_treeThen m_imageTree m_pastThen m_notedThingThen m_notedIsThen m_statusThen 1 ) (cwV 1 hts gX11_pathSet_X11_isPath rfl rfl rfl (by decide +kernel) ⟨Nat.le_of_ble_eq_true rfl, Nat.le_of_ble_eq_true rfl⟩) (nq_PV hK hP hD [0, 1] rfl rfl 0 rfl rfl) rfl rfl hl.1 rfl (lv_room (Nat.le_of_ble_eq_true rfl)) dX11_pathSet_12 ⟨Nat.le_of_ble_eq_true rfl, Nat.le_of_ble_eq_true rfl⟩) hP hS hA (fun r_6 H locs hw_7 hP hS => ?_)
  subst hw_7
  refine lv_if_eq (tgt := 24) hx hb dX11_pathSet_15 (by decide) (fun _ => ?_) (fun c_8 => absurd c_8 (by decide))
  refine lv_iconst (v := 0) hx hb dX11_pathSet_24 (by decide) ?_
  refine lv_ior hx hb dX11_pathSet_25 ?_
  refine nq_top (z := 0) (by decide) ?_
  refine lv_istore_n (lv' := [(1, .int 0), (2, .int 1), (0, .ref h0)]) hx hb dX11_pathSet_26 rfl hl (by decide) rfl (fun ls hl => ?_)
  refine lv_iinc (v := 2) (lv' := [(2, .int 2), (1, .int 0), (0, .ref h0)]) hx hb dX11_pathSet_27 hl (k := 1) rfl (by decide) (by decide) rfl (fun ls hl => ?_)
  refine lv_goto (tgt := 4) hx hb dX11_pathSet_30 (by decide) ?_
  refine lv_iload_n hx hb dX11_pathSet_4 rfl (lv_at hl 0 rfl) ?_
  refine lv_iconst (v := 4) hx hb dX11_pathSet_5 (by decide) ?_
  refine lv_icmp_ge (tgt := 33) hx hb dX11_pathSet_6 (by decide) (fun c_9 => absurd c_9 (by decide)) (fun _ => ?_)
  refine lv_iload_n hx hb dX11_pathSet_9 rfl (lv_at hl 1 rfl) ?_
  refine lv_aload_n hx hb dX11_pathSet_10 rfl (lv_at hl 2 rfl) ?_
  refine lv_iload_n hx hb dX11_pathSet_11 rfl (lv_at hl 0 rfl) ?_
  refine nq_rdi (va_runV (As := [.int 2]) (rest := [.int 0]) ⟨hx, hb, hml, hown, hts⟩ (c_m_isPath l G y H.size h0 m_tree m_data m_made m_status m_tape m_paths m_pathSize m_set m_to m_lifted m_order m_past m_rowKind m_rowSteps m_rowPath m_rowWas m_rowIs m_pool m_rowsMany m_poolMany m_way m_out m_notedThing m_notedIs m_votes m_treeThen m_imageTree m_pastThen m_notedThingThen m_notedIsThen m_statusThen 2 ) (cwV 1 hts gX11_pathSet_X11_isPath rfl rfl rfl (by decide +kernel) ⟨Nat.le_of_ble_eq_true rfl, Nat.le_of_ble_eq_true rfl⟩) (nq_PV hK hP hD [0, 1] rfl rfl 0 rfl rfl) rfl rfl hl.1 rfl (lv_room (Nat.le_of_ble_eq_true rfl)) dX11_pathSet_12 ⟨Nat.le_of_ble_eq_true rfl, Nat.le_of_ble_eq_true rfl⟩) hP hS hA (fun r_10 H locs hw_11 hP hS => ?_)
  subst hw_11
  refine lv_if_eq (tgt := 24) hx hb dX11_pathSet_15 (by decide) (fun _ => ?_) (fun c_12 => absurd c_12 (by decide))
  refine lv_iconst (v := 0) hx hb dX11_pathSet_24 (by decide) ?_
  refine lv_ior hx hb dX11_pathSet_25 ?_
  refine nq_top (z := 0) (by decide) ?_
  refine lv_istore_n (lv' := [(1, .int 0), (2, .int 2), (0, .ref h0)]) hx hb dX11_pathSet_26 rfl hl (by decide) rfl (fun ls hl => ?_)
  refine lv_iinc (v := 3) (lv' := [(2, .int 3), (1, .int 0), (0, .ref h0)]) hx hb dX11_pathSet_27 hl (k := 1) rfl (by decide) (by decide) rfl (fun ls hl => ?_)
  refine lv_goto (tgt := 4) hx hb dX11_pathSet_30 (by decide) ?_
  refine lv_iload_n hx hb dX11_pathSet_4 rfl (lv_at hl 0 rfl) ?_
  refine lv_iconst (v := 4) hx hb dX11_pathSet_5 (by decide) ?_
  refine lv_icmp_ge (tgt := 33) hx hb dX11_pathSet_6 (by decide) (fun c_13 => absurd c_13 (by decide)) (fun _ => ?_)
  refine lv_iload_n hx hb dX11_pathSet_9 rfl (lv_at hl 1 rfl) ?_
  refine lv_aload_n hx hb dX11_pathSet_10 rfl (lv_at hl 2 rfl) ?_
  refine lv_iload_n hx hb dX11_pathSet_11 rfl (lv_at hl 0 rfl) ?_
  refine nq_rdi (va_runV (As := [.int 3]) (rest := [.int 0]) ⟨hx, hb, hml, hown, hts⟩ (c_m_isPath l G y H.size h0 m_tree m_data m_made m_status m_tape m_paths m_pathSize m_set m_to m_lifted m_order m_past m_rowKind m_rowSteps m_rowPath m_rowWas m_rowIs m_pool m_rowsMany m_poolMany m_way m_out m_notedThing m_notedIs m_votes m_treeThen m_imageTree m_pastThen m_notedThingThen m_notedIsThen m_statusThen 3 ) (cwV 1 hts gX11_pathSet_X11_isPath rfl rfl rfl (by decide +kernel) ⟨Nat.le_of_ble_eq_true rfl, Nat.le_of_ble_eq_true rfl⟩) (nq_PV hK hP hD [0, 1] rfl rfl 0 rfl rfl) rfl rfl hl.1 rfl (lv_room (Nat.le_of_ble_eq_true rfl)) dX11_pathSet_12 ⟨Nat.le_of_ble_eq_true rfl, Nat.le_of_ble_eq_true rfl⟩) hP hS hA (fun r_14 H locs hw_15 hP hS => ?_)
  subst hw_15
  refine lv_if_eq (tgt := 24) hx hb dX11_pathSet_15 (by decide) (fun _ => ?_) (fun c_16 => absurd c_16 (by decide))
  refine lv_iconst (v := 0) hx hb dX11_pathSet_24 (by decide) ?_
  refine lv_ior hx hb dX11_pathSet_25 ?_
  refine nq_top (z := 0) (by decide) ?_
  refine lv_istore_n (lv' := [(1, .int 0), (2, .int 3), (0, .ref h0)]) hx hb dX11_pathSet_26 rfl hl (by decide) rfl (fun ls hl => ?_)
  refine lv_iinc (v := 4) (lv' := [(2, .int 4), (1, .int 0), (0, .ref h0)]) hx hb dX11_pathSet_27 hl (k := 1) rfl (by decide) (by decide) rfl (fun ls hl => ?_)
  refine lv_goto (tgt := 4) hx hb dX11_pathSet_30 (by decide) ?_
  refine lv_iload_n hx hb dX11_pathSet_4 rfl (lv_at hl 0 rfl) ?_
  refine lv_iconst (v := 4) hx hb dX11_pathSet_5 (by decide) ?_
  refine lv_icmp_ge (tgt := 33) hx hb dX11_pathSet_6 (by decide) (fun _ => ?_) (fun c_17 => absurd c_17 (by decide))
  refine lv_iload_n hx hb dX11_pathSet_33 rfl (lv_at hl 1 rfl) ?_
  refine W.widen (k := 0) (n := 0) (Nat.le_of_ble_eq_true rfl) (Nat.le_of_ble_eq_true rfl) ?_
  exact W.iret (v := 0) hx hb hr (fun t ht hW => ⟨⟨0, (), rfl, rfl, trivial⟩, hS.F ht⟩) hS.2.2 dX11_pathSet_34

set_option maxHeartbeats 4000000 in
set_option maxRecDepth 100000 in
theorem c_m_moves (l : Launch) (G : va_G) (y : Nat → ClassId) (sz : Nat) (h0 : Nat) (m_tree : Nat) (m_data : Nat) (m_made : Nat) (m_status : Nat) (m_tape : Nat) (m_paths : Nat) (m_pathSize : Nat) (m_set : Nat) (m_to : Nat) (m_lifted : Nat) (m_order : Nat) (m_past : Nat) (m_rowKind : Nat) (m_rowSteps : Nat) (m_rowPath : Nat) (m_rowWas : Nat) (m_rowIs : Nat) (m_pool : Nat) (m_rowsMany : Nat) (m_poolMany : Nat) (m_way : Nat) (m_out : Nat) (m_notedThing : Nat) (m_notedIs : Nat) (m_votes : Nat) (m_treeThen : Nat) (m_imageTree : Nat) (m_pastThen : Nat) (m_notedThingThen : Nat) (m_notedIsThen : Nat) (m_statusThen : Nat) (i : Int32) (j : Int32) (k : Int32)  : Met l yX11_moves wsX11_moves ({ frames := 2, cells := 0, slots := 0, locals := 43 }) (nq_P G y sz [.ref h0, .int i, .int j, .int k] [(h0, .inr (11, [.int 0, .ref m_tree, .ref m_data, .ref m_made, .ref m_status, .int 0, .ref m_tape, .ref m_paths, .ref m_pathSize, .null, .int 0, .int 0, .int 0, .int 0, .int 0, .int 0, .int 0, .int 0, .int 0, .int 0, .int 0, .int (-1), .int 0, .ref m_set, .ref m_to, .int 0, .int 0, .int 0, .int 0, .int 0, .int 0, .ref m_lifted, .int 0, .int 0, .int 0, .ref m_order, .int 0, .ref m_past, .int 0, .ref m_rowKind, .ref m_rowSteps, .ref m_rowPath, .ref m_rowWas, .ref m_rowIs, .ref m_pool, .ref m_rowsMany, .ref m_poolMany, .ref m_way, .int 0, .ref m_out, .int 0, .int 0, .ref m_notedThing, .ref m_notedIs, .ref m_votes, .int 0, .int 0, .ref m_treeThen, .int 0, .int 0, .int 0, .ref m_imageTree, .ref m_pastThen, .ref m_notedThingThen, .ref m_notedIsThen, .ref m_statusThen])), (m_tree, .inl (y 0, 240, .inl (upd (upd (fun _ => 0) 0 3) 3 1)))]) (va_Qi (fun (r : Int32) (_ : Unit) => r = (-1)) (fun _ _ => True) (va_A [] sz)) 0 0 (va_A [] sz) := by
  refine Met.ofW (cc := cX11_moves) (maxL := 9) (ret := (some .int)) (by decide) rfl ?_
  intro p e s m args below meth c s₁ B hml hv
  obtain ⟨rfl, hsz, hP, hK, hD0⟩ := hv
  have hx := B.exec
  have hb := B.bytes
  have hr := B.returns
  have hts := atoms_spec (ws := wsX11_moves) B.pre
  have hown : s.vm.findClass RX11 = some m.cls := findClass_of_methodNamed B.named
  have hlocks := B.notSynchronized
  subst hsz
  have hD := hD0
  have hA : ∀ q : Nat, s.heap.size ≤ q → va_A [] s.heap.size q := fun q h => Or.inr h
  have hS : va_S (va_A [] s.heap.size) s.heap s.heap [] := va_S.rf
  have hP : va_P G vwCl [(h0, .inr (11, [.int 0, .ref m_tree, .ref m_data, .ref m_made, .ref m_status, .int 0, .ref m_tape, .ref m_paths, .ref m_pathSize, .null, .int 0, .int 0, .int 0, .int 0, .int 0, .int 0, .int 0, .int 0, .int 0, .int 0, .int 0, .int (-1), .int 0, .ref m_set, .ref m_to, .int 0, .int 0, .int 0, .int 0, .int 0, .int 0, .ref m_lifted, .int 0, .int 0, .int 0, .ref m_order, .int 0, .ref m_past, .int 0, .ref m_rowKind, .ref m_rowSteps, .ref m_rowPath, .ref m_rowWas, .ref m_rowIs, .ref m_pool, .ref m_rowsMany, .ref m_poolMany, .ref m_way, .int 0, .ref m_out, .int 0, .int 0, .ref m_notedThing, .ref m_notedIs, .ref m_votes, .int 0, .int 0, .ref m_treeThen, .int 0, .int 0, .int 0, .ref m_imageTree, .ref m_pastThen, .ref m_notedThingThen, .ref m_notedIsThen, .ref m_statusThen])), (m_tree, .inl (y 0, 240, .inl (upd (upd (fun _ => 0) 0 3) 3 1)))] s.heap := hP
  have hl := lv_entry ([.ref h0, .int i, .int j, .int k]) (n := 9) (Nat.le_of_ble_eq_true rfl)
  rw [lg_entry_eq]
  generalize (lg_sl ([.ref h0, .int i, .int j, .int k]) ++ List.replicate (9 - (lg_sl ([.ref h0, .int i, .int j, .int k])).length) Slot.unset).toArray = ls at hl ⊢
  have hl : lv_has ls 9 [(0, .ref h0), (1, .int i), (2, .int j), (3, .int k)] := hl
  refine lv_aload_n hx hb dX11_moves_0 rfl (lv_at hl 0 rfl) ?_
  refine lv_iload_n hx hb dX11_moves_1 rfl (lv_at hl 1 rfl) ?_
  refine nq_rdi (va_runV (As := [.int i]) (rest := []) ⟨hx, hb, hml, hown, hts⟩ (c_m_isThing l G y s.heap.size h0 m_tree m_data m_made m_status m_tape m_paths m_pathSize m_set m_to m_lifted m_order m_past m_rowKind m_rowSteps m_rowPath m_rowWas m_rowIs m_pool m_rowsMany m_poolMany m_way m_out m_notedThing m_notedIs m_votes m_treeThen m_imageTree m_pastThen m_notedThingThen m_notedIsThen m_statusThen i ) (cwV 1 hts gX11_moves_X11_isThing rfl rfl rfl (by decide +kernel) ⟨Nat.le_of_ble_eq_true rfl, Nat.le_of_ble_eq_true rfl⟩) (nq_PV hK hP hD [0, 1] rfl rfl 0 rfl rfl) rfl rfl hl.1 rfl (lv_room (Nat.le_of_ble_eq_true rfl)) dX11_moves_2 ⟨Nat.le_of_ble_eq_true rfl, Nat.le_of_ble_eq_true rfl⟩) hP hS hA (fun r_1 H locs hw_2 hP hS => ?_)
  rcases hw_2 with ⟨c_3, hr_4⟩ | ⟨c_5, hr_6⟩
  · subst c_3
    subst hr_4
    refine lv_if_eq (tgt := 43) hx hb dX11_moves_5 (by decide) (fun c_7 => absurd c_7 (by decide)) (fun _ => ?_)
    refine lv_aload_n hx hb dX11_moves_8 rfl (lv_at hl 0 rfl) ?_
    refine lv_iload_n hx hb dX11_moves_9 rfl (lv_at hl 2 rfl) ?_
    refine nq_rdi (va_runV (As := [.int j]) (rest := []) ⟨hx, hb, hml, hown, hts⟩ (c_m_isThing l G y H.size h0 m_tree m_data m_made m_status m_tape m_paths m_pathSize m_set m_to m_lifted m_order m_past m_rowKind m_rowSteps m_rowPath m_rowWas m_rowIs m_pool m_rowsMany m_poolMany m_way m_out m_notedThing m_notedIs m_votes m_treeThen m_imageTree m_pastThen m_notedThingThen m_notedIsThen m_statusThen j ) (cwV 1 hts gX11_moves_X11_isThing rfl rfl rfl (by decide +kernel) ⟨Nat.le_of_ble_eq_true rfl, Nat.le_of_ble_eq_true rfl⟩) (nq_PV hK hP hD [0, 1] rfl rfl 0 rfl rfl) rfl rfl hl.1 rfl (lv_room (Nat.le_of_ble_eq_true rfl)) dX11_moves_10 ⟨Nat.le_of_ble_eq_true rfl, Nat.le_of_ble_eq_true rfl⟩) hP hS hA (fun r_8 H locs hw_9 hP hS => ?_)
    rcases hw_9 with ⟨c_10, hr_11⟩ | ⟨c_12, hr_13⟩
    · subst c_10
      subst hr_11
      refine lv_if_eq (tgt := 43) hx hb dX11_moves_13 (by decide) (fun c_14 => absurd c_14 (by decide)) (fun _ => ?_)
      refine lv_iload_n hx hb dX11_moves_16 rfl (lv_at hl 1 rfl) ?_
      refine lv_if_le (tgt := 43) hx hb dX11_moves_17 (by decide) (fun _ => ?_) (fun c_15 => absurd c_15 (by decide))
      refine lv_iconst (v := 0) hx hb dX11_moves_43 (by decide) ?_
      refine lv_istore (lv' := [(4, .int 0), (0, .ref h0), (1, .int 0), (2, .int 0), (3, .int k)]) hx hb dX11_moves_44 hl (by decide) rfl (fun ls hl => ?_)
      refine lv_iload hx hb dX11_moves_46 (lv_at hl 0 rfl) ?_
      refine lv_if_eq (tgt := 62) hx hb dX11_moves_48 (by decide) (fun _ => ?_) (fun c_16 => absurd c_16 (by decide))
      refine lv_iconst (v := (-1)) hx hb dX11_moves_62 (by decide) ?_
      refine W.widen (k := 0) (n := 0) (Nat.le_of_ble_eq_true rfl) (Nat.le_of_ble_eq_true rfl) ?_
      exact W.iret (v := (-1)) hx hb hr (fun t ht hW => ⟨⟨(-1), (), rfl, rfl, trivial⟩, hS.F ht⟩) hS.2.2 dX11_moves_63
    · subst hr_13
      refine lv_if_eq (tgt := 43) hx hb dX11_moves_13 (by decide) (fun _ => ?_) (fun c_17 => absurd c_17 (by decide))
      refine lv_iconst (v := 0) hx hb dX11_moves_43 (by decide) ?_
      refine lv_istore (lv' := [(4, .int 0), (0, .ref h0), (1, .int 0), (2, .int j), (3, .int k)]) hx hb dX11_moves_44 hl (by decide) rfl (fun ls hl => ?_)
      refine lv_iload hx hb dX11_moves_46 (lv_at hl 0 rfl) ?_
      refine lv_if_eq (tgt := 62) hx hb dX11_moves_48 (by decide) (fun _ => ?_) (fun c_18 => absurd c_18 (by decide))
      refine lv_iconst (v := (-1)) hx hb dX11_moves_62 (by decide) ?_
      refine W.widen (k := 0) (n := 0) (Nat.le_of_ble_eq_true rfl) (Nat.le_of_ble_eq_true rfl) ?_
      exact W.iret (v := (-1)) hx hb hr (fun t ht hW => ⟨⟨(-1), (), rfl, rfl, trivial⟩, hS.F ht⟩) hS.2.2 dX11_moves_63
  · subst hr_6
    refine lv_if_eq (tgt := 43) hx hb dX11_moves_5 (by decide) (fun _ => ?_) (fun c_19 => absurd c_19 (by decide))
    refine lv_iconst (v := 0) hx hb dX11_moves_43 (by decide) ?_
    refine lv_istore (lv' := [(4, .int 0), (0, .ref h0), (1, .int i), (2, .int j), (3, .int k)]) hx hb dX11_moves_44 hl (by decide) rfl (fun ls hl => ?_)
    refine lv_iload hx hb dX11_moves_46 (lv_at hl 0 rfl) ?_
    refine lv_if_eq (tgt := 62) hx hb dX11_moves_48 (by decide) (fun _ => ?_) (fun c_20 => absurd c_20 (by decide))
    refine lv_iconst (v := (-1)) hx hb dX11_moves_62 (by decide) ?_
    refine W.widen (k := 0) (n := 0) (Nat.le_of_ble_eq_true rfl) (Nat.le_of_ble_eq_true rfl) ?_
    exact W.iret (v := (-1)) hx hb hr (fun t ht hW => ⟨⟨(-1), (), rfl, rfl, trivial⟩, hS.F ht⟩) hS.2.2 dX11_moves_63

set_option maxHeartbeats 4000000 in
set_option maxRecDepth 100000 in
theorem c_m_refuse1 (l : Launch) (G : va_G) (y : Nat → ClassId) (sz : Nat) (h0 : Nat) (m_tree : Nat) (m_data : Nat) (m_made : Nat) (m_status : Nat) (m_tape : Nat) (m_paths : Nat) (m_pathSize : Nat) (m_set : Nat) (m_to : Nat) (m_lifted : Nat) (m_order : Nat) (m_past : Nat) (m_rowKind : Nat) (m_rowSteps : Nat) (m_rowPath : Nat) (m_rowWas : Nat) (m_rowIs : Nat) (m_pool : Nat) (m_rowsMany : Nat) (m_poolMany : Nat) (m_way : Nat) (m_out : Nat) (m_notedThing : Nat) (m_notedIs : Nat) (m_votes : Nat) (m_treeThen : Nat) (m_imageTree : Nat) (m_pastThen : Nat) (m_notedThingThen : Nat) (m_notedIsThen : Nat) (m_statusThen : Nat)  : Met l yX11_refuse wsX11_refuse ({ frames := 0, cells := 0, slots := 0, locals := 0 }) (nq_P G y sz [.ref h0, .int 1] [(h0, .inr (11, [.int 0, .ref m_tree, .ref m_data, .ref m_made, .ref m_status, .int 0, .ref m_tape, .ref m_paths, .ref m_pathSize, .null, .int 0, .int 0, .int 0, .int 0, .int 0, .int 0, .int 0, .int 0, .int 0, .int 0, .int 0, .int (-1), .int 0, .ref m_set, .ref m_to, .int 0, .int 0, .int 0, .int 0, .int 0, .int 0, .ref m_lifted, .int 0, .int 0, .int 0, .ref m_order, .int 0, .ref m_past, .int 0, .ref m_rowKind, .ref m_rowSteps, .ref m_rowPath, .ref m_rowWas, .ref m_rowIs, .ref m_pool, .ref m_rowsMany, .ref m_poolMany, .ref m_way, .int 0, .ref m_out, .int 0, .int 0, .ref m_notedThing, .ref m_notedIs, .ref m_votes, .int 0, .int 0, .ref m_treeThen, .int 0, .int 0, .int 0, .ref m_imageTree, .ref m_pastThen, .ref m_notedThingThen, .ref m_notedIsThen, .ref m_statusThen])), (m_status, .inl (y 0, 3, .inl (fun _ => 0)))]) (va_Qi (fun (r : Int32) (_ : Unit) => r = (-1)) (fun (u : Unit) t9 => va_P G vwCl ([(h0, .inr (11, [.int 0, .ref m_tree, .ref m_data, .ref m_made, .ref m_status, .int 0, .ref m_tape, .ref m_paths, .ref m_pathSize, .null, .int 0, .int 0, .int 0, .int 0, .int 0, .int 0, .int 0, .int 0, .int 0, .int 0, .int 0, .int (-1), .int 0, .ref m_set, .ref m_to, .int 0, .int 0, .int 0, .int 0, .int 0, .int 0, .ref m_lifted, .int 0, .int 0, .int 0, .ref m_order, .int 0, .ref m_past, .int 0, .ref m_rowKind, .ref m_rowSteps, .ref m_rowPath, .ref m_rowWas, .ref m_rowIs, .ref m_pool, .ref m_rowsMany, .ref m_poolMany, .ref m_way, .int 0, .ref m_out, .int 0, .int 0, .ref m_notedThing, .ref m_notedIs, .ref m_votes, .int 0, .int 0, .ref m_treeThen, .int 0, .int 0, .int 0, .ref m_imageTree, .ref m_pastThen, .ref m_notedThingThen, .ref m_notedIsThen, .ref m_statusThen]))]) t9.heap ∧ va_D (va_A [(h0, .inr (11, [.int 0, .ref m_tree, .ref m_data, .ref m_made, .ref m_status, .int 0, .ref m_tape, .ref m_paths, .ref m_pathSize, .null, .int 0, .int 0, .int 0, .int 0, .int 0, .int 0, .int 0, .int 0, .int 0, .int 0, .int 0, .int (-1), .int 0, .ref m_set, .ref m_to, .int 0, .int 0, .int 0, .int 0, .int 0, .int 0, .ref m_lifted, .int 0, .int 0, .int 0, .ref m_order, .int 0, .ref m_past, .int 0, .ref m_rowKind, .ref m_rowSteps, .ref m_rowPath, .ref m_rowWas, .ref m_rowIs, .ref m_pool, .ref m_rowsMany, .ref m_poolMany, .ref m_way, .int 0, .ref m_out, .int 0, .int 0, .ref m_notedThing, .ref m_notedIs, .ref m_votes, .int 0, .int 0, .ref m_treeThen, .int 0, .int 0, .int 0, .ref m_imageTree, .ref m_pastThen, .ref m_notedThingThen, .ref m_notedIsThen, .ref m_statusThen])), (m_status, .inl (y 0, 3, .inl (fun _ => 0)))] sz) ([(h0, .inr (11, [.int 0, .ref m_tree, .ref m_data, .ref m_made, .ref m_status, .int 0, .ref m_tape, .ref m_paths, .ref m_pathSize, .null, .int 0, .int 0, .int 0, .int 0, .int 0, .int 0, .int 0, .int 0, .int 0, .int 0, .int 0, .int (-1), .int 0, .ref m_set, .ref m_to, .int 0, .int 0, .int 0, .int 0, .int 0, .int 0, .ref m_lifted, .int 0, .int 0, .int 0, .ref m_order, .int 0, .ref m_past, .int 0, .ref m_rowKind, .ref m_rowSteps, .ref m_rowPath, .ref m_rowWas, .ref m_rowIs, .ref m_pool, .ref m_rowsMany, .ref m_poolMany, .ref m_way, .int 0, .ref m_out, .int 0, .int 0, .ref m_notedThing, .ref m_notedIs, .ref m_votes, .int 0, .int 0, .ref m_treeThen, .int 0, .int 0, .int 0, .ref m_imageTree, .ref m_pastThen, .ref m_notedThingThen, .ref m_notedIsThen, .ref m_statusThen]))])) (va_A [(h0, .inr (11, [.int 0, .ref m_tree, .ref m_data, .ref m_made, .ref m_status, .int 0, .ref m_tape, .ref m_paths, .ref m_pathSize, .null, .int 0, .int 0, .int 0, .int 0, .int 0, .int 0, .int 0, .int 0, .int 0, .int 0, .int 0, .int (-1), .int 0, .ref m_set, .ref m_to, .int 0, .int 0, .int 0, .int 0, .int 0, .int 0, .ref m_lifted, .int 0, .int 0, .int 0, .ref m_order, .int 0, .ref m_past, .int 0, .ref m_rowKind, .ref m_rowSteps, .ref m_rowPath, .ref m_rowWas, .ref m_rowIs, .ref m_pool, .ref m_rowsMany, .ref m_poolMany, .ref m_way, .int 0, .ref m_out, .int 0, .int 0, .ref m_notedThing, .ref m_notedIs, .ref m_votes, .int 0, .int 0, .ref m_treeThen, .int 0, .int 0, .int 0, .ref m_imageTree, .ref m_pastThen, .ref m_notedThingThen, .ref m_notedIsThen, .ref m_statusThen])), (m_status, .inl (y 0, 3, .inl (fun _ => 0)))] sz)) 0 0 (va_A [(h0, .inr (11, [.int 0, .ref m_tree, .ref m_data, .ref m_made, .ref m_status, .int 0, .ref m_tape, .ref m_paths, .ref m_pathSize, .null, .int 0, .int 0, .int 0, .int 0, .int 0, .int 0, .int 0, .int 0, .int 0, .int 0, .int 0, .int (-1), .int 0, .ref m_set, .ref m_to, .int 0, .int 0, .int 0, .int 0, .int 0, .int 0, .ref m_lifted, .int 0, .int 0, .int 0, .ref m_order, .int 0, .ref m_past, .int 0, .ref m_rowKind, .ref m_rowSteps, .ref m_rowPath, .ref m_rowWas, .ref m_rowIs, .ref m_pool, .ref m_rowsMany, .ref m_poolMany, .ref m_way, .int 0, .ref m_out, .int 0, .int 0, .ref m_notedThing, .ref m_notedIs, .ref m_votes, .int 0, .int 0, .ref m_treeThen, .int 0, .int 0, .int 0, .ref m_imageTree, .ref m_pastThen, .ref m_notedThingThen, .ref m_notedIsThen, .ref m_statusThen])), (m_status, .inl (y 0, 3, .inl (fun _ => 0)))] sz) := by
  refine Met.ofW (cc := cX11_refuse) (maxL := 2) (ret := (some .int)) (by decide) rfl ?_
  intro p e s m args below meth c s₁ B hml hv
  obtain ⟨rfl, hsz, hP, hK, hD0⟩ := hv
  have hx := B.exec
  have hb := B.bytes
  have hr := B.returns
  have hts := atoms_spec (ws := wsX11_refuse) B.pre
  have hown : s.vm.findClass RX11 = some m.cls := findClass_of_methodNamed B.named
  have hlocks := B.notSynchronized
  subst hsz
  have hD := hD0.self (sz := s.heap.size)
  generalize hAe : va_A [(h0, .inr (11, [.int 0, .ref m_tree, .ref m_data, .ref m_made, .ref m_status, .int 0, .ref m_tape, .ref m_paths, .ref m_pathSize, .null, .int 0, .int 0, .int 0, .int 0, .int 0, .int 0, .int 0, .int 0, .int 0, .int 0, .int 0, .int (-1), .int 0, .ref m_set, .ref m_to, .int 0, .int 0, .int 0, .int 0, .int 0, .int 0, .ref m_lifted, .int 0, .int 0, .int 0, .ref m_order, .int 0, .ref m_past, .int 0, .ref m_rowKind, .ref m_rowSteps, .ref m_rowPath, .ref m_rowWas, .ref m_rowIs, .ref m_pool, .ref m_rowsMany, .ref m_poolMany, .ref m_way, .int 0, .ref m_out, .int 0, .int 0, .ref m_notedThing, .ref m_notedIs, .ref m_votes, .int 0, .int 0, .ref m_treeThen, .int 0, .int 0, .int 0, .ref m_imageTree, .ref m_pastThen, .ref m_notedThingThen, .ref m_notedIsThen, .ref m_statusThen])), (m_status, .inl (y 0, 3, .inl (fun _ => 0)))] s.heap.size = A at hD ⊢
  have hA : ∀ q : Nat, s.heap.size ≤ q → A q := fun q h => by rw [← hAe]; exact Or.inr h
  have hS : va_S A s.heap s.heap [] := va_S.rf
  have hP : va_P G vwCl [(h0, .inr (11, [.int 0, .ref m_tree, .ref m_data, .ref m_made, .ref m_status, .int 0, .ref m_tape, .ref m_paths, .ref m_pathSize, .null, .int 0, .int 0, .int 0, .int 0, .int 0, .int 0, .int 0, .int 0, .int 0, .int 0, .int 0, .int (-1), .int 0, .ref m_set, .ref m_to, .int 0, .int 0, .int 0, .int 0, .int 0, .int 0, .ref m_lifted, .int 0, .int 0, .int 0, .ref m_order, .int 0, .ref m_past, .int 0, .ref m_rowKind, .ref m_rowSteps, .ref m_rowPath, .ref m_rowWas, .ref m_rowIs, .ref m_pool, .ref m_rowsMany, .ref m_poolMany, .ref m_way, .int 0, .ref m_out, .int 0, .int 0, .ref m_notedThing, .ref m_notedIs, .ref m_votes, .int 0, .int 0, .ref m_treeThen, .int 0, .int 0, .int 0, .ref m_imageTree, .ref m_pastThen, .ref m_notedThingThen, .ref m_notedIsThen, .ref m_statusThen])), (m_status, .inl (y 0, 3, .inl (fun _ => 0)))] s.heap := hP
  have inX11 : ∀ w ∈ wsX110, w ∈ wsX11_refuse := by decide +kernel
  have hl := lv_entry ([.ref h0, .int 1]) (n := 2) (Nat.le_of_ble_eq_true rfl)
  rw [lg_entry_eq]
  generalize (lg_sl ([.ref h0, .int 1]) ++ List.replicate (2 - (lg_sl ([.ref h0, .int 1])).length) Slot.unset).toArray = ls at hl ⊢
  have hl : lv_has ls 2 [(0, .ref h0), (1, .int 1)] := hl
  refine lv_aload_n hx hb dX11_refuse_0 rfl (lv_at hl 0 rfl) ?_
  refine va_get (D := G) (ci := 11) (v := .ref m_status) (C := RX11) (T := TX11) (N := 66) hx hb hts inX11 hown hK.1 hP 0 rfl rfl 4 (by decide) (hts (.fieldLink RX11 19 "NestQueryModel" "status" "[I") (by decide +kernel)) (fun _ h9 => h9) rfl dX11_refuse_1 ?_
  refine lv_iload_n hx hb dX11_refuse_4 rfl (lv_at hl 1 rfl) ?_
  refine lv_dup2_11 hx hb dX11_refuse_5 rfl rfl ?_
  refine va_iald hx hb hK.1 hP 1 0 rfl rfl (i := 1) (nq_in (by decide)) dX11_refuse_6 ?_
  refine nq_top (z := 0) (rfl) ?_
  refine lv_iconst (v := 1) hx hb dX11_refuse_7 (by decide) ?_
  refine lv_iadd hx hb dX11_refuse_8 ?_
  refine nq_top (z := 1) (by decide) ?_
  refine va_iast hx hb hK.1 hP hD hS 1 0 rfl rfl (i := 1) (nq_in (by decide)) dX11_refuse_9 (fun H locs hP hD hS => ?_)
  have hP : va_P G vwCl [(h0, .inr (11, [.int 0, .ref m_tree, .ref m_data, .ref m_made, .ref m_status, .int 0, .ref m_tape, .ref m_paths, .ref m_pathSize, .null, .int 0, .int 0, .int 0, .int 0, .int 0, .int 0, .int 0, .int 0, .int 0, .int 0, .int 0, .int (-1), .int 0, .ref m_set, .ref m_to, .int 0, .int 0, .int 0, .int 0, .int 0, .int 0, .ref m_lifted, .int 0, .int 0, .int 0, .ref m_order, .int 0, .ref m_past, .int 0, .ref m_rowKind, .ref m_rowSteps, .ref m_rowPath, .ref m_rowWas, .ref m_rowIs, .ref m_pool, .ref m_rowsMany, .ref m_poolMany, .ref m_way, .int 0, .ref m_out, .int 0, .int 0, .ref m_notedThing, .ref m_notedIs, .ref m_votes, .int 0, .int 0, .ref m_treeThen, .int 0, .int 0, .int 0, .ref m_imageTree, .ref m_pastThen, .ref m_notedThingThen, .ref m_notedIsThen, .ref m_statusThen])), (m_status, .inl (y 0, 3, .inl (upd (fun _ => 0) 1 1)))] H := hP
  have hD : va_D A [(h0, .inr (11, [.int 0, .ref m_tree, .ref m_data, .ref m_made, .ref m_status, .int 0, .ref m_tape, .ref m_paths, .ref m_pathSize, .null, .int 0, .int 0, .int 0, .int 0, .int 0, .int 0, .int 0, .int 0, .int 0, .int 0, .int 0, .int (-1), .int 0, .ref m_set, .ref m_to, .int 0, .int 0, .int 0, .int 0, .int 0, .int 0, .ref m_lifted, .int 0, .int 0, .int 0, .ref m_order, .int 0, .ref m_past, .int 0, .ref m_rowKind, .ref m_rowSteps, .ref m_rowPath, .ref m_rowWas, .ref m_rowIs, .ref m_pool, .ref m_rowsMany, .ref m_poolMany, .ref m_way, .int 0, .ref m_out, .int 0, .int 0, .ref m_notedThing, .ref m_notedIs, .ref m_votes, .int 0, .int 0, .ref m_treeThen, .int 0, .int 0, .int 0, .ref m_imageTree, .ref m_pastThen, .ref m_notedThingThen, .ref m_notedIsThen, .ref m_statusThen])), (m_status, .inl (y 0, 3, .inl (upd (fun _ => 0) 1 1)))] := hD
  refine lv_iconst (v := (-1)) hx hb dX11_refuse_10 (by decide) ?_
  have hP9 := hP.sub (ws' := [(h0, .inr (11, [.int 0, .ref m_tree, .ref m_data, .ref m_made, .ref m_status, .int 0, .ref m_tape, .ref m_paths, .ref m_pathSize, .null, .int 0, .int 0, .int 0, .int 0, .int 0, .int 0, .int 0, .int 0, .int 0, .int 0, .int 0, .int (-1), .int 0, .ref m_set, .ref m_to, .int 0, .int 0, .int 0, .int 0, .int 0, .int 0, .ref m_lifted, .int 0, .int 0, .int 0, .ref m_order, .int 0, .ref m_past, .int 0, .ref m_rowKind, .ref m_rowSteps, .ref m_rowPath, .ref m_rowWas, .ref m_rowIs, .ref m_pool, .ref m_rowsMany, .ref m_poolMany, .ref m_way, .int 0, .ref m_out, .int 0, .int 0, .ref m_notedThing, .ref m_notedIs, .ref m_votes, .int 0, .int 0, .ref m_treeThen, .int 0, .int 0, .int 0, .ref m_imageTree, .ref m_pastThen, .ref m_notedThingThen, .ref m_notedIsThen, .ref m_statusThen]))]) [0] rfl
  have hD9 := hD.sub (ws' := [(h0, .inr (11, [.int 0, .ref m_tree, .ref m_data, .ref m_made, .ref m_status, .int 0, .ref m_tape, .ref m_paths, .ref m_pathSize, .null, .int 0, .int 0, .int 0, .int 0, .int 0, .int 0, .int 0, .int 0, .int 0, .int 0, .int 0, .int (-1), .int 0, .ref m_set, .ref m_to, .int 0, .int 0, .int 0, .int 0, .int 0, .int 0, .ref m_lifted, .int 0, .int 0, .int 0, .ref m_order, .int 0, .ref m_past, .int 0, .ref m_rowKind, .ref m_rowSteps, .ref m_rowPath, .ref m_rowWas, .ref m_rowIs, .ref m_pool, .ref m_rowsMany, .ref m_poolMany, .ref m_way, .int 0, .ref m_out, .int 0, .int 0, .ref m_notedThing, .ref m_notedIs, .ref m_votes, .int 0, .int 0, .ref m_treeThen, .int 0, .int 0, .int 0, .ref m_imageTree, .ref m_pastThen, .ref m_notedThingThen, .ref m_notedIsThen, .ref m_statusThen]))]) [0] (by decide) rfl
  refine W.widen (k := 0) (n := 0) (Nat.le_of_ble_eq_true rfl) (Nat.le_of_ble_eq_true rfl) ?_
  exact W.iret (v := (-1)) hx hb hr (fun t ht hW => ⟨⟨(-1), (), rfl, rfl, by rw [ht]; exact hP9, by first | exact hD9 | (rw [hAe]; exact hD9)⟩, hS.F ht⟩) hS.2.2 dX11_refuse_11

set_option maxHeartbeats 4000000 in
set_option maxRecDepth 100000 in
theorem c_m_refuse2 (l : Launch) (G : va_G) (y : Nat → ClassId) (sz : Nat) (h0 : Nat) (m_tree : Nat) (m_data : Nat) (m_made : Nat) (m_status : Nat) (m_tape : Nat) (m_paths : Nat) (m_pathSize : Nat) (m_set : Nat) (m_to : Nat) (m_lifted : Nat) (m_order : Nat) (m_past : Nat) (m_rowKind : Nat) (m_rowSteps : Nat) (m_rowPath : Nat) (m_rowWas : Nat) (m_rowIs : Nat) (m_pool : Nat) (m_rowsMany : Nat) (m_poolMany : Nat) (m_way : Nat) (m_out : Nat) (m_notedThing : Nat) (m_notedIs : Nat) (m_votes : Nat) (m_treeThen : Nat) (m_imageTree : Nat) (m_pastThen : Nat) (m_notedThingThen : Nat) (m_notedIsThen : Nat) (m_statusThen : Nat)  : Met l yX11_refuse wsX11_refuse ({ frames := 0, cells := 0, slots := 0, locals := 0 }) (nq_P G y sz [.ref h0, .int 2] [(h0, .inr (11, [.int 0, .ref m_tree, .ref m_data, .ref m_made, .ref m_status, .int 0, .ref m_tape, .ref m_paths, .ref m_pathSize, .null, .int 0, .int 0, .int 0, .int 0, .int 0, .int 0, .int 0, .int 0, .int 0, .int 0, .int 0, .int (-1), .int 0, .ref m_set, .ref m_to, .int 0, .int 0, .int 0, .int 0, .int 0, .int 0, .ref m_lifted, .int 0, .int 0, .int 0, .ref m_order, .int 0, .ref m_past, .int 0, .ref m_rowKind, .ref m_rowSteps, .ref m_rowPath, .ref m_rowWas, .ref m_rowIs, .ref m_pool, .ref m_rowsMany, .ref m_poolMany, .ref m_way, .int 0, .ref m_out, .int 0, .int 0, .ref m_notedThing, .ref m_notedIs, .ref m_votes, .int 0, .int 0, .ref m_treeThen, .int 0, .int 0, .int 0, .ref m_imageTree, .ref m_pastThen, .ref m_notedThingThen, .ref m_notedIsThen, .ref m_statusThen])), (m_status, .inl (y 0, 3, .inl (fun _ => 0)))]) (va_Qi (fun (r : Int32) (_ : Unit) => r = (-1)) (fun (u : Unit) t9 => va_P G vwCl ([(h0, .inr (11, [.int 0, .ref m_tree, .ref m_data, .ref m_made, .ref m_status, .int 0, .ref m_tape, .ref m_paths, .ref m_pathSize, .null, .int 0, .int 0, .int 0, .int 0, .int 0, .int 0, .int 0, .int 0, .int 0, .int 0, .int 0, .int (-1), .int 0, .ref m_set, .ref m_to, .int 0, .int 0, .int 0, .int 0, .int 0, .int 0, .ref m_lifted, .int 0, .int 0, .int 0, .ref m_order, .int 0, .ref m_past, .int 0, .ref m_rowKind, .ref m_rowSteps, .ref m_rowPath, .ref m_rowWas, .ref m_rowIs, .ref m_pool, .ref m_rowsMany, .ref m_poolMany, .ref m_way, .int 0, .ref m_out, .int 0, .int 0, .ref m_notedThing, .ref m_notedIs, .ref m_votes, .int 0, .int 0, .ref m_treeThen, .int 0, .int 0, .int 0, .ref m_imageTree, .ref m_pastThen, .ref m_notedThingThen, .ref m_notedIsThen, .ref m_statusThen]))]) t9.heap ∧ va_D (va_A [(h0, .inr (11, [.int 0, .ref m_tree, .ref m_data, .ref m_made, .ref m_status, .int 0, .ref m_tape, .ref m_paths, .ref m_pathSize, .null, .int 0, .int 0, .int 0, .int 0, .int 0, .int 0, .int 0, .int 0, .int 0, .int 0, .int 0, .int (-1), .int 0, .ref m_set, .ref m_to, .int 0, .int 0, .int 0, .int 0, .int 0, .int 0, .ref m_lifted, .int 0, .int 0, .int 0, .ref m_order, .int 0, .ref m_past, .int 0, .ref m_rowKind, .ref m_rowSteps, .ref m_rowPath, .ref m_rowWas, .ref m_rowIs, .ref m_pool, .ref m_rowsMany, .ref m_poolMany, .ref m_way, .int 0, .ref m_out, .int 0, .int 0, .ref m_notedThing, .ref m_notedIs, .ref m_votes, .int 0, .int 0, .ref m_treeThen, .int 0, .int 0, .int 0, .ref m_imageTree, .ref m_pastThen, .ref m_notedThingThen, .ref m_notedIsThen, .ref m_statusThen])), (m_status, .inl (y 0, 3, .inl (fun _ => 0)))] sz) ([(h0, .inr (11, [.int 0, .ref m_tree, .ref m_data, .ref m_made, .ref m_status, .int 0, .ref m_tape, .ref m_paths, .ref m_pathSize, .null, .int 0, .int 0, .int 0, .int 0, .int 0, .int 0, .int 0, .int 0, .int 0, .int 0, .int 0, .int (-1), .int 0, .ref m_set, .ref m_to, .int 0, .int 0, .int 0, .int 0, .int 0, .int 0, .ref m_lifted, .int 0, .int 0, .int 0, .ref m_order, .int 0, .ref m_past, .int 0, .ref m_rowKind, .ref m_rowSteps, .ref m_rowPath, .ref m_rowWas, .ref m_rowIs, .ref m_pool, .ref m_rowsMany, .ref m_poolMany, .ref m_way, .int 0, .ref m_out, .int 0, .int 0, .ref m_notedThing, .ref m_notedIs, .ref m_votes, .int 0, .int 0, .ref m_treeThen, .int 0, .int 0, .int 0, .ref m_imageTree, .ref m_pastThen, .ref m_notedThingThen, .ref m_notedIsThen, .ref m_statusThen]))])) (va_A [(h0, .inr (11, [.int 0, .ref m_tree, .ref m_data, .ref m_made, .ref m_status, .int 0, .ref m_tape, .ref m_paths, .ref m_pathSize, .null, .int 0, .int 0, .int 0, .int 0, .int 0, .int 0, .int 0, .int 0, .int 0, .int 0, .int 0, .int (-1), .int 0, .ref m_set, .ref m_to, .int 0, .int 0, .int 0, .int 0, .int 0, .int 0, .ref m_lifted, .int 0, .int 0, .int 0, .ref m_order, .int 0, .ref m_past, .int 0, .ref m_rowKind, .ref m_rowSteps, .ref m_rowPath, .ref m_rowWas, .ref m_rowIs, .ref m_pool, .ref m_rowsMany, .ref m_poolMany, .ref m_way, .int 0, .ref m_out, .int 0, .int 0, .ref m_notedThing, .ref m_notedIs, .ref m_votes, .int 0, .int 0, .ref m_treeThen, .int 0, .int 0, .int 0, .ref m_imageTree, .ref m_pastThen, .ref m_notedThingThen, .ref m_notedIsThen, .ref m_statusThen])), (m_status, .inl (y 0, 3, .inl (fun _ => 0)))] sz)) 0 0 (va_A [(h0, .inr (11, [.int 0, .ref m_tree, .ref m_data, .ref m_made, .ref m_status, .int 0, .ref m_tape, .ref m_paths, .ref m_pathSize, .null, .int 0, .int 0, .int 0, .int 0, .int 0, .int 0, .int 0, .int 0, .int 0, .int 0, .int 0, .int (-1), .int 0, .ref m_set, .ref m_to, .int 0, .int 0, .int 0, .int 0, .int 0, .int 0, .ref m_lifted, .int 0, .int 0, .int 0, .ref m_order, .int 0, .ref m_past, .int 0, .ref m_rowKind, .ref m_rowSteps, .ref m_rowPath, .ref m_rowWas, .ref m_rowIs, .ref m_pool, .ref m_rowsMany, .ref m_poolMany, .ref m_way, .int 0, .ref m_out, .int 0, .int 0, .ref m_notedThing, .ref m_notedIs, .ref m_votes, .int 0, .int 0, .ref m_treeThen, .int 0, .int 0, .int 0, .ref m_imageTree, .ref m_pastThen, .ref m_notedThingThen, .ref m_notedIsThen, .ref m_statusThen])), (m_status, .inl (y 0, 3, .inl (fun _ => 0)))] sz) := by
  refine Met.ofW (cc := cX11_refuse) (maxL := 2) (ret := (some .int)) (by decide) rfl ?_
  intro p e s m args below meth c s₁ B hml hv
  obtain ⟨rfl, hsz, hP, hK, hD0⟩ := hv
  have hx := B.exec
  have hb := B.bytes
  have hr := B.returns
  have hts := atoms_spec (ws := wsX11_refuse) B.pre
  have hown : s.vm.findClass RX11 = some m.cls := findClass_of_methodNamed B.named
  have hlocks := B.notSynchronized
  subst hsz
  have hD := hD0.self (sz := s.heap.size)
  generalize hAe : va_A [(h0, .inr (11, [.int 0, .ref m_tree, .ref m_data, .ref m_made, .ref m_status, .int 0, .ref m_tape, .ref m_paths, .ref m_pathSize, .null, .int 0, .int 0, .int 0, .int 0, .int 0, .int 0, .int 0, .int 0, .int 0, .int 0, .int 0, .int (-1), .int 0, .ref m_set, .ref m_to, .int 0, .int 0, .int 0, .int 0, .int 0, .int 0, .ref m_lifted, .int 0, .int 0, .int 0, .ref m_order, .int 0, .ref m_past, .int 0, .ref m_rowKind, .ref m_rowSteps, .ref m_rowPath, .ref m_rowWas, .ref m_rowIs, .ref m_pool, .ref m_rowsMany, .ref m_poolMany, .ref m_way, .int 0, .ref m_out, .int 0, .int 0, .ref m_notedThing, .ref m_notedIs, .ref m_votes, .int 0, .int 0, .ref m_treeThen, .int 0, .int 0, .int 0, .ref m_imageTree, .ref m_pastThen, .ref m_notedThingThen, .ref m_notedIsThen, .ref m_statusThen])), (m_status, .inl (y 0, 3, .inl (fun _ => 0)))] s.heap.size = A at hD ⊢
  have hA : ∀ q : Nat, s.heap.size ≤ q → A q := fun q h => by rw [← hAe]; exact Or.inr h
  have hS : va_S A s.heap s.heap [] := va_S.rf
  have hP : va_P G vwCl [(h0, .inr (11, [.int 0, .ref m_tree, .ref m_data, .ref m_made, .ref m_status, .int 0, .ref m_tape, .ref m_paths, .ref m_pathSize, .null, .int 0, .int 0, .int 0, .int 0, .int 0, .int 0, .int 0, .int 0, .int 0, .int 0, .int 0, .int (-1), .int 0, .ref m_set, .ref m_to, .int 0, .int 0, .int 0, .int 0, .int 0, .int 0, .ref m_lifted, .int 0, .int 0, .int 0, .ref m_order, .int 0, .ref m_past, .int 0, .ref m_rowKind, .ref m_rowSteps, .ref m_rowPath, .ref m_rowWas, .ref m_rowIs, .ref m_pool, .ref m_rowsMany, .ref m_poolMany, .ref m_way, .int 0, .ref m_out, .int 0, .int 0, .ref m_notedThing, .ref m_notedIs, .ref m_votes, .int 0, .int 0, .ref m_treeThen, .int 0, .int 0, .int 0, .ref m_imageTree, .ref m_pastThen, .ref m_notedThingThen, .ref m_notedIsThen, .ref m_statusThen])), (m_status, .inl (y 0, 3, .inl (fun _ => 0)))] s.heap := hP
  have inX11 : ∀ w ∈ wsX110, w ∈ wsX11_refuse := by decide +kernel
  have hl := lv_entry ([.ref h0, .int 2]) (n := 2) (Nat.le_of_ble_eq_true rfl)
  rw [lg_entry_eq]
  generalize (lg_sl ([.ref h0, .int 2]) ++ List.replicate (2 - (lg_sl ([.ref h0, .int 2])).length) Slot.unset).toArray = ls at hl ⊢
  have hl : lv_has ls 2 [(0, .ref h0), (1, .int 2)] := hl
  refine lv_aload_n hx hb dX11_refuse_0 rfl (lv_at hl 0 rfl) ?_
  refine va_get (D := G) (ci := 11) (v := .ref m_status) (C := RX11) (T := TX11) (N := 66) hx hb hts inX11 hown hK.1 hP 0 rfl rfl 4 (by decide) (hts (.fieldLink RX11 19 "NestQueryModel" "status" "[I") (by decide +kernel)) (fun _ h9 => h9) rfl dX11_refuse_1 ?_
  refine lv_iload_n hx hb dX11_refuse_4 rfl (lv_at hl 1 rfl) ?_
  refine lv_dup2_11 hx hb dX11_refuse_5 rfl rfl ?_
  refine va_iald hx hb hK.1 hP 1 0 rfl rfl (i := 2) (nq_in (by decide)) dX11_refuse_6 ?_
  refine nq_top (z := 0) (rfl) ?_
  refine lv_iconst (v := 1) hx hb dX11_refuse_7 (by decide) ?_
  refine lv_iadd hx hb dX11_refuse_8 ?_
  refine nq_top (z := 1) (by decide) ?_
  refine va_iast hx hb hK.1 hP hD hS 1 0 rfl rfl (i := 2) (nq_in (by decide)) dX11_refuse_9 (fun H locs hP hD hS => ?_)
  have hP : va_P G vwCl [(h0, .inr (11, [.int 0, .ref m_tree, .ref m_data, .ref m_made, .ref m_status, .int 0, .ref m_tape, .ref m_paths, .ref m_pathSize, .null, .int 0, .int 0, .int 0, .int 0, .int 0, .int 0, .int 0, .int 0, .int 0, .int 0, .int 0, .int (-1), .int 0, .ref m_set, .ref m_to, .int 0, .int 0, .int 0, .int 0, .int 0, .int 0, .ref m_lifted, .int 0, .int 0, .int 0, .ref m_order, .int 0, .ref m_past, .int 0, .ref m_rowKind, .ref m_rowSteps, .ref m_rowPath, .ref m_rowWas, .ref m_rowIs, .ref m_pool, .ref m_rowsMany, .ref m_poolMany, .ref m_way, .int 0, .ref m_out, .int 0, .int 0, .ref m_notedThing, .ref m_notedIs, .ref m_votes, .int 0, .int 0, .ref m_treeThen, .int 0, .int 0, .int 0, .ref m_imageTree, .ref m_pastThen, .ref m_notedThingThen, .ref m_notedIsThen, .ref m_statusThen])), (m_status, .inl (y 0, 3, .inl (upd (fun _ => 0) 2 1)))] H := hP
  have hD : va_D A [(h0, .inr (11, [.int 0, .ref m_tree, .ref m_data, .ref m_made, .ref m_status, .int 0, .ref m_tape, .ref m_paths, .ref m_pathSize, .null, .int 0, .int 0, .int 0, .int 0, .int 0, .int 0, .int 0, .int 0, .int 0, .int 0, .int 0, .int (-1), .int 0, .ref m_set, .ref m_to, .int 0, .int 0, .int 0, .int 0, .int 0, .int 0, .ref m_lifted, .int 0, .int 0, .int 0, .ref m_order, .int 0, .ref m_past, .int 0, .ref m_rowKind, .ref m_rowSteps, .ref m_rowPath, .ref m_rowWas, .ref m_rowIs, .ref m_pool, .ref m_rowsMany, .ref m_poolMany, .ref m_way, .int 0, .ref m_out, .int 0, .int 0, .ref m_notedThing, .ref m_notedIs, .ref m_votes, .int 0, .int 0, .ref m_treeThen, .int 0, .int 0, .int 0, .ref m_imageTree, .ref m_pastThen, .ref m_notedThingThen, .ref m_notedIsThen, .ref m_statusThen])), (m_status, .inl (y 0, 3, .inl (upd (fun _ => 0) 2 1)))] := hD
  refine lv_iconst (v := (-1)) hx hb dX11_refuse_10 (by decide) ?_
  have hP9 := hP.sub (ws' := [(h0, .inr (11, [.int 0, .ref m_tree, .ref m_data, .ref m_made, .ref m_status, .int 0, .ref m_tape, .ref m_paths, .ref m_pathSize, .null, .int 0, .int 0, .int 0, .int 0, .int 0, .int 0, .int 0, .int 0, .int 0, .int 0, .int 0, .int (-1), .int 0, .ref m_set, .ref m_to, .int 0, .int 0, .int 0, .int 0, .int 0, .int 0, .ref m_lifted, .int 0, .int 0, .int 0, .ref m_order, .int 0, .ref m_past, .int 0, .ref m_rowKind, .ref m_rowSteps, .ref m_rowPath, .ref m_rowWas, .ref m_rowIs, .ref m_pool, .ref m_rowsMany, .ref m_poolMany, .ref m_way, .int 0, .ref m_out, .int 0, .int 0, .ref m_notedThing, .ref m_notedIs, .ref m_votes, .int 0, .int 0, .ref m_treeThen, .int 0, .int 0, .int 0, .ref m_imageTree, .ref m_pastThen, .ref m_notedThingThen, .ref m_notedIsThen, .ref m_statusThen]))]) [0] rfl
  have hD9 := hD.sub (ws' := [(h0, .inr (11, [.int 0, .ref m_tree, .ref m_data, .ref m_made, .ref m_status, .int 0, .ref m_tape, .ref m_paths, .ref m_pathSize, .null, .int 0, .int 0, .int 0, .int 0, .int 0, .int 0, .int 0, .int 0, .int 0, .int 0, .int 0, .int (-1), .int 0, .ref m_set, .ref m_to, .int 0, .int 0, .int 0, .int 0, .int 0, .int 0, .ref m_lifted, .int 0, .int 0, .int 0, .ref m_order, .int 0, .ref m_past, .int 0, .ref m_rowKind, .ref m_rowSteps, .ref m_rowPath, .ref m_rowWas, .ref m_rowIs, .ref m_pool, .ref m_rowsMany, .ref m_poolMany, .ref m_way, .int 0, .ref m_out, .int 0, .int 0, .ref m_notedThing, .ref m_notedIs, .ref m_votes, .int 0, .int 0, .ref m_treeThen, .int 0, .int 0, .int 0, .ref m_imageTree, .ref m_pastThen, .ref m_notedThingThen, .ref m_notedIsThen, .ref m_statusThen]))]) [0] (by decide) rfl
  refine W.widen (k := 0) (n := 0) (Nat.le_of_ble_eq_true rfl) (Nat.le_of_ble_eq_true rfl) ?_
  exact W.iret (v := (-1)) hx hb hr (fun t ht hW => ⟨⟨(-1), (), rfl, rfl, by rw [ht]; exact hP9, by first | exact hD9 | (rw [hAe]; exact hD9)⟩, hS.F ht⟩) hS.2.2 dX11_refuse_11

set_option maxHeartbeats 4000000 in
set_option maxRecDepth 100000 in
theorem c_m_fail1 (l : Launch) (G : va_G) (y : Nat → ClassId) (sz : Nat) (h0 : Nat) (m_tree : Nat) (m_data : Nat) (m_made : Nat) (m_status : Nat) (m_tape : Nat) (m_paths : Nat) (m_pathSize : Nat) (m_set : Nat) (m_to : Nat) (m_lifted : Nat) (m_order : Nat) (m_past : Nat) (m_rowKind : Nat) (m_rowSteps : Nat) (m_rowPath : Nat) (m_rowWas : Nat) (m_rowIs : Nat) (m_pool : Nat) (m_rowsMany : Nat) (m_poolMany : Nat) (m_way : Nat) (m_out : Nat) (m_notedThing : Nat) (m_notedIs : Nat) (m_votes : Nat) (m_treeThen : Nat) (m_imageTree : Nat) (m_pastThen : Nat) (m_notedThingThen : Nat) (m_notedIsThen : Nat) (m_statusThen : Nat)  : Met l yX11_fail wsX11_fail ({ frames := 0, cells := 0, slots := 0, locals := 0 }) (nq_P G y sz [.ref h0, .int 1] [(h0, .inr (11, [.int 0, .ref m_tree, .ref m_data, .ref m_made, .ref m_status, .int 0, .ref m_tape, .ref m_paths, .ref m_pathSize, .null, .int 0, .int 0, .int 0, .int 0, .int 0, .int 0, .int 0, .int 0, .int 0, .int 0, .int 0, .int (-1), .int 0, .ref m_set, .ref m_to, .int 0, .int 0, .int 0, .int 0, .int 0, .int 0, .ref m_lifted, .int 0, .int 0, .int 0, .ref m_order, .int 0, .ref m_past, .int 0, .ref m_rowKind, .ref m_rowSteps, .ref m_rowPath, .ref m_rowWas, .ref m_rowIs, .ref m_pool, .ref m_rowsMany, .ref m_poolMany, .ref m_way, .int 0, .ref m_out, .int 0, .int 0, .ref m_notedThing, .ref m_notedIs, .ref m_votes, .int 0, .int 0, .ref m_treeThen, .int 0, .int 0, .int 0, .ref m_imageTree, .ref m_pastThen, .ref m_notedThingThen, .ref m_notedIsThen, .ref m_statusThen]))]) (va_Qi (fun (r : Int32) (_ : Unit) => r = 0) (fun (u : Unit) t9 => va_P G vwCl ([(h0, .inr (11, [.int 1, .ref m_tree, .ref m_data, .ref m_made, .ref m_status, .int 0, .ref m_tape, .ref m_paths, .ref m_pathSize, .null, .int 0, .int 0, .int 0, .int 0, .int 0, .int 0, .int 0, .int 0, .int 0, .int 0, .int 0, .int (-1), .int 0, .ref m_set, .ref m_to, .int 0, .int 0, .int 0, .int 0, .int 0, .int 0, .ref m_lifted, .int 0, .int 0, .int 0, .ref m_order, .int 0, .ref m_past, .int 0, .ref m_rowKind, .ref m_rowSteps, .ref m_rowPath, .ref m_rowWas, .ref m_rowIs, .ref m_pool, .ref m_rowsMany, .ref m_poolMany, .ref m_way, .int 0, .ref m_out, .int 0, .int 0, .ref m_notedThing, .ref m_notedIs, .ref m_votes, .int 0, .int 0, .ref m_treeThen, .int 0, .int 0, .int 0, .ref m_imageTree, .ref m_pastThen, .ref m_notedThingThen, .ref m_notedIsThen, .ref m_statusThen]))]) t9.heap ∧ va_D (va_A [(h0, .inr (11, [.int 0, .ref m_tree, .ref m_data, .ref m_made, .ref m_status, .int 0, .ref m_tape, .ref m_paths, .ref m_pathSize, .null, .int 0, .int 0, .int 0, .int 0, .int 0, .int 0, .int 0, .int 0, .int 0, .int 0, .int 0, .int (-1), .int 0, .ref m_set, .ref m_to, .int 0, .int 0, .int 0, .int 0, .int 0, .int 0, .ref m_lifted, .int 0, .int 0, .int 0, .ref m_order, .int 0, .ref m_past, .int 0, .ref m_rowKind, .ref m_rowSteps, .ref m_rowPath, .ref m_rowWas, .ref m_rowIs, .ref m_pool, .ref m_rowsMany, .ref m_poolMany, .ref m_way, .int 0, .ref m_out, .int 0, .int 0, .ref m_notedThing, .ref m_notedIs, .ref m_votes, .int 0, .int 0, .ref m_treeThen, .int 0, .int 0, .int 0, .ref m_imageTree, .ref m_pastThen, .ref m_notedThingThen, .ref m_notedIsThen, .ref m_statusThen]))] sz) ([(h0, .inr (11, [.int 1, .ref m_tree, .ref m_data, .ref m_made, .ref m_status, .int 0, .ref m_tape, .ref m_paths, .ref m_pathSize, .null, .int 0, .int 0, .int 0, .int 0, .int 0, .int 0, .int 0, .int 0, .int 0, .int 0, .int 0, .int (-1), .int 0, .ref m_set, .ref m_to, .int 0, .int 0, .int 0, .int 0, .int 0, .int 0, .ref m_lifted, .int 0, .int 0, .int 0, .ref m_order, .int 0, .ref m_past, .int 0, .ref m_rowKind, .ref m_rowSteps, .ref m_rowPath, .ref m_rowWas, .ref m_rowIs, .ref m_pool, .ref m_rowsMany, .ref m_poolMany, .ref m_way, .int 0, .ref m_out, .int 0, .int 0, .ref m_notedThing, .ref m_notedIs, .ref m_votes, .int 0, .int 0, .ref m_treeThen, .int 0, .int 0, .int 0, .ref m_imageTree, .ref m_pastThen, .ref m_notedThingThen, .ref m_notedIsThen, .ref m_statusThen]))])) (va_A [(h0, .inr (11, [.int 0, .ref m_tree, .ref m_data, .ref m_made, .ref m_status, .int 0, .ref m_tape, .ref m_paths, .ref m_pathSize, .null, .int 0, .int 0, .int 0, .int 0, .int 0, .int 0, .int 0, .int 0, .int 0, .int 0, .int 0, .int (-1), .int 0, .ref m_set, .ref m_to, .int 0, .int 0, .int 0, .int 0, .int 0, .int 0, .ref m_lifted, .int 0, .int 0, .int 0, .ref m_order, .int 0, .ref m_past, .int 0, .ref m_rowKind, .ref m_rowSteps, .ref m_rowPath, .ref m_rowWas, .ref m_rowIs, .ref m_pool, .ref m_rowsMany, .ref m_poolMany, .ref m_way, .int 0, .ref m_out, .int 0, .int 0, .ref m_notedThing, .ref m_notedIs, .ref m_votes, .int 0, .int 0, .ref m_treeThen, .int 0, .int 0, .int 0, .ref m_imageTree, .ref m_pastThen, .ref m_notedThingThen, .ref m_notedIsThen, .ref m_statusThen]))] sz)) 0 0 (va_A [(h0, .inr (11, [.int 0, .ref m_tree, .ref m_data, .ref m_made, .ref m_status, .int 0, .ref m_tape, .ref m_paths, .ref m_pathSize, .null, .int 0, .int 0, .int 0, .int 0, .int 0, .int 0, .int 0, .int 0, .int 0, .int 0, .int 0, .int (-1), .int 0, .ref m_set, .ref m_to, .int 0, .int 0, .int 0, .int 0, .int 0, .int 0, .ref m_lifted, .int 0, .int 0, .int 0, .ref m_order, .int 0, .ref m_past, .int 0, .ref m_rowKind, .ref m_rowSteps, .ref m_rowPath, .ref m_rowWas, .ref m_rowIs, .ref m_pool, .ref m_rowsMany, .ref m_poolMany, .ref m_way, .int 0, .ref m_out, .int 0, .int 0, .ref m_notedThing, .ref m_notedIs, .ref m_votes, .int 0, .int 0, .ref m_treeThen, .int 0, .int 0, .int 0, .ref m_imageTree, .ref m_pastThen, .ref m_notedThingThen, .ref m_notedIsThen, .ref m_statusThen]))] sz) := by
  refine Met.ofW (cc := cX11_fail) (maxL := 2) (ret := (some .int)) (by decide) rfl ?_
  intro p e s m args below meth c s₁ B hml hv
  obtain ⟨rfl, hsz, hP, hK, hD0⟩ := hv
  have hx := B.exec
  have hb := B.bytes
  have hr := B.returns
  have hts := atoms_spec (ws := wsX11_fail) B.pre
  have hown : s.vm.findClass RX11 = some m.cls := findClass_of_methodNamed B.named
  have hlocks := B.notSynchronized
  subst hsz
  have hD := hD0.self (sz := s.heap.size)
  generalize hAe : va_A [(h0, .inr (11, [.int 0, .ref m_tree, .ref m_data, .ref m_made, .ref m_status, .int 0, .ref m_tape, .ref m_paths, .ref m_pathSize, .null, .int 0, .int 0, .int 0, .int 0, .int 0, .int 0, .int 0, .int 0, .int 0, .int 0, .int 0, .int (-1), .int 0, .ref m_set, .ref m_to, .int 0, .int 0, .int 0, .int 0, .int 0, .int 0, .ref m_lifted, .int 0, .int 0, .int 0, .ref m_order, .int 0, .ref m_past, .int 0, .ref m_rowKind, .ref m_rowSteps, .ref m_rowPath, .ref m_rowWas, .ref m_rowIs, .ref m_pool, .ref m_rowsMany, .ref m_poolMany, .ref m_way, .int 0, .ref m_out, .int 0, .int 0, .ref m_notedThing, .ref m_notedIs, .ref m_votes, .int 0, .int 0, .ref m_treeThen, .int 0, .int 0, .int 0, .ref m_imageTree, .ref m_pastThen, .ref m_notedThingThen, .ref m_notedIsThen, .ref m_statusThen]))] s.heap.size = A at hD ⊢
  have hA : ∀ q : Nat, s.heap.size ≤ q → A q := fun q h => by rw [← hAe]; exact Or.inr h
  have hS : va_S A s.heap s.heap [] := va_S.rf
  have hP : va_P G vwCl [(h0, .inr (11, [.int 0, .ref m_tree, .ref m_data, .ref m_made, .ref m_status, .int 0, .ref m_tape, .ref m_paths, .ref m_pathSize, .null, .int 0, .int 0, .int 0, .int 0, .int 0, .int 0, .int 0, .int 0, .int 0, .int 0, .int 0, .int (-1), .int 0, .ref m_set, .ref m_to, .int 0, .int 0, .int 0, .int 0, .int 0, .int 0, .ref m_lifted, .int 0, .int 0, .int 0, .ref m_order, .int 0, .ref m_past, .int 0, .ref m_rowKind, .ref m_rowSteps, .ref m_rowPath, .ref m_rowWas, .ref m_rowIs, .ref m_pool, .ref m_rowsMany, .ref m_poolMany, .ref m_way, .int 0, .ref m_out, .int 0, .int 0, .ref m_notedThing, .ref m_notedIs, .ref m_votes, .int 0, .int 0, .ref m_treeThen, .int 0, .int 0, .int 0, .ref m_imageTree, .ref m_pastThen, .ref m_notedThingThen, .ref m_notedIsThen, .ref m_statusThen]))] s.heap := hP
  have inX11 : ∀ w ∈ wsX110, w ∈ wsX11_fail := by decide +kernel
  have hl := lv_entry ([.ref h0, .int 1]) (n := 2) (Nat.le_of_ble_eq_true rfl)
  rw [lg_entry_eq]
  generalize (lg_sl ([.ref h0, .int 1]) ++ List.replicate (2 - (lg_sl ([.ref h0, .int 1])).length) Slot.unset).toArray = ls at hl ⊢
  have hl : lv_has ls 2 [(0, .ref h0), (1, .int 1)] := hl
  refine lv_aload_n hx hb dX11_fail_0 rfl (lv_at hl 0 rfl) ?_
  refine lv_iload_n hx hb dX11_fail_1 rfl (lv_at hl 1 rfl) ?_
  refine va_put (D := G) (ci := 11) (v := .int 1) (ty := .int) (C := RX11) (T := TX11) (N := 66) hx hb hts inX11 tyX11 tyX11_ok nmX11 hown hK.1 hP hD hS 0 rfl rfl 0 (by decide) (hts (.fieldLink RX11 111 "NestQueryModel" "code" "I") (by decide +kernel)) (fun _ h9 => h9) rfl (by decide +kernel) rfl rfl (Nat.le_of_ble_eq_true rfl) dX11_fail_2 (fun H locs hP hD hS => ?_)
  have hP : va_P G vwCl [(h0, .inr (11, [.int 1, .ref m_tree, .ref m_data, .ref m_made, .ref m_status, .int 0, .ref m_tape, .ref m_paths, .ref m_pathSize, .null, .int 0, .int 0, .int 0, .int 0, .int 0, .int 0, .int 0, .int 0, .int 0, .int 0, .int 0, .int (-1), .int 0, .ref m_set, .ref m_to, .int 0, .int 0, .int 0, .int 0, .int 0, .int 0, .ref m_lifted, .int 0, .int 0, .int 0, .ref m_order, .int 0, .ref m_past, .int 0, .ref m_rowKind, .ref m_rowSteps, .ref m_rowPath, .ref m_rowWas, .ref m_rowIs, .ref m_pool, .ref m_rowsMany, .ref m_poolMany, .ref m_way, .int 0, .ref m_out, .int 0, .int 0, .ref m_notedThing, .ref m_notedIs, .ref m_votes, .int 0, .int 0, .ref m_treeThen, .int 0, .int 0, .int 0, .ref m_imageTree, .ref m_pastThen, .ref m_notedThingThen, .ref m_notedIsThen, .ref m_statusThen]))] H := hP
  have hD : va_D A [(h0, .inr (11, [.int 1, .ref m_tree, .ref m_data, .ref m_made, .ref m_status, .int 0, .ref m_tape, .ref m_paths, .ref m_pathSize, .null, .int 0, .int 0, .int 0, .int 0, .int 0, .int 0, .int 0, .int 0, .int 0, .int 0, .int 0, .int (-1), .int 0, .ref m_set, .ref m_to, .int 0, .int 0, .int 0, .int 0, .int 0, .int 0, .ref m_lifted, .int 0, .int 0, .int 0, .ref m_order, .int 0, .ref m_past, .int 0, .ref m_rowKind, .ref m_rowSteps, .ref m_rowPath, .ref m_rowWas, .ref m_rowIs, .ref m_pool, .ref m_rowsMany, .ref m_poolMany, .ref m_way, .int 0, .ref m_out, .int 0, .int 0, .ref m_notedThing, .ref m_notedIs, .ref m_votes, .int 0, .int 0, .ref m_treeThen, .int 0, .int 0, .int 0, .ref m_imageTree, .ref m_pastThen, .ref m_notedThingThen, .ref m_notedIsThen, .ref m_statusThen]))] := hD
  refine lv_iconst (v := 0) hx hb dX11_fail_5 (by decide) ?_
  have hP9 := hP.sub (ws' := [(h0, .inr (11, [.int 1, .ref m_tree, .ref m_data, .ref m_made, .ref m_status, .int 0, .ref m_tape, .ref m_paths, .ref m_pathSize, .null, .int 0, .int 0, .int 0, .int 0, .int 0, .int 0, .int 0, .int 0, .int 0, .int 0, .int 0, .int (-1), .int 0, .ref m_set, .ref m_to, .int 0, .int 0, .int 0, .int 0, .int 0, .int 0, .ref m_lifted, .int 0, .int 0, .int 0, .ref m_order, .int 0, .ref m_past, .int 0, .ref m_rowKind, .ref m_rowSteps, .ref m_rowPath, .ref m_rowWas, .ref m_rowIs, .ref m_pool, .ref m_rowsMany, .ref m_poolMany, .ref m_way, .int 0, .ref m_out, .int 0, .int 0, .ref m_notedThing, .ref m_notedIs, .ref m_votes, .int 0, .int 0, .ref m_treeThen, .int 0, .int 0, .int 0, .ref m_imageTree, .ref m_pastThen, .ref m_notedThingThen, .ref m_notedIsThen, .ref m_statusThen]))]) [0] rfl
  have hD9 := hD.sub (ws' := [(h0, .inr (11, [.int 1, .ref m_tree, .ref m_data, .ref m_made, .ref m_status, .int 0, .ref m_tape, .ref m_paths, .ref m_pathSize, .null, .int 0, .int 0, .int 0, .int 0, .int 0, .int 0, .int 0, .int 0, .int 0, .int 0, .int 0, .int (-1), .int 0, .ref m_set, .ref m_to, .int 0, .int 0, .int 0, .int 0, .int 0, .int 0, .ref m_lifted, .int 0, .int 0, .int 0, .ref m_order, .int 0, .ref m_past, .int 0, .ref m_rowKind, .ref m_rowSteps, .ref m_rowPath, .ref m_rowWas, .ref m_rowIs, .ref m_pool, .ref m_rowsMany, .ref m_poolMany, .ref m_way, .int 0, .ref m_out, .int 0, .int 0, .ref m_notedThing, .ref m_notedIs, .ref m_votes, .int 0, .int 0, .ref m_treeThen, .int 0, .int 0, .int 0, .ref m_imageTree, .ref m_pastThen, .ref m_notedThingThen, .ref m_notedIsThen, .ref m_statusThen]))]) [0] (by decide) rfl
  refine W.widen (k := 0) (n := 0) (Nat.le_of_ble_eq_true rfl) (Nat.le_of_ble_eq_true rfl) ?_
  exact W.iret (v := 0) hx hb hr (fun t ht hW => ⟨⟨0, (), rfl, rfl, by rw [ht]; exact hP9, by first | exact hD9 | (rw [hAe]; exact hD9)⟩, hS.F ht⟩) hS.2.2 dX11_fail_6

set_option maxHeartbeats 4000000 in
set_option maxRecDepth 100000 in
theorem c_m_fail2 (l : Launch) (G : va_G) (y : Nat → ClassId) (sz : Nat) (h0 : Nat) (m_tree : Nat) (m_data : Nat) (m_made : Nat) (m_status : Nat) (m_tape : Nat) (m_paths : Nat) (m_pathSize : Nat) (m_set : Nat) (m_to : Nat) (m_lifted : Nat) (m_order : Nat) (m_past : Nat) (m_rowKind : Nat) (m_rowSteps : Nat) (m_rowPath : Nat) (m_rowWas : Nat) (m_rowIs : Nat) (m_pool : Nat) (m_rowsMany : Nat) (m_poolMany : Nat) (m_way : Nat) (m_out : Nat) (m_notedThing : Nat) (m_notedIs : Nat) (m_votes : Nat) (m_treeThen : Nat) (m_imageTree : Nat) (m_pastThen : Nat) (m_notedThingThen : Nat) (m_notedIsThen : Nat) (m_statusThen : Nat)  : Met l yX11_fail wsX11_fail ({ frames := 0, cells := 0, slots := 0, locals := 0 }) (nq_P G y sz [.ref h0, .int 2] [(h0, .inr (11, [.int 0, .ref m_tree, .ref m_data, .ref m_made, .ref m_status, .int 0, .ref m_tape, .ref m_paths, .ref m_pathSize, .null, .int 0, .int 0, .int 0, .int 0, .int 0, .int 0, .int 0, .int 0, .int 0, .int 0, .int 0, .int (-1), .int 0, .ref m_set, .ref m_to, .int 0, .int 0, .int 0, .int 0, .int 0, .int 0, .ref m_lifted, .int 0, .int 0, .int 0, .ref m_order, .int 0, .ref m_past, .int 0, .ref m_rowKind, .ref m_rowSteps, .ref m_rowPath, .ref m_rowWas, .ref m_rowIs, .ref m_pool, .ref m_rowsMany, .ref m_poolMany, .ref m_way, .int 0, .ref m_out, .int 0, .int 0, .ref m_notedThing, .ref m_notedIs, .ref m_votes, .int 0, .int 0, .ref m_treeThen, .int 0, .int 0, .int 0, .ref m_imageTree, .ref m_pastThen, .ref m_notedThingThen, .ref m_notedIsThen, .ref m_statusThen]))]) (va_Qi (fun (r : Int32) (_ : Unit) => r = 0) (fun (u : Unit) t9 => va_P G vwCl ([(h0, .inr (11, [.int 2, .ref m_tree, .ref m_data, .ref m_made, .ref m_status, .int 0, .ref m_tape, .ref m_paths, .ref m_pathSize, .null, .int 0, .int 0, .int 0, .int 0, .int 0, .int 0, .int 0, .int 0, .int 0, .int 0, .int 0, .int (-1), .int 0, .ref m_set, .ref m_to, .int 0, .int 0, .int 0, .int 0, .int 0, .int 0, .ref m_lifted, .int 0, .int 0, .int 0, .ref m_order, .int 0, .ref m_past, .int 0, .ref m_rowKind, .ref m_rowSteps, .ref m_rowPath, .ref m_rowWas, .ref m_rowIs, .ref m_pool, .ref m_rowsMany, .ref m_poolMany, .ref m_way, .int 0, .ref m_out, .int 0, .int 0, .ref m_notedThing, .ref m_notedIs, .ref m_votes, .int 0, .int 0, .ref m_treeThen, .int 0, .int 0, .int 0, .ref m_imageTree, .ref m_pastThen, .ref m_notedThingThen, .ref m_notedIsThen, .ref m_statusThen]))]) t9.heap ∧ va_D (va_A [(h0, .inr (11, [.int 0, .ref m_tree, .ref m_data, .ref m_made, .ref m_status, .int 0, .ref m_tape, .ref m_paths, .ref m_pathSize, .null, .int 0, .int 0, .int 0, .int 0, .int 0, .int 0, .int 0, .int 0, .int 0, .int 0, .int 0, .int (-1), .int 0, .ref m_set, .ref m_to, .int 0, .int 0, .int 0, .int 0, .int 0, .int 0, .ref m_lifted, .int 0, .int 0, .int 0, .ref m_order, .int 0, .ref m_past, .int 0, .ref m_rowKind, .ref m_rowSteps, .ref m_rowPath, .ref m_rowWas, .ref m_rowIs, .ref m_pool, .ref m_rowsMany, .ref m_poolMany, .ref m_way, .int 0, .ref m_out, .int 0, .int 0, .ref m_notedThing, .ref m_notedIs, .ref m_votes, .int 0, .int 0, .ref m_treeThen, .int 0, .int 0, .int 0, .ref m_imageTree, .ref m_pastThen, .ref m_notedThingThen, .ref m_notedIsThen, .ref m_statusThen]))] sz) ([(h0, .inr (11, [.int 2, .ref m_tree, .ref m_data, .ref m_made, .ref m_status, .int 0, .ref m_tape, .ref m_paths, .ref m_pathSize, .null, .int 0, .int 0, .int 0, .int 0, .int 0, .int 0, .int 0, .int 0, .int 0, .int 0, .int 0, .int (-1), .int 0, .ref m_set, .ref m_to, .int 0, .int 0, .int 0, .int 0, .int 0, .int 0, .ref m_lifted, .int 0, .int 0, .int 0, .ref m_order, .int 0, .ref m_past, .int 0, .ref m_rowKind, .ref m_rowSteps, .ref m_rowPath, .ref m_rowWas, .ref m_rowIs, .ref m_pool, .ref m_rowsMany, .ref m_poolMany, .ref m_way, .int 0, .ref m_out, .int 0, .int 0, .ref m_notedThing, .ref m_notedIs, .ref m_votes, .int 0, .int 0, .ref m_treeThen, .int 0, .int 0, .int 0, .ref m_imageTree, .ref m_pastThen, .ref m_notedThingThen, .ref m_notedIsThen, .ref m_statusThen]))])) (va_A [(h0, .inr (11, [.int 0, .ref m_tree, .ref m_data, .ref m_made, .ref m_status, .int 0, .ref m_tape, .ref m_paths, .ref m_pathSize, .null, .int 0, .int 0, .int 0, .int 0, .int 0, .int 0, .int 0, .int 0, .int 0, .int 0, .int 0, .int (-1), .int 0, .ref m_set, .ref m_to, .int 0, .int 0, .int 0, .int 0, .int 0, .int 0, .ref m_lifted, .int 0, .int 0, .int 0, .ref m_order, .int 0, .ref m_past, .int 0, .ref m_rowKind, .ref m_rowSteps, .ref m_rowPath, .ref m_rowWas, .ref m_rowIs, .ref m_pool, .ref m_rowsMany, .ref m_poolMany, .ref m_way, .int 0, .ref m_out, .int 0, .int 0, .ref m_notedThing, .ref m_notedIs, .ref m_votes, .int 0, .int 0, .ref m_treeThen, .int 0, .int 0, .int 0, .ref m_imageTree, .ref m_pastThen, .ref m_notedThingThen, .ref m_notedIsThen, .ref m_statusThen]))] sz)) 0 0 (va_A [(h0, .inr (11, [.int 0, .ref m_tree, .ref m_data, .ref m_made, .ref m_status, .int 0, .ref m_tape, .ref m_paths, .ref m_pathSize, .null, .int 0, .int 0, .int 0, .int 0, .int 0, .int 0, .int 0, .int 0, .int 0, .int 0, .int 0, .int (-1), .int 0, .ref m_set, .ref m_to, .int 0, .int 0, .int 0, .int 0, .int 0, .int 0, .ref m_lifted, .int 0, .int 0, .int 0, .ref m_order, .int 0, .ref m_past, .int 0, .ref m_rowKind, .ref m_rowSteps, .ref m_rowPath, .ref m_rowWas, .ref m_rowIs, .ref m_pool, .ref m_rowsMany, .ref m_poolMany, .ref m_way, .int 0, .ref m_out, .int 0, .int 0, .ref m_notedThing, .ref m_notedIs, .ref m_votes, .int 0, .int 0, .ref m_treeThen, .int 0, .int 0, .int 0, .ref m_imageTree, .ref m_pastThen, .ref m_notedThingThen, .ref m_notedIsThen, .ref m_statusThen]))] sz) := by
  refine Met.ofW (cc := cX11_fail) (maxL := 2) (ret := (some .int)) (by decide) rfl ?_
  intro p e s m args below meth c s₁ B hml hv
  obtain ⟨rfl, hsz, hP, hK, hD0⟩ := hv
  have hx := B.exec
  have hb := B.bytes
  have hr := B.returns
  have hts := atoms_spec (ws := wsX11_fail) B.pre
  have hown : s.vm.findClass RX11 = some m.cls := findClass_of_methodNamed B.named
  have hlocks := B.notSynchronized
  subst hsz
  have hD := hD0.self (sz := s.heap.size)
  generalize hAe : va_A [(h0, .inr (11, [.int 0, .ref m_tree, .ref m_data, .ref m_made, .ref m_status, .int 0, .ref m_tape, .ref m_paths, .ref m_pathSize, .null, .int 0, .int 0, .int 0, .int 0, .int 0, .int 0, .int 0, .int 0, .int 0, .int 0, .int 0, .int (-1), .int 0, .ref m_set, .ref m_to, .int 0, .int 0, .int 0, .int 0, .int 0, .int 0, .ref m_lifted, .int 0, .int 0, .int 0, .ref m_order, .int 0, .ref m_past, .int 0, .ref m_rowKind, .ref m_rowSteps, .ref m_rowPath, .ref m_rowWas, .ref m_rowIs, .ref m_pool, .ref m_rowsMany, .ref m_poolMany, .ref m_way, .int 0, .ref m_out, .int 0, .int 0, .ref m_notedThing, .ref m_notedIs, .ref m_votes, .int 0, .int 0, .ref m_treeThen, .int 0, .int 0, .int 0, .ref m_imageTree, .ref m_pastThen, .ref m_notedThingThen, .ref m_notedIsThen, .ref m_statusThen]))] s.heap.size = A at hD ⊢
  have hA : ∀ q : Nat, s.heap.size ≤ q → A q := fun q h => by rw [← hAe]; exact Or.inr h
  have hS : va_S A s.heap s.heap [] := va_S.rf
  have hP : va_P G vwCl [(h0, .inr (11, [.int 0, .ref m_tree, .ref m_data, .ref m_made, .ref m_status, .int 0, .ref m_tape, .ref m_paths, .ref m_pathSize, .null, .int 0, .int 0, .int 0, .int 0, .int 0, .int 0, .int 0, .int 0, .int 0, .int 0, .int 0, .int (-1), .int 0, .ref m_set, .ref m_to, .int 0, .int 0, .int 0, .int 0, .int 0, .int 0, .ref m_lifted, .int 0, .int 0, .int 0, .ref m_order, .int 0, .ref m_past, .int 0, .ref m_rowKind, .ref m_rowSteps, .ref m_rowPath, .ref m_rowWas, .ref m_rowIs, .ref m_pool, .ref m_rowsMany, .ref m_poolMany, .ref m_way, .int 0, .ref m_out, .int 0, .int 0, .ref m_notedThing, .ref m_notedIs, .ref m_votes, .int 0, .int 0, .ref m_treeThen, .int 0, .int 0, .int 0, .ref m_imageTree, .ref m_pastThen, .ref m_notedThingThen, .ref m_notedIsThen, .ref m_statusThen]))] s.heap := hP
  have inX11 : ∀ w ∈ wsX110, w ∈ wsX11_fail := by decide +kernel
  have hl := lv_entry ([.ref h0, .int 2]) (n := 2) (Nat.le_of_ble_eq_true rfl)
  rw [lg_entry_eq]
  generalize (lg_sl ([.ref h0, .int 2]) ++ List.replicate (2 - (lg_sl ([.ref h0, .int 2])).length) Slot.unset).toArray = ls at hl ⊢
  have hl : lv_has ls 2 [(0, .ref h0), (1, .int 2)] := hl
  refine lv_aload_n hx hb dX11_fail_0 rfl (lv_at hl 0 rfl) ?_
  refine lv_iload_n hx hb dX11_fail_1 rfl (lv_at hl 1 rfl) ?_
  refine va_put (D := G) (ci := 11) (v := .int 2) (ty := .int) (C := RX11) (T := TX11) (N := 66) hx hb hts inX11 tyX11 tyX11_ok nmX11 hown hK.1 hP hD hS 0 rfl rfl 0 (by decide) (hts (.fieldLink RX11 111 "NestQueryModel" "code" "I") (by decide +kernel)) (fun _ h9 => h9) rfl (by decide +kernel) rfl rfl (Nat.le_of_ble_eq_true rfl) dX11_fail_2 (fun H locs hP hD hS => ?_)
  have hP : va_P G vwCl [(h0, .inr (11, [.int 2, .ref m_tree, .ref m_data, .ref m_made, .ref m_status, .int 0, .ref m_tape, .ref m_paths, .ref m_pathSize, .null, .int 0, .int 0, .int 0, .int 0, .int 0, .int 0, .int 0, .int 0, .int 0, .int 0, .int 0, .int (-1), .int 0, .ref m_set, .ref m_to, .int 0, .int 0, .int 0, .int 0, .int 0, .int 0, .ref m_lifted, .int 0, .int 0, .int 0, .ref m_order, .int 0, .ref m_past, .int 0, .ref m_rowKind, .ref m_rowSteps, .ref m_rowPath, .ref m_rowWas, .ref m_rowIs, .ref m_pool, .ref m_rowsMany, .ref m_poolMany, .ref m_way, .int 0, .ref m_out, .int 0, .int 0, .ref m_notedThing, .ref m_notedIs, .ref m_votes, .int 0, .int 0, .ref m_treeThen, .int 0, .int 0, .int 0, .ref m_imageTree, .ref m_pastThen, .ref m_notedThingThen, .ref m_notedIsThen, .ref m_statusThen]))] H := hP
  have hD : va_D A [(h0, .inr (11, [.int 2, .ref m_tree, .ref m_data, .ref m_made, .ref m_status, .int 0, .ref m_tape, .ref m_paths, .ref m_pathSize, .null, .int 0, .int 0, .int 0, .int 0, .int 0, .int 0, .int 0, .int 0, .int 0, .int 0, .int 0, .int (-1), .int 0, .ref m_set, .ref m_to, .int 0, .int 0, .int 0, .int 0, .int 0, .int 0, .ref m_lifted, .int 0, .int 0, .int 0, .ref m_order, .int 0, .ref m_past, .int 0, .ref m_rowKind, .ref m_rowSteps, .ref m_rowPath, .ref m_rowWas, .ref m_rowIs, .ref m_pool, .ref m_rowsMany, .ref m_poolMany, .ref m_way, .int 0, .ref m_out, .int 0, .int 0, .ref m_notedThing, .ref m_notedIs, .ref m_votes, .int 0, .int 0, .ref m_treeThen, .int 0, .int 0, .int 0, .ref m_imageTree, .ref m_pastThen, .ref m_notedThingThen, .ref m_notedIsThen, .ref m_statusThen]))] := hD
  refine lv_iconst (v := 0) hx hb dX11_fail_5 (by decide) ?_
  have hP9 := hP.sub (ws' := [(h0, .inr (11, [.int 2, .ref m_tree, .ref m_data, .ref m_made, .ref m_status, .int 0, .ref m_tape, .ref m_paths, .ref m_pathSize, .null, .int 0, .int 0, .int 0, .int 0, .int 0, .int 0, .int 0, .int 0, .int 0, .int 0, .int 0, .int (-1), .int 0, .ref m_set, .ref m_to, .int 0, .int 0, .int 0, .int 0, .int 0, .int 0, .ref m_lifted, .int 0, .int 0, .int 0, .ref m_order, .int 0, .ref m_past, .int 0, .ref m_rowKind, .ref m_rowSteps, .ref m_rowPath, .ref m_rowWas, .ref m_rowIs, .ref m_pool, .ref m_rowsMany, .ref m_poolMany, .ref m_way, .int 0, .ref m_out, .int 0, .int 0, .ref m_notedThing, .ref m_notedIs, .ref m_votes, .int 0, .int 0, .ref m_treeThen, .int 0, .int 0, .int 0, .ref m_imageTree, .ref m_pastThen, .ref m_notedThingThen, .ref m_notedIsThen, .ref m_statusThen]))]) [0] rfl
  have hD9 := hD.sub (ws' := [(h0, .inr (11, [.int 2, .ref m_tree, .ref m_data, .ref m_made, .ref m_status, .int 0, .ref m_tape, .ref m_paths, .ref m_pathSize, .null, .int 0, .int 0, .int 0, .int 0, .int 0, .int 0, .int 0, .int 0, .int 0, .int 0, .int 0, .int (-1), .int 0, .ref m_set, .ref m_to, .int 0, .int 0, .int 0, .int 0, .int 0, .int 0, .ref m_lifted, .int 0, .int 0, .int 0, .ref m_order, .int 0, .ref m_past, .int 0, .ref m_rowKind, .ref m_rowSteps, .ref m_rowPath, .ref m_rowWas, .ref m_rowIs, .ref m_pool, .ref m_rowsMany, .ref m_poolMany, .ref m_way, .int 0, .ref m_out, .int 0, .int 0, .ref m_notedThing, .ref m_notedIs, .ref m_votes, .int 0, .int 0, .ref m_treeThen, .int 0, .int 0, .int 0, .ref m_imageTree, .ref m_pastThen, .ref m_notedThingThen, .ref m_notedIsThen, .ref m_statusThen]))]) [0] (by decide) rfl
  refine W.widen (k := 0) (n := 0) (Nat.le_of_ble_eq_true rfl) (Nat.le_of_ble_eq_true rfl) ?_
  exact W.iret (v := 0) hx hb hr (fun t ht hW => ⟨⟨0, (), rfl, rfl, by rw [ht]; exact hP9, by first | exact hD9 | (rw [hAe]; exact hD9)⟩, hS.F ht⟩) hS.2.2 dX11_fail_6

set_option maxHeartbeats 4000000 in
set_option maxRecDepth 100000 in
theorem c_m_fault (l : Launch) (G : va_G) (y : Nat → ClassId) (sz : Nat) (h0 : Nat) (m_tree : Nat) (m_data : Nat) (m_made : Nat) (m_status : Nat) (m_tape : Nat) (m_paths : Nat) (m_pathSize : Nat) (m_set : Nat) (m_to : Nat) (m_lifted : Nat) (m_order : Nat) (m_past : Nat) (m_rowKind : Nat) (m_rowSteps : Nat) (m_rowPath : Nat) (m_rowWas : Nat) (m_rowIs : Nat) (m_pool : Nat) (m_rowsMany : Nat) (m_poolMany : Nat) (m_way : Nat) (m_out : Nat) (m_notedThing : Nat) (m_notedIs : Nat) (m_votes : Nat) (m_treeThen : Nat) (m_imageTree : Nat) (m_pastThen : Nat) (m_notedThingThen : Nat) (m_notedIsThen : Nat) (m_statusThen : Nat)  : Met l yX11_fault wsX11_fault ({ frames := 0, cells := 0, slots := 0, locals := 0 }) (nq_P G y sz [.ref h0] [(h0, .inr (11, [.int 0, .ref m_tree, .ref m_data, .ref m_made, .ref m_status, .int 0, .ref m_tape, .ref m_paths, .ref m_pathSize, .null, .int 0, .int 0, .int 0, .int 0, .int 0, .int 0, .int 0, .int 0, .int 0, .int 0, .int 0, .int (-1), .int 0, .ref m_set, .ref m_to, .int 0, .int 0, .int 0, .int 0, .int 0, .int 0, .ref m_lifted, .int 0, .int 0, .int 0, .ref m_order, .int 0, .ref m_past, .int 0, .ref m_rowKind, .ref m_rowSteps, .ref m_rowPath, .ref m_rowWas, .ref m_rowIs, .ref m_pool, .ref m_rowsMany, .ref m_poolMany, .ref m_way, .int 0, .ref m_out, .int 0, .int 0, .ref m_notedThing, .ref m_notedIs, .ref m_votes, .int 0, .int 0, .ref m_treeThen, .int 0, .int 0, .int 0, .ref m_imageTree, .ref m_pastThen, .ref m_notedThingThen, .ref m_notedIsThen, .ref m_statusThen]))]) (va_Qi (fun (r : Int32) (_ : Unit) => r = (-1)) (fun (u : Unit) t9 => va_P G vwCl ([]) t9.heap ∧ va_D (va_A [(h0, .inr (11, [.int 0, .ref m_tree, .ref m_data, .ref m_made, .ref m_status, .int 0, .ref m_tape, .ref m_paths, .ref m_pathSize, .null, .int 0, .int 0, .int 0, .int 0, .int 0, .int 0, .int 0, .int 0, .int 0, .int 0, .int 0, .int (-1), .int 0, .ref m_set, .ref m_to, .int 0, .int 0, .int 0, .int 0, .int 0, .int 0, .ref m_lifted, .int 0, .int 0, .int 0, .ref m_order, .int 0, .ref m_past, .int 0, .ref m_rowKind, .ref m_rowSteps, .ref m_rowPath, .ref m_rowWas, .ref m_rowIs, .ref m_pool, .ref m_rowsMany, .ref m_poolMany, .ref m_way, .int 0, .ref m_out, .int 0, .int 0, .ref m_notedThing, .ref m_notedIs, .ref m_votes, .int 0, .int 0, .ref m_treeThen, .int 0, .int 0, .int 0, .ref m_imageTree, .ref m_pastThen, .ref m_notedThingThen, .ref m_notedIsThen, .ref m_statusThen]))] sz) ([])) (va_A [(h0, .inr (11, [.int 0, .ref m_tree, .ref m_data, .ref m_made, .ref m_status, .int 0, .ref m_tape, .ref m_paths, .ref m_pathSize, .null, .int 0, .int 0, .int 0, .int 0, .int 0, .int 0, .int 0, .int 0, .int 0, .int 0, .int 0, .int (-1), .int 0, .ref m_set, .ref m_to, .int 0, .int 0, .int 0, .int 0, .int 0, .int 0, .ref m_lifted, .int 0, .int 0, .int 0, .ref m_order, .int 0, .ref m_past, .int 0, .ref m_rowKind, .ref m_rowSteps, .ref m_rowPath, .ref m_rowWas, .ref m_rowIs, .ref m_pool, .ref m_rowsMany, .ref m_poolMany, .ref m_way, .int 0, .ref m_out, .int 0, .int 0, .ref m_notedThing, .ref m_notedIs, .ref m_votes, .int 0, .int 0, .ref m_treeThen, .int 0, .int 0, .int 0, .ref m_imageTree, .ref m_pastThen, .ref m_notedThingThen, .ref m_notedIsThen, .ref m_statusThen]))] sz)) 0 0 (va_A [(h0, .inr (11, [.int 0, .ref m_tree, .ref m_data, .ref m_made, .ref m_status, .int 0, .ref m_tape, .ref m_paths, .ref m_pathSize, .null, .int 0, .int 0, .int 0, .int 0, .int 0, .int 0, .int 0, .int 0, .int 0, .int 0, .int 0, .int (-1), .int 0, .ref m_set, .ref m_to, .int 0, .int 0, .int 0, .int 0, .int 0, .int 0, .ref m_lifted, .int 0, .int 0, .int 0, .ref m_order, .int 0, .ref m_past, .int 0, .ref m_rowKind, .ref m_rowSteps, .ref m_rowPath, .ref m_rowWas, .ref m_rowIs, .ref m_pool, .ref m_rowsMany, .ref m_poolMany, .ref m_way, .int 0, .ref m_out, .int 0, .int 0, .ref m_notedThing, .ref m_notedIs, .ref m_votes, .int 0, .int 0, .ref m_treeThen, .int 0, .int 0, .int 0, .ref m_imageTree, .ref m_pastThen, .ref m_notedThingThen, .ref m_notedIsThen, .ref m_statusThen]))] sz) := by
  refine Met.ofW (cc := cX11_fault) (maxL := 1) (ret := (some .int)) (by decide) rfl ?_
  intro p e s m args below meth c s₁ B hml hv
  obtain ⟨rfl, hsz, hP, hK, hD0⟩ := hv
  have hx := B.exec
  have hb := B.bytes
  have hr := B.returns
  have hts := atoms_spec (ws := wsX11_fault) B.pre
  have hown : s.vm.findClass RX11 = some m.cls := findClass_of_methodNamed B.named
  have hlocks := B.notSynchronized
  subst hsz
  have hD := hD0.self (sz := s.heap.size)
  generalize hAe : va_A [(h0, .inr (11, [.int 0, .ref m_tree, .ref m_data, .ref m_made, .ref m_status, .int 0, .ref m_tape, .ref m_paths, .ref m_pathSize, .null, .int 0, .int 0, .int 0, .int 0, .int 0, .int 0, .int 0, .int 0, .int 0, .int 0, .int 0, .int (-1), .int 0, .ref m_set, .ref m_to, .int 0, .int 0, .int 0, .int 0, .int 0, .int 0, .ref m_lifted, .int 0, .int 0, .int 0, .ref m_order, .int 0, .ref m_past, .int 0, .ref m_rowKind, .ref m_rowSteps, .ref m_rowPath, .ref m_rowWas, .ref m_rowIs, .ref m_pool, .ref m_rowsMany, .ref m_poolMany, .ref m_way, .int 0, .ref m_out, .int 0, .int 0, .ref m_notedThing, .ref m_notedIs, .ref m_votes, .int 0, .int 0, .ref m_treeThen, .int 0, .int 0, .int 0, .ref m_imageTree, .ref m_pastThen, .ref m_notedThingThen, .ref m_notedIsThen, .ref m_statusThen]))] s.heap.size = A at hD ⊢
  have hA : ∀ q : Nat, s.heap.size ≤ q → A q := fun q h => by rw [← hAe]; exact Or.inr h
  have hS : va_S A s.heap s.heap [] := va_S.rf
  have hP : va_P G vwCl [(h0, .inr (11, [.int 0, .ref m_tree, .ref m_data, .ref m_made, .ref m_status, .int 0, .ref m_tape, .ref m_paths, .ref m_pathSize, .null, .int 0, .int 0, .int 0, .int 0, .int 0, .int 0, .int 0, .int 0, .int 0, .int 0, .int 0, .int (-1), .int 0, .ref m_set, .ref m_to, .int 0, .int 0, .int 0, .int 0, .int 0, .int 0, .ref m_lifted, .int 0, .int 0, .int 0, .ref m_order, .int 0, .ref m_past, .int 0, .ref m_rowKind, .ref m_rowSteps, .ref m_rowPath, .ref m_rowWas, .ref m_rowIs, .ref m_pool, .ref m_rowsMany, .ref m_poolMany, .ref m_way, .int 0, .ref m_out, .int 0, .int 0, .ref m_notedThing, .ref m_notedIs, .ref m_votes, .int 0, .int 0, .ref m_treeThen, .int 0, .int 0, .int 0, .ref m_imageTree, .ref m_pastThen, .ref m_notedThingThen, .ref m_notedIsThen, .ref m_statusThen]))] s.heap := hP
  have inX11 : ∀ w ∈ wsX110, w ∈ wsX11_fault := by decide +kernel
  have hl := lv_entry ([.ref h0]) (n := 1) (Nat.le_of_ble_eq_true rfl)
  rw [lg_entry_eq]
  generalize (lg_sl ([.ref h0]) ++ List.replicate (1 - (lg_sl ([.ref h0])).length) Slot.unset).toArray = ls at hl ⊢
  have hl : lv_has ls 1 [(0, .ref h0)] := hl
  refine lv_aload_n hx hb dX11_fault_0 rfl (lv_at hl 0 rfl) ?_
  refine lv_iconst (v := 0) hx hb dX11_fault_1 (by decide) ?_
  refine va_put (D := G) (ci := 11) (v := .int 0) (ty := .int) (C := RX11) (T := TX11) (N := 66) hx hb hts inX11 tyX11 tyX11_ok nmX11 hown hK.1 hP hD hS 0 rfl rfl 0 (by decide) (hts (.fieldLink RX11 111 "NestQueryModel" "code" "I") (by decide +kernel)) (fun _ h9 => h9) rfl (by decide +kernel) rfl rfl (Nat.le_of_ble_eq_true rfl) dX11_fault_2 (fun H locs hP hD hS => ?_)
  have hP : va_P G vwCl [(h0, .inr (11, [.int 0, .ref m_tree, .ref m_data, .ref m_made, .ref m_status, .int 0, .ref m_tape, .ref m_paths, .ref m_pathSize, .null, .int 0, .int 0, .int 0, .int 0, .int 0, .int 0, .int 0, .int 0, .int 0, .int 0, .int 0, .int (-1), .int 0, .ref m_set, .ref m_to, .int 0, .int 0, .int 0, .int 0, .int 0, .int 0, .ref m_lifted, .int 0, .int 0, .int 0, .ref m_order, .int 0, .ref m_past, .int 0, .ref m_rowKind, .ref m_rowSteps, .ref m_rowPath, .ref m_rowWas, .ref m_rowIs, .ref m_pool, .ref m_rowsMany, .ref m_poolMany, .ref m_way, .int 0, .ref m_out, .int 0, .int 0, .ref m_notedThing, .ref m_notedIs, .ref m_votes, .int 0, .int 0, .ref m_treeThen, .int 0, .int 0, .int 0, .ref m_imageTree, .ref m_pastThen, .ref m_notedThingThen, .ref m_notedIsThen, .ref m_statusThen]))] H := hP
  have hD : va_D A [(h0, .inr (11, [.int 0, .ref m_tree, .ref m_data, .ref m_made, .ref m_status, .int 0, .ref m_tape, .ref m_paths, .ref m_pathSize, .null, .int 0, .int 0, .int 0, .int 0, .int 0, .int 0, .int 0, .int 0, .int 0, .int 0, .int 0, .int (-1), .int 0, .ref m_set, .ref m_to, .int 0, .int 0, .int 0, .int 0, .int 0, .int 0, .ref m_lifted, .int 0, .int 0, .int 0, .ref m_order, .int 0, .ref m_past, .int 0, .ref m_rowKind, .ref m_rowSteps, .ref m_rowPath, .ref m_rowWas, .ref m_rowIs, .ref m_pool, .ref m_rowsMany, .ref m_poolMany, .ref m_way, .int 0, .ref m_out, .int 0, .int 0, .ref m_notedThing, .ref m_notedIs, .ref m_votes, .int 0, .int 0, .ref m_treeThen, .int 0, .int 0, .int 0, .ref m_imageTree, .ref m_pastThen, .ref m_notedThingThen, .ref m_notedIsThen, .ref m_statusThen]))] := hD
  refine lv_aload_n hx hb dX11_fault_5 rfl (lv_at hl 0 rfl) ?_
  refine va_get (D := G) (ci := 11) (v := .int (-1)) (C := RX11) (T := TX11) (N := 66) hx hb hts inX11 hown hK.1 hP 0 rfl rfl 21 (by decide) (hts (.fieldLink RX11 31 "NestQueryModel" "faultPlace" "I") (by decide +kernel)) (fun _ h9 => h9) rfl dX11_fault_6 ?_
  have hP9 := hP.sub (ws' := []) [] rfl
  have hD9 := hD.sub (ws' := []) [] (by decide) rfl
  refine W.widen (k := 0) (n := 0) (Nat.le_of_ble_eq_true rfl) (Nat.le_of_ble_eq_true rfl) ?_
  exact W.iret (v := (-1)) hx hb hr (fun t ht hW => ⟨⟨(-1), (), rfl, rfl, by rw [ht]; exact hP9, by first | exact hD9 | (rw [hAe]; exact hD9)⟩, hS.F ht⟩) hS.2.2 dX11_fault_9

set_option maxHeartbeats 4000000 in
set_option maxRecDepth 100000 in
theorem c_m_keep (l : Launch) (G : va_G) (y : Nat → ClassId) (sz : Nat) (h0 : Nat) (m_tree : Nat) (m_data : Nat) (m_made : Nat) (m_status : Nat) (m_tape : Nat) (m_paths : Nat) (m_pathSize : Nat) (m_set : Nat) (m_to : Nat) (m_lifted : Nat) (m_order : Nat) (m_past : Nat) (m_rowKind : Nat) (m_rowSteps : Nat) (m_rowPath : Nat) (m_rowWas : Nat) (m_rowIs : Nat) (m_pool : Nat) (m_rowsMany : Nat) (m_poolMany : Nat) (m_way : Nat) (m_out : Nat) (m_notedThing : Nat) (m_notedIs : Nat) (m_votes : Nat) (m_treeThen : Nat) (m_imageTree : Nat) (m_pastThen : Nat) (m_notedThingThen : Nat) (m_notedIsThen : Nat) (m_statusThen : Nat)  : Met l yX11_keep wsX11_keep ({ frames := 0, cells := 0, slots := 0, locals := 0 }) (nq_P G y sz [.ref h0] [(h0, .inr (11, [.int 0, .ref m_tree, .ref m_data, .ref m_made, .ref m_status, .int 0, .ref m_tape, .ref m_paths, .ref m_pathSize, .null, .int 0, .int 0, .int 0, .int 0, .int 0, .int 0, .int 0, .int 0, .int 0, .int 0, .int 0, .int (-1), .int 0, .ref m_set, .ref m_to, .int 0, .int 0, .int 0, .int 0, .int 0, .int 0, .ref m_lifted, .int 0, .int 0, .int 0, .ref m_order, .int 0, .ref m_past, .int 0, .ref m_rowKind, .ref m_rowSteps, .ref m_rowPath, .ref m_rowWas, .ref m_rowIs, .ref m_pool, .ref m_rowsMany, .ref m_poolMany, .ref m_way, .int 0, .ref m_out, .int 0, .int 0, .ref m_notedThing, .ref m_notedIs, .ref m_votes, .int 0, .int 0, .ref m_treeThen, .int 0, .int 0, .int 0, .ref m_imageTree, .ref m_pastThen, .ref m_notedThingThen, .ref m_notedIsThen, .ref m_statusThen]))]) (va_Qi (fun (r : Int32) (_ : Unit) => r = (-1)) (fun (u : Unit) t9 => va_P G vwCl ([]) t9.heap ∧ va_D (va_A [(h0, .inr (11, [.int 0, .ref m_tree, .ref m_data, .ref m_made, .ref m_status, .int 0, .ref m_tape, .ref m_paths, .ref m_pathSize, .null, .int 0, .int 0, .int 0, .int 0, .int 0, .int 0, .int 0, .int 0, .int 0, .int 0, .int 0, .int (-1), .int 0, .ref m_set, .ref m_to, .int 0, .int 0, .int 0, .int 0, .int 0, .int 0, .ref m_lifted, .int 0, .int 0, .int 0, .ref m_order, .int 0, .ref m_past, .int 0, .ref m_rowKind, .ref m_rowSteps, .ref m_rowPath, .ref m_rowWas, .ref m_rowIs, .ref m_pool, .ref m_rowsMany, .ref m_poolMany, .ref m_way, .int 0, .ref m_out, .int 0, .int 0, .ref m_notedThing, .ref m_notedIs, .ref m_votes, .int 0, .int 0, .ref m_treeThen, .int 0, .int 0, .int 0, .ref m_imageTree, .ref m_pastThen, .ref m_notedThingThen, .ref m_notedIsThen, .ref m_statusThen]))] sz) ([])) (va_A [(h0, .inr (11, [.int 0, .ref m_tree, .ref m_data, .ref m_made, .ref m_status, .int 0, .ref m_tape, .ref m_paths, .ref m_pathSize, .null, .int 0, .int 0, .int 0, .int 0, .int 0, .int 0, .int 0, .int 0, .int 0, .int 0, .int 0, .int (-1), .int 0, .ref m_set, .ref m_to, .int 0, .int 0, .int 0, .int 0, .int 0, .int 0, .ref m_lifted, .int 0, .int 0, .int 0, .ref m_order, .int 0, .ref m_past, .int 0, .ref m_rowKind, .ref m_rowSteps, .ref m_rowPath, .ref m_rowWas, .ref m_rowIs, .ref m_pool, .ref m_rowsMany, .ref m_poolMany, .ref m_way, .int 0, .ref m_out, .int 0, .int 0, .ref m_notedThing, .ref m_notedIs, .ref m_votes, .int 0, .int 0, .ref m_treeThen, .int 0, .int 0, .int 0, .ref m_imageTree, .ref m_pastThen, .ref m_notedThingThen, .ref m_notedIsThen, .ref m_statusThen]))] sz)) 0 0 (va_A [(h0, .inr (11, [.int 0, .ref m_tree, .ref m_data, .ref m_made, .ref m_status, .int 0, .ref m_tape, .ref m_paths, .ref m_pathSize, .null, .int 0, .int 0, .int 0, .int 0, .int 0, .int 0, .int 0, .int 0, .int 0, .int 0, .int 0, .int (-1), .int 0, .ref m_set, .ref m_to, .int 0, .int 0, .int 0, .int 0, .int 0, .int 0, .ref m_lifted, .int 0, .int 0, .int 0, .ref m_order, .int 0, .ref m_past, .int 0, .ref m_rowKind, .ref m_rowSteps, .ref m_rowPath, .ref m_rowWas, .ref m_rowIs, .ref m_pool, .ref m_rowsMany, .ref m_poolMany, .ref m_way, .int 0, .ref m_out, .int 0, .int 0, .ref m_notedThing, .ref m_notedIs, .ref m_votes, .int 0, .int 0, .ref m_treeThen, .int 0, .int 0, .int 0, .ref m_imageTree, .ref m_pastThen, .ref m_notedThingThen, .ref m_notedIsThen, .ref m_statusThen]))] sz) := by
  refine Met.ofW (cc := cX11_keep) (maxL := 1) (ret := (some .int)) (by decide) rfl ?_
  intro p e s m args below meth c s₁ B hml hv
  obtain ⟨rfl, hsz, hP, hK, hD0⟩ := hv
  have hx := B.exec
  have hb := B.bytes
  have hr := B.returns
  have hts := atoms_spec (ws := wsX11_keep) B.pre
  have hown : s.vm.findClass RX11 = some m.cls := findClass_of_methodNamed B.named
  have hlocks := B.notSynchronized
  subst hsz
  have hD := hD0.self (sz := s.heap.size)
  generalize hAe : va_A [(h0, .inr (11, [.int 0, .ref m_tree, .ref m_data, .ref m_made, .ref m_status, .int 0, .ref m_tape, .ref m_paths, .ref m_pathSize, .null, .int 0, .int 0, .int 0, .int 0, .int 0, .int 0, .int 0, .int 0, .int 0, .int 0, .int 0, .int (-1), .int 0, .ref m_set, .ref m_to, .int 0, .int 0, .int 0, .int 0, .int 0, .int 0, .ref m_lifted, .int 0, .int 0, .int 0, .ref m_order, .int 0, .ref m_past, .int 0, .ref m_rowKind, .ref m_rowSteps, .ref m_rowPath, .ref m_rowWas, .ref m_rowIs, .ref m_pool, .ref m_rowsMany, .ref m_poolMany, .ref m_way, .int 0, .ref m_out, .int 0, .int 0, .ref m_notedThing, .ref m_notedIs, .ref m_votes, .int 0, .int 0, .ref m_treeThen, .int 0, .int 0, .int 0, .ref m_imageTree, .ref m_pastThen, .ref m_notedThingThen, .ref m_notedIsThen, .ref m_statusThen]))] s.heap.size = A at hD ⊢
  have hA : ∀ q : Nat, s.heap.size ≤ q → A q := fun q h => by rw [← hAe]; exact Or.inr h
  have hS : va_S A s.heap s.heap [] := va_S.rf
  have hP : va_P G vwCl [(h0, .inr (11, [.int 0, .ref m_tree, .ref m_data, .ref m_made, .ref m_status, .int 0, .ref m_tape, .ref m_paths, .ref m_pathSize, .null, .int 0, .int 0, .int 0, .int 0, .int 0, .int 0, .int 0, .int 0, .int 0, .int 0, .int 0, .int (-1), .int 0, .ref m_set, .ref m_to, .int 0, .int 0, .int 0, .int 0, .int 0, .int 0, .ref m_lifted, .int 0, .int 0, .int 0, .ref m_order, .int 0, .ref m_past, .int 0, .ref m_rowKind, .ref m_rowSteps, .ref m_rowPath, .ref m_rowWas, .ref m_rowIs, .ref m_pool, .ref m_rowsMany, .ref m_poolMany, .ref m_way, .int 0, .ref m_out, .int 0, .int 0, .ref m_notedThing, .ref m_notedIs, .ref m_votes, .int 0, .int 0, .ref m_treeThen, .int 0, .int 0, .int 0, .ref m_imageTree, .ref m_pastThen, .ref m_notedThingThen, .ref m_notedIsThen, .ref m_statusThen]))] s.heap := hP
  have inX11 : ∀ w ∈ wsX110, w ∈ wsX11_keep := by decide +kernel
  have hl := lv_entry ([.ref h0]) (n := 1) (Nat.le_of_ble_eq_true rfl)
  rw [lg_entry_eq]
  generalize (lg_sl ([.ref h0]) ++ List.replicate (1 - (lg_sl ([.ref h0])).length) Slot.unset).toArray = ls at hl ⊢
  have hl : lv_has ls 1 [(0, .ref h0)] := hl
  refine lv_aload_n hx hb dX11_keep_0 rfl (lv_at hl 0 rfl) ?_
  refine lv_iconst (v := 0) hx hb dX11_keep_1 (by decide) ?_
  refine va_put (D := G) (ci := 11) (v := .int 0) (ty := .int) (C := RX11) (T := TX11) (N := 66) hx hb hts inX11 tyX11 tyX11_ok nmX11 hown hK.1 hP hD hS 0 rfl rfl 0 (by decide) (hts (.fieldLink RX11 111 "NestQueryModel" "code" "I") (by decide +kernel)) (fun _ h9 => h9) rfl (by decide +kernel) rfl rfl (Nat.le_of_ble_eq_true rfl) dX11_keep_2 (fun H locs hP hD hS => ?_)
  have hP : va_P G vwCl [(h0, .inr (11, [.int 0, .ref m_tree, .ref m_data, .ref m_made, .ref m_status, .int 0, .ref m_tape, .ref m_paths, .ref m_pathSize, .null, .int 0, .int 0, .int 0, .int 0, .int 0, .int 0, .int 0, .int 0, .int 0, .int 0, .int 0, .int (-1), .int 0, .ref m_set, .ref m_to, .int 0, .int 0, .int 0, .int 0, .int 0, .int 0, .ref m_lifted, .int 0, .int 0, .int 0, .ref m_order, .int 0, .ref m_past, .int 0, .ref m_rowKind, .ref m_rowSteps, .ref m_rowPath, .ref m_rowWas, .ref m_rowIs, .ref m_pool, .ref m_rowsMany, .ref m_poolMany, .ref m_way, .int 0, .ref m_out, .int 0, .int 0, .ref m_notedThing, .ref m_notedIs, .ref m_votes, .int 0, .int 0, .ref m_treeThen, .int 0, .int 0, .int 0, .ref m_imageTree, .ref m_pastThen, .ref m_notedThingThen, .ref m_notedIsThen, .ref m_statusThen]))] H := hP
  have hD : va_D A [(h0, .inr (11, [.int 0, .ref m_tree, .ref m_data, .ref m_made, .ref m_status, .int 0, .ref m_tape, .ref m_paths, .ref m_pathSize, .null, .int 0, .int 0, .int 0, .int 0, .int 0, .int 0, .int 0, .int 0, .int 0, .int 0, .int 0, .int (-1), .int 0, .ref m_set, .ref m_to, .int 0, .int 0, .int 0, .int 0, .int 0, .int 0, .ref m_lifted, .int 0, .int 0, .int 0, .ref m_order, .int 0, .ref m_past, .int 0, .ref m_rowKind, .ref m_rowSteps, .ref m_rowPath, .ref m_rowWas, .ref m_rowIs, .ref m_pool, .ref m_rowsMany, .ref m_poolMany, .ref m_way, .int 0, .ref m_out, .int 0, .int 0, .ref m_notedThing, .ref m_notedIs, .ref m_votes, .int 0, .int 0, .ref m_treeThen, .int 0, .int 0, .int 0, .ref m_imageTree, .ref m_pastThen, .ref m_notedThingThen, .ref m_notedIsThen, .ref m_statusThen]))] := hD
  refine lv_aload_n hx hb dX11_keep_5 rfl (lv_at hl 0 rfl) ?_
  refine va_get (D := G) (ci := 11) (v := .int 0) (C := RX11) (T := TX11) (N := 66) hx hb hts inX11 hown hK.1 hP 0 rfl rfl 58 (by decide) (hts (.fieldLink RX11 238 "NestQueryModel" "hasImage" "Z") (by decide +kernel)) (fun _ h9 => h9) rfl dX11_keep_6 ?_
  refine lv_if_eq (tgt := 20) hx hb dX11_keep_9 (by decide) (fun _ => ?_) (fun c_1 => absurd c_1 (by decide))
  refine lv_iconst (v := (-1)) hx hb dX11_keep_20 (by decide) ?_
  have hP9 := hP.sub (ws' := []) [] rfl
  have hD9 := hD.sub (ws' := []) [] (by decide) rfl
  refine W.widen (k := 0) (n := 0) (Nat.le_of_ble_eq_true rfl) (Nat.le_of_ble_eq_true rfl) ?_
  exact W.iret (v := (-1)) hx hb hr (fun t ht hW => ⟨⟨(-1), (), rfl, rfl, by rw [ht]; exact hP9, by first | exact hD9 | (rw [hAe]; exact hD9)⟩, hS.F ht⟩) hS.2.2 dX11_keep_21

set_option maxHeartbeats 4000000 in
set_option maxRecDepth 100000 in
theorem c_m_undo (l : Launch) (G : va_G) (y : Nat → ClassId) (sz : Nat) (h0 : Nat) (m_tree : Nat) (m_data : Nat) (m_made : Nat) (m_status : Nat) (m_tape : Nat) (m_paths : Nat) (m_pathSize : Nat) (m_set : Nat) (m_to : Nat) (m_lifted : Nat) (m_order : Nat) (m_past : Nat) (m_rowKind : Nat) (m_rowSteps : Nat) (m_rowPath : Nat) (m_rowWas : Nat) (m_rowIs : Nat) (m_pool : Nat) (m_rowsMany : Nat) (m_poolMany : Nat) (m_way : Nat) (m_out : Nat) (m_notedThing : Nat) (m_notedIs : Nat) (m_votes : Nat) (m_treeThen : Nat) (m_imageTree : Nat) (m_pastThen : Nat) (m_notedThingThen : Nat) (m_notedIsThen : Nat) (m_statusThen : Nat)  : Met l yX11_undo wsX11_undo ({ frames := 0, cells := 0, slots := 0, locals := 0 }) (nq_P G y sz [.ref h0] [(h0, .inr (11, [.int 0, .ref m_tree, .ref m_data, .ref m_made, .ref m_status, .int 0, .ref m_tape, .ref m_paths, .ref m_pathSize, .null, .int 0, .int 0, .int 0, .int 0, .int 0, .int 0, .int 0, .int 0, .int 0, .int 0, .int 0, .int (-1), .int 0, .ref m_set, .ref m_to, .int 0, .int 0, .int 0, .int 0, .int 0, .int 0, .ref m_lifted, .int 0, .int 0, .int 0, .ref m_order, .int 0, .ref m_past, .int 0, .ref m_rowKind, .ref m_rowSteps, .ref m_rowPath, .ref m_rowWas, .ref m_rowIs, .ref m_pool, .ref m_rowsMany, .ref m_poolMany, .ref m_way, .int 0, .ref m_out, .int 0, .int 0, .ref m_notedThing, .ref m_notedIs, .ref m_votes, .int 0, .int 0, .ref m_treeThen, .int 0, .int 0, .int 0, .ref m_imageTree, .ref m_pastThen, .ref m_notedThingThen, .ref m_notedIsThen, .ref m_statusThen]))]) (va_Qi (fun (r : Int32) (_ : Unit) => r = (-1)) (fun (u : Unit) t9 => va_P G vwCl ([]) t9.heap ∧ va_D (va_A [(h0, .inr (11, [.int 0, .ref m_tree, .ref m_data, .ref m_made, .ref m_status, .int 0, .ref m_tape, .ref m_paths, .ref m_pathSize, .null, .int 0, .int 0, .int 0, .int 0, .int 0, .int 0, .int 0, .int 0, .int 0, .int 0, .int 0, .int (-1), .int 0, .ref m_set, .ref m_to, .int 0, .int 0, .int 0, .int 0, .int 0, .int 0, .ref m_lifted, .int 0, .int 0, .int 0, .ref m_order, .int 0, .ref m_past, .int 0, .ref m_rowKind, .ref m_rowSteps, .ref m_rowPath, .ref m_rowWas, .ref m_rowIs, .ref m_pool, .ref m_rowsMany, .ref m_poolMany, .ref m_way, .int 0, .ref m_out, .int 0, .int 0, .ref m_notedThing, .ref m_notedIs, .ref m_votes, .int 0, .int 0, .ref m_treeThen, .int 0, .int 0, .int 0, .ref m_imageTree, .ref m_pastThen, .ref m_notedThingThen, .ref m_notedIsThen, .ref m_statusThen]))] sz) ([])) (va_A [(h0, .inr (11, [.int 0, .ref m_tree, .ref m_data, .ref m_made, .ref m_status, .int 0, .ref m_tape, .ref m_paths, .ref m_pathSize, .null, .int 0, .int 0, .int 0, .int 0, .int 0, .int 0, .int 0, .int 0, .int 0, .int 0, .int 0, .int (-1), .int 0, .ref m_set, .ref m_to, .int 0, .int 0, .int 0, .int 0, .int 0, .int 0, .ref m_lifted, .int 0, .int 0, .int 0, .ref m_order, .int 0, .ref m_past, .int 0, .ref m_rowKind, .ref m_rowSteps, .ref m_rowPath, .ref m_rowWas, .ref m_rowIs, .ref m_pool, .ref m_rowsMany, .ref m_poolMany, .ref m_way, .int 0, .ref m_out, .int 0, .int 0, .ref m_notedThing, .ref m_notedIs, .ref m_votes, .int 0, .int 0, .ref m_treeThen, .int 0, .int 0, .int 0, .ref m_imageTree, .ref m_pastThen, .ref m_notedThingThen, .ref m_notedIsThen, .ref m_statusThen]))] sz)) 0 0 (va_A [(h0, .inr (11, [.int 0, .ref m_tree, .ref m_data, .ref m_made, .ref m_status, .int 0, .ref m_tape, .ref m_paths, .ref m_pathSize, .null, .int 0, .int 0, .int 0, .int 0, .int 0, .int 0, .int 0, .int 0, .int 0, .int 0, .int 0, .int (-1), .int 0, .ref m_set, .ref m_to, .int 0, .int 0, .int 0, .int 0, .int 0, .int 0, .ref m_lifted, .int 0, .int 0, .int 0, .ref m_order, .int 0, .ref m_past, .int 0, .ref m_rowKind, .ref m_rowSteps, .ref m_rowPath, .ref m_rowWas, .ref m_rowIs, .ref m_pool, .ref m_rowsMany, .ref m_poolMany, .ref m_way, .int 0, .ref m_out, .int 0, .int 0, .ref m_notedThing, .ref m_notedIs, .ref m_votes, .int 0, .int 0, .ref m_treeThen, .int 0, .int 0, .int 0, .ref m_imageTree, .ref m_pastThen, .ref m_notedThingThen, .ref m_notedIsThen, .ref m_statusThen]))] sz) := by
  refine Met.ofW (cc := cX11_undo) (maxL := 2) (ret := (some .int)) (by decide) rfl ?_
  intro p e s m args below meth c s₁ B hml hv
  obtain ⟨rfl, hsz, hP, hK, hD0⟩ := hv
  have hx := B.exec
  have hb := B.bytes
  have hr := B.returns
  have hts := atoms_spec (ws := wsX11_undo) B.pre
  have hown : s.vm.findClass RX11 = some m.cls := findClass_of_methodNamed B.named
  have hlocks := B.notSynchronized
  subst hsz
  have hD := hD0.self (sz := s.heap.size)
  generalize hAe : va_A [(h0, .inr (11, [.int 0, .ref m_tree, .ref m_data, .ref m_made, .ref m_status, .int 0, .ref m_tape, .ref m_paths, .ref m_pathSize, .null, .int 0, .int 0, .int 0, .int 0, .int 0, .int 0, .int 0, .int 0, .int 0, .int 0, .int 0, .int (-1), .int 0, .ref m_set, .ref m_to, .int 0, .int 0, .int 0, .int 0, .int 0, .int 0, .ref m_lifted, .int 0, .int 0, .int 0, .ref m_order, .int 0, .ref m_past, .int 0, .ref m_rowKind, .ref m_rowSteps, .ref m_rowPath, .ref m_rowWas, .ref m_rowIs, .ref m_pool, .ref m_rowsMany, .ref m_poolMany, .ref m_way, .int 0, .ref m_out, .int 0, .int 0, .ref m_notedThing, .ref m_notedIs, .ref m_votes, .int 0, .int 0, .ref m_treeThen, .int 0, .int 0, .int 0, .ref m_imageTree, .ref m_pastThen, .ref m_notedThingThen, .ref m_notedIsThen, .ref m_statusThen]))] s.heap.size = A at hD ⊢
  have hA : ∀ q : Nat, s.heap.size ≤ q → A q := fun q h => by rw [← hAe]; exact Or.inr h
  have hS : va_S A s.heap s.heap [] := va_S.rf
  have hP : va_P G vwCl [(h0, .inr (11, [.int 0, .ref m_tree, .ref m_data, .ref m_made, .ref m_status, .int 0, .ref m_tape, .ref m_paths, .ref m_pathSize, .null, .int 0, .int 0, .int 0, .int 0, .int 0, .int 0, .int 0, .int 0, .int 0, .int 0, .int 0, .int (-1), .int 0, .ref m_set, .ref m_to, .int 0, .int 0, .int 0, .int 0, .int 0, .int 0, .ref m_lifted, .int 0, .int 0, .int 0, .ref m_order, .int 0, .ref m_past, .int 0, .ref m_rowKind, .ref m_rowSteps, .ref m_rowPath, .ref m_rowWas, .ref m_rowIs, .ref m_pool, .ref m_rowsMany, .ref m_poolMany, .ref m_way, .int 0, .ref m_out, .int 0, .int 0, .ref m_notedThing, .ref m_notedIs, .ref m_votes, .int 0, .int 0, .ref m_treeThen, .int 0, .int 0, .int 0, .ref m_imageTree, .ref m_pastThen, .ref m_notedThingThen, .ref m_notedIsThen, .ref m_statusThen]))] s.heap := hP
  have inX11 : ∀ w ∈ wsX110, w ∈ wsX11_undo := by decide +kernel
  have hl := lv_entry ([.ref h0]) (n := 2) (Nat.le_of_ble_eq_true rfl)
  rw [lg_entry_eq]
  generalize (lg_sl ([.ref h0]) ++ List.replicate (2 - (lg_sl ([.ref h0])).length) Slot.unset).toArray = ls at hl ⊢
  have hl : lv_has ls 2 [(0, .ref h0)] := hl
  refine lv_aload_n hx hb dX11_undo_0 rfl (lv_at hl 0 rfl) ?_
  refine lv_iconst (v := 0) hx hb dX11_undo_1 (by decide) ?_
  refine va_put (D := G) (ci := 11) (v := .int 0) (ty := .int) (C := RX11) (T := TX11) (N := 66) hx hb hts inX11 tyX11 tyX11_ok nmX11 hown hK.1 hP hD hS 0 rfl rfl 0 (by decide) (hts (.fieldLink RX11 111 "NestQueryModel" "code" "I") (by decide +kernel)) (fun _ h9 => h9) rfl (by decide +kernel) rfl rfl (Nat.le_of_ble_eq_true rfl) dX11_undo_2 (fun H locs hP hD hS => ?_)
  have hP : va_P G vwCl [(h0, .inr (11, [.int 0, .ref m_tree, .ref m_data, .ref m_made, .ref m_status, .int 0, .ref m_tape, .ref m_paths, .ref m_pathSize, .null, .int 0, .int 0, .int 0, .int 0, .int 0, .int 0, .int 0, .int 0, .int 0, .int 0, .int 0, .int (-1), .int 0, .ref m_set, .ref m_to, .int 0, .int 0, .int 0, .int 0, .int 0, .int 0, .ref m_lifted, .int 0, .int 0, .int 0, .ref m_order, .int 0, .ref m_past, .int 0, .ref m_rowKind, .ref m_rowSteps, .ref m_rowPath, .ref m_rowWas, .ref m_rowIs, .ref m_pool, .ref m_rowsMany, .ref m_poolMany, .ref m_way, .int 0, .ref m_out, .int 0, .int 0, .ref m_notedThing, .ref m_notedIs, .ref m_votes, .int 0, .int 0, .ref m_treeThen, .int 0, .int 0, .int 0, .ref m_imageTree, .ref m_pastThen, .ref m_notedThingThen, .ref m_notedIsThen, .ref m_statusThen]))] H := hP
  have hD : va_D A [(h0, .inr (11, [.int 0, .ref m_tree, .ref m_data, .ref m_made, .ref m_status, .int 0, .ref m_tape, .ref m_paths, .ref m_pathSize, .null, .int 0, .int 0, .int 0, .int 0, .int 0, .int 0, .int 0, .int 0, .int 0, .int 0, .int 0, .int (-1), .int 0, .ref m_set, .ref m_to, .int 0, .int 0, .int 0, .int 0, .int 0, .int 0, .ref m_lifted, .int 0, .int 0, .int 0, .ref m_order, .int 0, .ref m_past, .int 0, .ref m_rowKind, .ref m_rowSteps, .ref m_rowPath, .ref m_rowWas, .ref m_rowIs, .ref m_pool, .ref m_rowsMany, .ref m_poolMany, .ref m_way, .int 0, .ref m_out, .int 0, .int 0, .ref m_notedThing, .ref m_notedIs, .ref m_votes, .int 0, .int 0, .ref m_treeThen, .int 0, .int 0, .int 0, .ref m_imageTree, .ref m_pastThen, .ref m_notedThingThen, .ref m_notedIsThen, .ref m_statusThen]))] := hD
  refine lv_aload_n hx hb dX11_undo_5 rfl (lv_at hl 0 rfl) ?_
  refine va_get (D := G) (ci := 11) (v := .int 0) (C := RX11) (T := TX11) (N := 66) hx hb hts inX11 hown hK.1 hP 0 rfl rfl 36 (by decide) (hts (.fieldLink RX11 232 "NestQueryModel" "acts" "I") (by decide +kernel)) (fun _ h9 => h9) rfl dX11_undo_6 ?_
  refine lv_if_ne (tgt := 14) hx hb dX11_undo_9 (by decide) (fun c_1 => absurd c_1 (by decide)) (fun _ => ?_)
  refine lv_iconst (v := (-1)) hx hb dX11_undo_12 (by decide) ?_
  have hP9 := hP.sub (ws' := []) [] rfl
  have hD9 := hD.sub (ws' := []) [] (by decide) rfl
  refine W.widen (k := 0) (n := 0) (Nat.le_of_ble_eq_true rfl) (Nat.le_of_ble_eq_true rfl) ?_
  exact W.iret (v := (-1)) hx hb hr (fun t ht hW => ⟨⟨(-1), (), rfl, rfl, by rw [ht]; exact hP9, by first | exact hD9 | (rw [hAe]; exact hD9)⟩, hS.F ht⟩) hS.2.2 dX11_undo_13

set_option maxHeartbeats 4000000 in
set_option maxRecDepth 100000 in
theorem c_m_restore (l : Launch) (G : va_G) (y : Nat → ClassId) (sz : Nat) (h0 : Nat) (m_tree : Nat) (m_data : Nat) (m_made : Nat) (m_status : Nat) (m_tape : Nat) (m_paths : Nat) (m_pathSize : Nat) (m_set : Nat) (m_to : Nat) (m_lifted : Nat) (m_order : Nat) (m_past : Nat) (m_rowKind : Nat) (m_rowSteps : Nat) (m_rowPath : Nat) (m_rowWas : Nat) (m_rowIs : Nat) (m_pool : Nat) (m_rowsMany : Nat) (m_poolMany : Nat) (m_way : Nat) (m_out : Nat) (m_notedThing : Nat) (m_notedIs : Nat) (m_votes : Nat) (m_treeThen : Nat) (m_imageTree : Nat) (m_pastThen : Nat) (m_notedThingThen : Nat) (m_notedIsThen : Nat) (m_statusThen : Nat)  : Met l yX11_restore wsX11_restore ({ frames := 0, cells := 0, slots := 0, locals := 0 }) (nq_P G y sz [.ref h0] [(h0, .inr (11, [.int 0, .ref m_tree, .ref m_data, .ref m_made, .ref m_status, .int 0, .ref m_tape, .ref m_paths, .ref m_pathSize, .null, .int 0, .int 0, .int 0, .int 0, .int 0, .int 0, .int 0, .int 0, .int 0, .int 0, .int 0, .int (-1), .int 0, .ref m_set, .ref m_to, .int 0, .int 0, .int 0, .int 0, .int 0, .int 0, .ref m_lifted, .int 0, .int 0, .int 0, .ref m_order, .int 0, .ref m_past, .int 0, .ref m_rowKind, .ref m_rowSteps, .ref m_rowPath, .ref m_rowWas, .ref m_rowIs, .ref m_pool, .ref m_rowsMany, .ref m_poolMany, .ref m_way, .int 0, .ref m_out, .int 0, .int 0, .ref m_notedThing, .ref m_notedIs, .ref m_votes, .int 0, .int 0, .ref m_treeThen, .int 0, .int 0, .int 0, .ref m_imageTree, .ref m_pastThen, .ref m_notedThingThen, .ref m_notedIsThen, .ref m_statusThen]))]) (va_Qi (fun (r : Int32) (_ : Unit) => r = 0) (fun (u : Unit) t9 => va_P G vwCl ([]) t9.heap ∧ va_D (va_A [(h0, .inr (11, [.int 0, .ref m_tree, .ref m_data, .ref m_made, .ref m_status, .int 0, .ref m_tape, .ref m_paths, .ref m_pathSize, .null, .int 0, .int 0, .int 0, .int 0, .int 0, .int 0, .int 0, .int 0, .int 0, .int 0, .int 0, .int (-1), .int 0, .ref m_set, .ref m_to, .int 0, .int 0, .int 0, .int 0, .int 0, .int 0, .ref m_lifted, .int 0, .int 0, .int 0, .ref m_order, .int 0, .ref m_past, .int 0, .ref m_rowKind, .ref m_rowSteps, .ref m_rowPath, .ref m_rowWas, .ref m_rowIs, .ref m_pool, .ref m_rowsMany, .ref m_poolMany, .ref m_way, .int 0, .ref m_out, .int 0, .int 0, .ref m_notedThing, .ref m_notedIs, .ref m_votes, .int 0, .int 0, .ref m_treeThen, .int 0, .int 0, .int 0, .ref m_imageTree, .ref m_pastThen, .ref m_notedThingThen, .ref m_notedIsThen, .ref m_statusThen]))] sz) ([])) (va_A [(h0, .inr (11, [.int 0, .ref m_tree, .ref m_data, .ref m_made, .ref m_status, .int 0, .ref m_tape, .ref m_paths, .ref m_pathSize, .null, .int 0, .int 0, .int 0, .int 0, .int 0, .int 0, .int 0, .int 0, .int 0, .int 0, .int 0, .int (-1), .int 0, .ref m_set, .ref m_to, .int 0, .int 0, .int 0, .int 0, .int 0, .int 0, .ref m_lifted, .int 0, .int 0, .int 0, .ref m_order, .int 0, .ref m_past, .int 0, .ref m_rowKind, .ref m_rowSteps, .ref m_rowPath, .ref m_rowWas, .ref m_rowIs, .ref m_pool, .ref m_rowsMany, .ref m_poolMany, .ref m_way, .int 0, .ref m_out, .int 0, .int 0, .ref m_notedThing, .ref m_notedIs, .ref m_votes, .int 0, .int 0, .ref m_treeThen, .int 0, .int 0, .int 0, .ref m_imageTree, .ref m_pastThen, .ref m_notedThingThen, .ref m_notedIsThen, .ref m_statusThen]))] sz)) 0 0 (va_A [(h0, .inr (11, [.int 0, .ref m_tree, .ref m_data, .ref m_made, .ref m_status, .int 0, .ref m_tape, .ref m_paths, .ref m_pathSize, .null, .int 0, .int 0, .int 0, .int 0, .int 0, .int 0, .int 0, .int 0, .int 0, .int 0, .int 0, .int (-1), .int 0, .ref m_set, .ref m_to, .int 0, .int 0, .int 0, .int 0, .int 0, .int 0, .ref m_lifted, .int 0, .int 0, .int 0, .ref m_order, .int 0, .ref m_past, .int 0, .ref m_rowKind, .ref m_rowSteps, .ref m_rowPath, .ref m_rowWas, .ref m_rowIs, .ref m_pool, .ref m_rowsMany, .ref m_poolMany, .ref m_way, .int 0, .ref m_out, .int 0, .int 0, .ref m_notedThing, .ref m_notedIs, .ref m_votes, .int 0, .int 0, .ref m_treeThen, .int 0, .int 0, .int 0, .ref m_imageTree, .ref m_pastThen, .ref m_notedThingThen, .ref m_notedIsThen, .ref m_statusThen]))] sz) := by
  refine Met.ofW (cc := cX11_restore) (maxL := 1) (ret := (some .boolean)) (by decide) rfl ?_
  intro p e s m args below meth c s₁ B hml hv
  obtain ⟨rfl, hsz, hP, hK, hD0⟩ := hv
  have hx := B.exec
  have hb := B.bytes
  have hr := B.returns
  have hts := atoms_spec (ws := wsX11_restore) B.pre
  have hown : s.vm.findClass RX11 = some m.cls := findClass_of_methodNamed B.named
  have hlocks := B.notSynchronized
  subst hsz
  have hD := hD0.self (sz := s.heap.size)
  generalize hAe : va_A [(h0, .inr (11, [.int 0, .ref m_tree, .ref m_data, .ref m_made, .ref m_status, .int 0, .ref m_tape, .ref m_paths, .ref m_pathSize, .null, .int 0, .int 0, .int 0, .int 0, .int 0, .int 0, .int 0, .int 0, .int 0, .int 0, .int 0, .int (-1), .int 0, .ref m_set, .ref m_to, .int 0, .int 0, .int 0, .int 0, .int 0, .int 0, .ref m_lifted, .int 0, .int 0, .int 0, .ref m_order, .int 0, .ref m_past, .int 0, .ref m_rowKind, .ref m_rowSteps, .ref m_rowPath, .ref m_rowWas, .ref m_rowIs, .ref m_pool, .ref m_rowsMany, .ref m_poolMany, .ref m_way, .int 0, .ref m_out, .int 0, .int 0, .ref m_notedThing, .ref m_notedIs, .ref m_votes, .int 0, .int 0, .ref m_treeThen, .int 0, .int 0, .int 0, .ref m_imageTree, .ref m_pastThen, .ref m_notedThingThen, .ref m_notedIsThen, .ref m_statusThen]))] s.heap.size = A at hD ⊢
  have hA : ∀ q : Nat, s.heap.size ≤ q → A q := fun q h => by rw [← hAe]; exact Or.inr h
  have hS : va_S A s.heap s.heap [] := va_S.rf
  have hP : va_P G vwCl [(h0, .inr (11, [.int 0, .ref m_tree, .ref m_data, .ref m_made, .ref m_status, .int 0, .ref m_tape, .ref m_paths, .ref m_pathSize, .null, .int 0, .int 0, .int 0, .int 0, .int 0, .int 0, .int 0, .int 0, .int 0, .int 0, .int 0, .int (-1), .int 0, .ref m_set, .ref m_to, .int 0, .int 0, .int 0, .int 0, .int 0, .int 0, .ref m_lifted, .int 0, .int 0, .int 0, .ref m_order, .int 0, .ref m_past, .int 0, .ref m_rowKind, .ref m_rowSteps, .ref m_rowPath, .ref m_rowWas, .ref m_rowIs, .ref m_pool, .ref m_rowsMany, .ref m_poolMany, .ref m_way, .int 0, .ref m_out, .int 0, .int 0, .ref m_notedThing, .ref m_notedIs, .ref m_votes, .int 0, .int 0, .ref m_treeThen, .int 0, .int 0, .int 0, .ref m_imageTree, .ref m_pastThen, .ref m_notedThingThen, .ref m_notedIsThen, .ref m_statusThen]))] s.heap := hP
  have inX11 : ∀ w ∈ wsX110, w ∈ wsX11_restore := by decide +kernel
  have hl := lv_entry ([.ref h0]) (n := 1) (Nat.le_of_ble_eq_true rfl)
  rw [lg_entry_eq]
  generalize (lg_sl ([.ref h0]) ++ List.replicate (1 - (lg_sl ([.ref h0])).length) Slot.unset).toArray = ls at hl ⊢
  have hl : lv_has ls 1 [(0, .ref h0)] := hl
  refine lv_aload_n hx hb dX11_restore_0 rfl (lv_at hl 0 rfl) ?_
  refine lv_iconst (v := 0) hx hb dX11_restore_1 (by decide) ?_
  refine va_put (D := G) (ci := 11) (v := .int 0) (ty := .int) (C := RX11) (T := TX11) (N := 66) hx hb hts inX11 tyX11 tyX11_ok nmX11 hown hK.1 hP hD hS 0 rfl rfl 0 (by decide) (hts (.fieldLink RX11 111 "NestQueryModel" "code" "I") (by decide +kernel)) (fun _ h9 => h9) rfl (by decide +kernel) rfl rfl (Nat.le_of_ble_eq_true rfl) dX11_restore_2 (fun H locs hP hD hS => ?_)
  have hP : va_P G vwCl [(h0, .inr (11, [.int 0, .ref m_tree, .ref m_data, .ref m_made, .ref m_status, .int 0, .ref m_tape, .ref m_paths, .ref m_pathSize, .null, .int 0, .int 0, .int 0, .int 0, .int 0, .int 0, .int 0, .int 0, .int 0, .int 0, .int 0, .int (-1), .int 0, .ref m_set, .ref m_to, .int 0, .int 0, .int 0, .int 0, .int 0, .int 0, .ref m_lifted, .int 0, .int 0, .int 0, .ref m_order, .int 0, .ref m_past, .int 0, .ref m_rowKind, .ref m_rowSteps, .ref m_rowPath, .ref m_rowWas, .ref m_rowIs, .ref m_pool, .ref m_rowsMany, .ref m_poolMany, .ref m_way, .int 0, .ref m_out, .int 0, .int 0, .ref m_notedThing, .ref m_notedIs, .ref m_votes, .int 0, .int 0, .ref m_treeThen, .int 0, .int 0, .int 0, .ref m_imageTree, .ref m_pastThen, .ref m_notedThingThen, .ref m_notedIsThen, .ref m_statusThen]))] H := hP
  have hD : va_D A [(h0, .inr (11, [.int 0, .ref m_tree, .ref m_data, .ref m_made, .ref m_status, .int 0, .ref m_tape, .ref m_paths, .ref m_pathSize, .null, .int 0, .int 0, .int 0, .int 0, .int 0, .int 0, .int 0, .int 0, .int 0, .int 0, .int 0, .int (-1), .int 0, .ref m_set, .ref m_to, .int 0, .int 0, .int 0, .int 0, .int 0, .int 0, .ref m_lifted, .int 0, .int 0, .int 0, .ref m_order, .int 0, .ref m_past, .int 0, .ref m_rowKind, .ref m_rowSteps, .ref m_rowPath, .ref m_rowWas, .ref m_rowIs, .ref m_pool, .ref m_rowsMany, .ref m_poolMany, .ref m_way, .int 0, .ref m_out, .int 0, .int 0, .ref m_notedThing, .ref m_notedIs, .ref m_votes, .int 0, .int 0, .ref m_treeThen, .int 0, .int 0, .int 0, .ref m_imageTree, .ref m_pastThen, .ref m_notedThingThen, .ref m_notedIsThen, .ref m_statusThen]))] := hD
  refine lv_aload_n hx hb dX11_restore_5 rfl (lv_at hl 0 rfl) ?_
  refine va_get (D := G) (ci := 11) (v := .int 0) (C := RX11) (T := TX11) (N := 66) hx hb hts inX11 hown hK.1 hP 0 rfl rfl 58 (by decide) (hts (.fieldLink RX11 238 "NestQueryModel" "hasImage" "Z") (by decide +kernel)) (fun _ h9 => h9) rfl dX11_restore_6 ?_
  refine lv_if_ne (tgt := 14) hx hb dX11_restore_9 (by decide) (fun c_1 => absurd c_1 (by decide)) (fun _ => ?_)
  refine lv_iconst (v := 0) hx hb dX11_restore_12 (by decide) ?_
  have hP9 := hP.sub (ws' := []) [] rfl
  have hD9 := hD.sub (ws' := []) [] (by decide) rfl
  refine W.widen (k := 0) (n := 0) (Nat.le_of_ble_eq_true rfl) (Nat.le_of_ble_eq_true rfl) ?_
  exact W.zret (v := 0) hx hb hr (by decide) (fun t ht hW => ⟨⟨0, (), rfl, rfl, by rw [ht]; exact hP9, by first | exact hD9 | (rw [hAe]; exact hD9)⟩, hS.F ht⟩) hS.2.2 dX11_restore_13

set_option maxHeartbeats 4000000 in
set_option maxRecDepth 100000 in
theorem c_m_forget (l : Launch) (G : va_G) (y : Nat → ClassId) (sz : Nat) (h0 : Nat) (m_tree : Nat) (m_data : Nat) (m_made : Nat) (m_status : Nat) (m_tape : Nat) (m_paths : Nat) (m_pathSize : Nat) (m_set : Nat) (m_to : Nat) (m_lifted : Nat) (m_order : Nat) (m_past : Nat) (m_rowKind : Nat) (m_rowSteps : Nat) (m_rowPath : Nat) (m_rowWas : Nat) (m_rowIs : Nat) (m_pool : Nat) (m_rowsMany : Nat) (m_poolMany : Nat) (m_way : Nat) (m_out : Nat) (m_notedThing : Nat) (m_notedIs : Nat) (m_votes : Nat) (m_treeThen : Nat) (m_imageTree : Nat) (m_pastThen : Nat) (m_notedThingThen : Nat) (m_notedIsThen : Nat) (m_statusThen : Nat)  : Met l yX11_forget wsX11_forget ({ frames := 0, cells := 0, slots := 0, locals := 0 }) (nq_P G y sz [.ref h0] [(h0, .inr (11, [.int 0, .ref m_tree, .ref m_data, .ref m_made, .ref m_status, .int 0, .ref m_tape, .ref m_paths, .ref m_pathSize, .null, .int 0, .int 0, .int 0, .int 0, .int 0, .int 0, .int 0, .int 0, .int 0, .int 0, .int 0, .int (-1), .int 0, .ref m_set, .ref m_to, .int 0, .int 0, .int 0, .int 0, .int 0, .int 0, .ref m_lifted, .int 0, .int 0, .int 0, .ref m_order, .int 0, .ref m_past, .int 0, .ref m_rowKind, .ref m_rowSteps, .ref m_rowPath, .ref m_rowWas, .ref m_rowIs, .ref m_pool, .ref m_rowsMany, .ref m_poolMany, .ref m_way, .int 0, .ref m_out, .int 0, .int 0, .ref m_notedThing, .ref m_notedIs, .ref m_votes, .int 0, .int 0, .ref m_treeThen, .int 0, .int 0, .int 0, .ref m_imageTree, .ref m_pastThen, .ref m_notedThingThen, .ref m_notedIsThen, .ref m_statusThen]))]) (va_Qv (fun (_ : Unit) => True) (fun (u : Unit) t9 => va_P G vwCl ([]) t9.heap ∧ va_D (va_A [(h0, .inr (11, [.int 0, .ref m_tree, .ref m_data, .ref m_made, .ref m_status, .int 0, .ref m_tape, .ref m_paths, .ref m_pathSize, .null, .int 0, .int 0, .int 0, .int 0, .int 0, .int 0, .int 0, .int 0, .int 0, .int 0, .int 0, .int (-1), .int 0, .ref m_set, .ref m_to, .int 0, .int 0, .int 0, .int 0, .int 0, .int 0, .ref m_lifted, .int 0, .int 0, .int 0, .ref m_order, .int 0, .ref m_past, .int 0, .ref m_rowKind, .ref m_rowSteps, .ref m_rowPath, .ref m_rowWas, .ref m_rowIs, .ref m_pool, .ref m_rowsMany, .ref m_poolMany, .ref m_way, .int 0, .ref m_out, .int 0, .int 0, .ref m_notedThing, .ref m_notedIs, .ref m_votes, .int 0, .int 0, .ref m_treeThen, .int 0, .int 0, .int 0, .ref m_imageTree, .ref m_pastThen, .ref m_notedThingThen, .ref m_notedIsThen, .ref m_statusThen]))] sz) ([])) (va_A [(h0, .inr (11, [.int 0, .ref m_tree, .ref m_data, .ref m_made, .ref m_status, .int 0, .ref m_tape, .ref m_paths, .ref m_pathSize, .null, .int 0, .int 0, .int 0, .int 0, .int 0, .int 0, .int 0, .int 0, .int 0, .int 0, .int 0, .int (-1), .int 0, .ref m_set, .ref m_to, .int 0, .int 0, .int 0, .int 0, .int 0, .int 0, .ref m_lifted, .int 0, .int 0, .int 0, .ref m_order, .int 0, .ref m_past, .int 0, .ref m_rowKind, .ref m_rowSteps, .ref m_rowPath, .ref m_rowWas, .ref m_rowIs, .ref m_pool, .ref m_rowsMany, .ref m_poolMany, .ref m_way, .int 0, .ref m_out, .int 0, .int 0, .ref m_notedThing, .ref m_notedIs, .ref m_votes, .int 0, .int 0, .ref m_treeThen, .int 0, .int 0, .int 0, .ref m_imageTree, .ref m_pastThen, .ref m_notedThingThen, .ref m_notedIsThen, .ref m_statusThen]))] sz)) 0 0 (va_A [(h0, .inr (11, [.int 0, .ref m_tree, .ref m_data, .ref m_made, .ref m_status, .int 0, .ref m_tape, .ref m_paths, .ref m_pathSize, .null, .int 0, .int 0, .int 0, .int 0, .int 0, .int 0, .int 0, .int 0, .int 0, .int 0, .int 0, .int (-1), .int 0, .ref m_set, .ref m_to, .int 0, .int 0, .int 0, .int 0, .int 0, .int 0, .ref m_lifted, .int 0, .int 0, .int 0, .ref m_order, .int 0, .ref m_past, .int 0, .ref m_rowKind, .ref m_rowSteps, .ref m_rowPath, .ref m_rowWas, .ref m_rowIs, .ref m_pool, .ref m_rowsMany, .ref m_poolMany, .ref m_way, .int 0, .ref m_out, .int 0, .int 0, .ref m_notedThing, .ref m_notedIs, .ref m_votes, .int 0, .int 0, .ref m_treeThen, .int 0, .int 0, .int 0, .ref m_imageTree, .ref m_pastThen, .ref m_notedThingThen, .ref m_notedIsThen, .ref m_statusThen]))] sz) := by
  refine Met.ofW (cc := cX11_forget) (maxL := 1) (ret := none) (by decide) rfl ?_
  intro p e s m args below meth c s₁ B hml hv
  obtain ⟨rfl, hsz, hP, hK, hD0⟩ := hv
  have hx := B.exec
  have hb := B.bytes
  have hr := B.returns
  have hts := atoms_spec (ws := wsX11_forget) B.pre
  have hown : s.vm.findClass RX11 = some m.cls := findClass_of_methodNamed B.named
  have hlocks := B.notSynchronized
  subst hsz
  have hD := hD0.self (sz := s.heap.size)
  generalize hAe : va_A [(h0, .inr (11, [.int 0, .ref m_tree, .ref m_data, .ref m_made, .ref m_status, .int 0, .ref m_tape, .ref m_paths, .ref m_pathSize, .null, .int 0, .int 0, .int 0, .int 0, .int 0, .int 0, .int 0, .int 0, .int 0, .int 0, .int 0, .int (-1), .int 0, .ref m_set, .ref m_to, .int 0, .int 0, .int 0, .int 0, .int 0, .int 0, .ref m_lifted, .int 0, .int 0, .int 0, .ref m_order, .int 0, .ref m_past, .int 0, .ref m_rowKind, .ref m_rowSteps, .ref m_rowPath, .ref m_rowWas, .ref m_rowIs, .ref m_pool, .ref m_rowsMany, .ref m_poolMany, .ref m_way, .int 0, .ref m_out, .int 0, .int 0, .ref m_notedThing, .ref m_notedIs, .ref m_votes, .int 0, .int 0, .ref m_treeThen, .int 0, .int 0, .int 0, .ref m_imageTree, .ref m_pastThen, .ref m_notedThingThen, .ref m_notedIsThen, .ref m_statusThen]))] s.heap.size = A at hD ⊢
  have hA : ∀ q : Nat, s.heap.size ≤ q → A q := fun q h => by rw [← hAe]; exact Or.inr h
  have hS : va_S A s.heap s.heap [] := va_S.rf
  have hP : va_P G vwCl [(h0, .inr (11, [.int 0, .ref m_tree, .ref m_data, .ref m_made, .ref m_status, .int 0, .ref m_tape, .ref m_paths, .ref m_pathSize, .null, .int 0, .int 0, .int 0, .int 0, .int 0, .int 0, .int 0, .int 0, .int 0, .int 0, .int 0, .int (-1), .int 0, .ref m_set, .ref m_to, .int 0, .int 0, .int 0, .int 0, .int 0, .int 0, .ref m_lifted, .int 0, .int 0, .int 0, .ref m_order, .int 0, .ref m_past, .int 0, .ref m_rowKind, .ref m_rowSteps, .ref m_rowPath, .ref m_rowWas, .ref m_rowIs, .ref m_pool, .ref m_rowsMany, .ref m_poolMany, .ref m_way, .int 0, .ref m_out, .int 0, .int 0, .ref m_notedThing, .ref m_notedIs, .ref m_votes, .int 0, .int 0, .ref m_treeThen, .int 0, .int 0, .int 0, .ref m_imageTree, .ref m_pastThen, .ref m_notedThingThen, .ref m_notedIsThen, .ref m_statusThen]))] s.heap := hP
  have inX11 : ∀ w ∈ wsX110, w ∈ wsX11_forget := by decide +kernel
  have hl := lv_entry ([.ref h0]) (n := 1) (Nat.le_of_ble_eq_true rfl)
  rw [lg_entry_eq]
  generalize (lg_sl ([.ref h0]) ++ List.replicate (1 - (lg_sl ([.ref h0])).length) Slot.unset).toArray = ls at hl ⊢
  have hl : lv_has ls 1 [(0, .ref h0)] := hl
  refine lv_aload_n hx hb dX11_forget_0 rfl (lv_at hl 0 rfl) ?_
  refine lv_iconst (v := 0) hx hb dX11_forget_1 (by decide) ?_
  refine va_put (D := G) (ci := 11) (v := .int 0) (ty := .int) (C := RX11) (T := TX11) (N := 66) hx hb hts inX11 tyX11 tyX11_ok nmX11 hown hK.1 hP hD hS 0 rfl rfl 0 (by decide) (hts (.fieldLink RX11 111 "NestQueryModel" "code" "I") (by decide +kernel)) (fun _ h9 => h9) rfl (by decide +kernel) rfl rfl (Nat.le_of_ble_eq_true rfl) dX11_forget_2 (fun H locs hP hD hS => ?_)
  have hP : va_P G vwCl [(h0, .inr (11, [.int 0, .ref m_tree, .ref m_data, .ref m_made, .ref m_status, .int 0, .ref m_tape, .ref m_paths, .ref m_pathSize, .null, .int 0, .int 0, .int 0, .int 0, .int 0, .int 0, .int 0, .int 0, .int 0, .int 0, .int 0, .int (-1), .int 0, .ref m_set, .ref m_to, .int 0, .int 0, .int 0, .int 0, .int 0, .int 0, .ref m_lifted, .int 0, .int 0, .int 0, .ref m_order, .int 0, .ref m_past, .int 0, .ref m_rowKind, .ref m_rowSteps, .ref m_rowPath, .ref m_rowWas, .ref m_rowIs, .ref m_pool, .ref m_rowsMany, .ref m_poolMany, .ref m_way, .int 0, .ref m_out, .int 0, .int 0, .ref m_notedThing, .ref m_notedIs, .ref m_votes, .int 0, .int 0, .ref m_treeThen, .int 0, .int 0, .int 0, .ref m_imageTree, .ref m_pastThen, .ref m_notedThingThen, .ref m_notedIsThen, .ref m_statusThen]))] H := hP
  have hD : va_D A [(h0, .inr (11, [.int 0, .ref m_tree, .ref m_data, .ref m_made, .ref m_status, .int 0, .ref m_tape, .ref m_paths, .ref m_pathSize, .null, .int 0, .int 0, .int 0, .int 0, .int 0, .int 0, .int 0, .int 0, .int 0, .int 0, .int 0, .int (-1), .int 0, .ref m_set, .ref m_to, .int 0, .int 0, .int 0, .int 0, .int 0, .int 0, .ref m_lifted, .int 0, .int 0, .int 0, .ref m_order, .int 0, .ref m_past, .int 0, .ref m_rowKind, .ref m_rowSteps, .ref m_rowPath, .ref m_rowWas, .ref m_rowIs, .ref m_pool, .ref m_rowsMany, .ref m_poolMany, .ref m_way, .int 0, .ref m_out, .int 0, .int 0, .ref m_notedThing, .ref m_notedIs, .ref m_votes, .int 0, .int 0, .ref m_treeThen, .int 0, .int 0, .int 0, .ref m_imageTree, .ref m_pastThen, .ref m_notedThingThen, .ref m_notedIsThen, .ref m_statusThen]))] := hD
  refine lv_aload_n hx hb dX11_forget_5 rfl (lv_at hl 0 rfl) ?_
  refine lv_iconst (v := 0) hx hb dX11_forget_6 (by decide) ?_
  refine va_put (D := G) (ci := 11) (v := .int 0) (ty := .int) (C := RX11) (T := TX11) (N := 66) hx hb hts inX11 tyX11 tyX11_ok nmX11 hown hK.1 hP hD hS 0 rfl rfl 51 (by decide) (hts (.fieldLink RX11 235 "NestQueryModel" "noted" "I") (by decide +kernel)) (fun _ h9 => h9) rfl (by decide +kernel) rfl rfl (Nat.le_of_ble_eq_true rfl) dX11_forget_7 (fun H locs hP hD hS => ?_)
  have hP : va_P G vwCl [(h0, .inr (11, [.int 0, .ref m_tree, .ref m_data, .ref m_made, .ref m_status, .int 0, .ref m_tape, .ref m_paths, .ref m_pathSize, .null, .int 0, .int 0, .int 0, .int 0, .int 0, .int 0, .int 0, .int 0, .int 0, .int 0, .int 0, .int (-1), .int 0, .ref m_set, .ref m_to, .int 0, .int 0, .int 0, .int 0, .int 0, .int 0, .ref m_lifted, .int 0, .int 0, .int 0, .ref m_order, .int 0, .ref m_past, .int 0, .ref m_rowKind, .ref m_rowSteps, .ref m_rowPath, .ref m_rowWas, .ref m_rowIs, .ref m_pool, .ref m_rowsMany, .ref m_poolMany, .ref m_way, .int 0, .ref m_out, .int 0, .int 0, .ref m_notedThing, .ref m_notedIs, .ref m_votes, .int 0, .int 0, .ref m_treeThen, .int 0, .int 0, .int 0, .ref m_imageTree, .ref m_pastThen, .ref m_notedThingThen, .ref m_notedIsThen, .ref m_statusThen]))] H := hP
  have hD : va_D A [(h0, .inr (11, [.int 0, .ref m_tree, .ref m_data, .ref m_made, .ref m_status, .int 0, .ref m_tape, .ref m_paths, .ref m_pathSize, .null, .int 0, .int 0, .int 0, .int 0, .int 0, .int 0, .int 0, .int 0, .int 0, .int 0, .int 0, .int (-1), .int 0, .ref m_set, .ref m_to, .int 0, .int 0, .int 0, .int 0, .int 0, .int 0, .ref m_lifted, .int 0, .int 0, .int 0, .ref m_order, .int 0, .ref m_past, .int 0, .ref m_rowKind, .ref m_rowSteps, .ref m_rowPath, .ref m_rowWas, .ref m_rowIs, .ref m_pool, .ref m_rowsMany, .ref m_poolMany, .ref m_way, .int 0, .ref m_out, .int 0, .int 0, .ref m_notedThing, .ref m_notedIs, .ref m_votes, .int 0, .int 0, .ref m_treeThen, .int 0, .int 0, .int 0, .ref m_imageTree, .ref m_pastThen, .ref m_notedThingThen, .ref m_notedIsThen, .ref m_statusThen]))] := hD
  have hP9 := hP.sub (ws' := []) [] rfl
  have hD9 := hD.sub (ws' := []) [] (by decide) rfl
  refine W.widen (k := 0) (n := 0) (Nat.le_of_ble_eq_true rfl) (Nat.le_of_ble_eq_true rfl) ?_
  exact W.vret hx hb hr (fun t ht hW => ⟨⟨(), rfl, trivial, by rw [ht]; exact hP9, by first | exact hD9 | (rw [hAe]; exact hD9)⟩, hS.F ht⟩) hS.2.2 dX11_forget_10

set_option maxHeartbeats 4000000 in
set_option maxRecDepth 100000 in
theorem c_m_add (l : Launch) (G : va_G) (y : Nat → ClassId) (sz : Nat) (h0 : Nat) (m_tree : Nat) (m_data : Nat) (m_made : Nat) (m_status : Nat) (m_tape : Nat) (m_paths : Nat) (m_pathSize : Nat) (m_set : Nat) (m_to : Nat) (m_lifted : Nat) (m_order : Nat) (m_past : Nat) (m_rowKind : Nat) (m_rowSteps : Nat) (m_rowPath : Nat) (m_rowWas : Nat) (m_rowIs : Nat) (m_pool : Nat) (m_rowsMany : Nat) (m_poolMany : Nat) (m_way : Nat) (m_out : Nat) (m_notedThing : Nat) (m_notedIs : Nat) (m_votes : Nat) (m_treeThen : Nat) (m_imageTree : Nat) (m_pastThen : Nat) (m_notedThingThen : Nat) (m_notedIsThen : Nat) (m_statusThen : Nat) (i : Int32) (v : Int32)  : Met l yX11_add wsX11_add ({ frames := 2, cells := 0, slots := 0, locals := 43 }) (nq_P G y sz [.ref h0, .int i, .int v] [(h0, .inr (11, [.int 0, .ref m_tree, .ref m_data, .ref m_made, .ref m_status, .int 0, .ref m_tape, .ref m_paths, .ref m_pathSize, .null, .int 0, .int 0, .int 0, .int 0, .int 0, .int 0, .int 0, .int 0, .int 0, .int 0, .int 0, .int (-1), .int 0, .ref m_set, .ref m_to, .int 0, .int 0, .int 0, .int 0, .int 0, .int 0, .ref m_lifted, .int 0, .int 0, .int 0, .ref m_order, .int 0, .ref m_past, .int 0, .ref m_rowKind, .ref m_rowSteps, .ref m_rowPath, .ref m_rowWas, .ref m_rowIs, .ref m_pool, .ref m_rowsMany, .ref m_poolMany, .ref m_way, .int 0, .ref m_out, .int 0, .int 0, .ref m_notedThing, .ref m_notedIs, .ref m_votes, .int 0, .int 0, .ref m_treeThen, .int 0, .int 0, .int 0, .ref m_imageTree, .ref m_pastThen, .ref m_notedThingThen, .ref m_notedIsThen, .ref m_statusThen])), (m_pathSize, .inl (y 0, 4, .inl (fun _ => 0))), (m_status, .inl (y 0, 3, .inl (fun _ => 0)))]) (va_Qi (fun (r : Int32) (_ : Unit) => r = (-1)) (fun (u : Unit) t9 => va_P G vwCl ([]) t9.heap ∧ va_D (va_A [(h0, .inr (11, [.int 0, .ref m_tree, .ref m_data, .ref m_made, .ref m_status, .int 0, .ref m_tape, .ref m_paths, .ref m_pathSize, .null, .int 0, .int 0, .int 0, .int 0, .int 0, .int 0, .int 0, .int 0, .int 0, .int 0, .int 0, .int (-1), .int 0, .ref m_set, .ref m_to, .int 0, .int 0, .int 0, .int 0, .int 0, .int 0, .ref m_lifted, .int 0, .int 0, .int 0, .ref m_order, .int 0, .ref m_past, .int 0, .ref m_rowKind, .ref m_rowSteps, .ref m_rowPath, .ref m_rowWas, .ref m_rowIs, .ref m_pool, .ref m_rowsMany, .ref m_poolMany, .ref m_way, .int 0, .ref m_out, .int 0, .int 0, .ref m_notedThing, .ref m_notedIs, .ref m_votes, .int 0, .int 0, .ref m_treeThen, .int 0, .int 0, .int 0, .ref m_imageTree, .ref m_pastThen, .ref m_notedThingThen, .ref m_notedIsThen, .ref m_statusThen])), (m_pathSize, .inl (y 0, 4, .inl (fun _ => 0))), (m_status, .inl (y 0, 3, .inl (fun _ => 0)))] sz) ([])) (va_A [(h0, .inr (11, [.int 0, .ref m_tree, .ref m_data, .ref m_made, .ref m_status, .int 0, .ref m_tape, .ref m_paths, .ref m_pathSize, .null, .int 0, .int 0, .int 0, .int 0, .int 0, .int 0, .int 0, .int 0, .int 0, .int 0, .int 0, .int (-1), .int 0, .ref m_set, .ref m_to, .int 0, .int 0, .int 0, .int 0, .int 0, .int 0, .ref m_lifted, .int 0, .int 0, .int 0, .ref m_order, .int 0, .ref m_past, .int 0, .ref m_rowKind, .ref m_rowSteps, .ref m_rowPath, .ref m_rowWas, .ref m_rowIs, .ref m_pool, .ref m_rowsMany, .ref m_poolMany, .ref m_way, .int 0, .ref m_out, .int 0, .int 0, .ref m_notedThing, .ref m_notedIs, .ref m_votes, .int 0, .int 0, .ref m_treeThen, .int 0, .int 0, .int 0, .ref m_imageTree, .ref m_pastThen, .ref m_notedThingThen, .ref m_notedIsThen, .ref m_statusThen])), (m_pathSize, .inl (y 0, 4, .inl (fun _ => 0))), (m_status, .inl (y 0, 3, .inl (fun _ => 0)))] sz)) 0 0 (va_A [(h0, .inr (11, [.int 0, .ref m_tree, .ref m_data, .ref m_made, .ref m_status, .int 0, .ref m_tape, .ref m_paths, .ref m_pathSize, .null, .int 0, .int 0, .int 0, .int 0, .int 0, .int 0, .int 0, .int 0, .int 0, .int 0, .int 0, .int (-1), .int 0, .ref m_set, .ref m_to, .int 0, .int 0, .int 0, .int 0, .int 0, .int 0, .ref m_lifted, .int 0, .int 0, .int 0, .ref m_order, .int 0, .ref m_past, .int 0, .ref m_rowKind, .ref m_rowSteps, .ref m_rowPath, .ref m_rowWas, .ref m_rowIs, .ref m_pool, .ref m_rowsMany, .ref m_poolMany, .ref m_way, .int 0, .ref m_out, .int 0, .int 0, .ref m_notedThing, .ref m_notedIs, .ref m_votes, .int 0, .int 0, .ref m_treeThen, .int 0, .int 0, .int 0, .ref m_imageTree, .ref m_pastThen, .ref m_notedThingThen, .ref m_notedIsThen, .ref m_statusThen])), (m_pathSize, .inl (y 0, 4, .inl (fun _ => 0))), (m_status, .inl (y 0, 3, .inl (fun _ => 0)))] sz) := by
  refine Met.ofW (cc := cX11_add) (maxL := 4) (ret := (some .int)) (by decide) rfl ?_
  intro p e s m args below meth c s₁ B hml hv
  obtain ⟨rfl, hsz, hP, hK, hD0⟩ := hv
  have hx := B.exec
  have hb := B.bytes
  have hr := B.returns
  have hts := atoms_spec (ws := wsX11_add) B.pre
  have hown : s.vm.findClass RX11 = some m.cls := findClass_of_methodNamed B.named
  have hlocks := B.notSynchronized
  subst hsz
  have hD := hD0.self (sz := s.heap.size)
  generalize hAe : va_A [(h0, .inr (11, [.int 0, .ref m_tree, .ref m_data, .ref m_made, .ref m_status, .int 0, .ref m_tape, .ref m_paths, .ref m_pathSize, .null, .int 0, .int 0, .int 0, .int 0, .int 0, .int 0, .int 0, .int 0, .int 0, .int 0, .int 0, .int (-1), .int 0, .ref m_set, .ref m_to, .int 0, .int 0, .int 0, .int 0, .int 0, .int 0, .ref m_lifted, .int 0, .int 0, .int 0, .ref m_order, .int 0, .ref m_past, .int 0, .ref m_rowKind, .ref m_rowSteps, .ref m_rowPath, .ref m_rowWas, .ref m_rowIs, .ref m_pool, .ref m_rowsMany, .ref m_poolMany, .ref m_way, .int 0, .ref m_out, .int 0, .int 0, .ref m_notedThing, .ref m_notedIs, .ref m_votes, .int 0, .int 0, .ref m_treeThen, .int 0, .int 0, .int 0, .ref m_imageTree, .ref m_pastThen, .ref m_notedThingThen, .ref m_notedIsThen, .ref m_statusThen])), (m_pathSize, .inl (y 0, 4, .inl (fun _ => 0))), (m_status, .inl (y 0, 3, .inl (fun _ => 0)))] s.heap.size = A at hD ⊢
  have hA : ∀ q : Nat, s.heap.size ≤ q → A q := fun q h => by rw [← hAe]; exact Or.inr h
  have hS : va_S A s.heap s.heap [] := va_S.rf
  have hP : va_P G vwCl [(h0, .inr (11, [.int 0, .ref m_tree, .ref m_data, .ref m_made, .ref m_status, .int 0, .ref m_tape, .ref m_paths, .ref m_pathSize, .null, .int 0, .int 0, .int 0, .int 0, .int 0, .int 0, .int 0, .int 0, .int 0, .int 0, .int 0, .int (-1), .int 0, .ref m_set, .ref m_to, .int 0, .int 0, .int 0, .int 0, .int 0, .int 0, .ref m_lifted, .int 0, .int 0, .int 0, .ref m_order, .int 0, .ref m_past, .int 0, .ref m_rowKind, .ref m_rowSteps, .ref m_rowPath, .ref m_rowWas, .ref m_rowIs, .ref m_pool, .ref m_rowsMany, .ref m_poolMany, .ref m_way, .int 0, .ref m_out, .int 0, .int 0, .ref m_notedThing, .ref m_notedIs, .ref m_votes, .int 0, .int 0, .ref m_treeThen, .int 0, .int 0, .int 0, .ref m_imageTree, .ref m_pastThen, .ref m_notedThingThen, .ref m_notedIsThen, .ref m_statusThen])), (m_pathSize, .inl (y 0, 4, .inl (fun _ => 0))), (m_status, .inl (y 0, 3, .inl (fun _ => 0)))] s.heap := hP
  have inX11 : ∀ w ∈ wsX110, w ∈ wsX11_add := by decide +kernel
  have hl := lv_entry ([.ref h0, .int i, .int v]) (n := 4) (Nat.le_of_ble_eq_true rfl)
  rw [lg_entry_eq]
  generalize (lg_sl ([.ref h0, .int i, .int v]) ++ List.replicate (4 - (lg_sl ([.ref h0, .int i, .int v])).length) Slot.unset).toArray = ls at hl ⊢
  have hl : lv_has ls 4 [(0, .ref h0), (1, .int i), (2, .int v)] := hl
  refine lv_aload_n hx hb dX11_add_0 rfl (lv_at hl 0 rfl) ?_
  refine lv_iconst (v := 0) hx hb dX11_add_1 (by decide) ?_
  refine va_put (D := G) (ci := 11) (v := .int 0) (ty := .int) (C := RX11) (T := TX11) (N := 66) hx hb hts inX11 tyX11 tyX11_ok nmX11 hown hK.1 hP hD hS 0 rfl rfl 0 (by decide) (hts (.fieldLink RX11 111 "NestQueryModel" "code" "I") (by decide +kernel)) (fun _ h9 => h9) rfl (by decide +kernel) rfl rfl (Nat.le_of_ble_eq_true rfl) dX11_add_2 (fun H locs hP hD hS => ?_)
  have hP : va_P G vwCl [(h0, .inr (11, [.int 0, .ref m_tree, .ref m_data, .ref m_made, .ref m_status, .int 0, .ref m_tape, .ref m_paths, .ref m_pathSize, .null, .int 0, .int 0, .int 0, .int 0, .int 0, .int 0, .int 0, .int 0, .int 0, .int 0, .int 0, .int (-1), .int 0, .ref m_set, .ref m_to, .int 0, .int 0, .int 0, .int 0, .int 0, .int 0, .ref m_lifted, .int 0, .int 0, .int 0, .ref m_order, .int 0, .ref m_past, .int 0, .ref m_rowKind, .ref m_rowSteps, .ref m_rowPath, .ref m_rowWas, .ref m_rowIs, .ref m_pool, .ref m_rowsMany, .ref m_poolMany, .ref m_way, .int 0, .ref m_out, .int 0, .int 0, .ref m_notedThing, .ref m_notedIs, .ref m_votes, .int 0, .int 0, .ref m_treeThen, .int 0, .int 0, .int 0, .ref m_imageTree, .ref m_pastThen, .ref m_notedThingThen, .ref m_notedIsThen, .ref m_statusThen])), (m_pathSize, .inl (y 0, 4, .inl (fun _ => 0))), (m_status, .inl (y 0, 3, .inl (fun _ => 0)))] H := hP
  have hD : va_D A [(h0, .inr (11, [.int 0, .ref m_tree, .ref m_data, .ref m_made, .ref m_status, .int 0, .ref m_tape, .ref m_paths, .ref m_pathSize, .null, .int 0, .int 0, .int 0, .int 0, .int 0, .int 0, .int 0, .int 0, .int 0, .int 0, .int 0, .int (-1), .int 0, .ref m_set, .ref m_to, .int 0, .int 0, .int 0, .int 0, .int 0, .int 0, .ref m_lifted, .int 0, .int 0, .int 0, .ref m_order, .int 0, .ref m_past, .int 0, .ref m_rowKind, .ref m_rowSteps, .ref m_rowPath, .ref m_rowWas, .ref m_rowIs, .ref m_pool, .ref m_rowsMany, .ref m_poolMany, .ref m_way, .int 0, .ref m_out, .int 0, .int 0, .ref m_notedThing, .ref m_notedIs, .ref m_votes, .int 0, .int 0, .ref m_treeThen, .int 0, .int 0, .int 0, .ref m_imageTree, .ref m_pastThen, .ref m_notedThingThen, .ref m_notedIsThen, .ref m_statusThen])), (m_pathSize, .inl (y 0, 4, .inl (fun _ => 0))), (m_status, .inl (y 0, 3, .inl (fun _ => 0)))] := hD
  refine lv_aload_n hx hb dX11_add_5 rfl (lv_at hl 0 rfl) ?_
  refine lv_iload_n hx hb dX11_add_6 rfl (lv_at hl 1 rfl) ?_
  refine nq_rdi (va_runV (As := [.int i]) (rest := []) ⟨hx, hb, hml, hown, hts⟩ (c_m_isPath l G y H.size h0 m_tree m_data m_made m_status m_tape m_paths m_pathSize m_set m_to m_lifted m_order m_past m_rowKind m_rowSteps m_rowPath m_rowWas m_rowIs m_pool m_rowsMany m_poolMany m_way m_out m_notedThing m_notedIs m_votes m_treeThen m_imageTree m_pastThen m_notedThingThen m_notedIsThen m_statusThen i ) (cwV 1 hts gX11_add_X11_isPath rfl rfl rfl (by decide +kernel) ⟨Nat.le_of_ble_eq_true rfl, Nat.le_of_ble_eq_true rfl⟩) (nq_PV hK hP hD [0, 1] rfl rfl 0 rfl rfl) rfl rfl hl.1 rfl (lv_room (Nat.le_of_ble_eq_true rfl)) dX11_add_7 ⟨Nat.le_of_ble_eq_true rfl, Nat.le_of_ble_eq_true rfl⟩) hP hS hA (fun r_1 H locs hw_2 hP hS => ?_)
  subst hw_2
  refine lv_if_eq (tgt := 26) hx hb dX11_add_10 (by decide) (fun _ => ?_) (fun c_3 => absurd c_3 (by decide))
  refine lv_aload_n hx hb dX11_add_26 rfl (lv_at hl 0 rfl) ?_
  refine lv_iconst (v := 1) hx hb dX11_add_27 (by decide) ?_
  refine nq_wri (wr := [(m_pathSize, .inl (y 0, 4, .inl (fun _ => 0)))]) (va_runV (As := [.int 1]) (rest := []) ⟨hx, hb, hml, hown, hts⟩ (c_m_refuse1 l G y H.size h0 m_tree m_data m_made m_status m_tape m_paths m_pathSize m_set m_to m_lifted m_order m_past m_rowKind m_rowSteps m_rowPath m_rowWas m_rowIs m_pool m_rowsMany m_poolMany m_way m_out m_notedThing m_notedIs m_votes m_treeThen m_imageTree m_pastThen m_notedThingThen m_notedIsThen m_statusThen ) (cwV 1 hts gX11_add_X11_refuse rfl rfl rfl (by decide +kernel) ⟨Nat.le_of_ble_eq_true rfl, Nat.le_of_ble_eq_true rfl⟩) (nq_PV hK hP hD [0, 2] rfl rfl 0 rfl rfl) rfl rfl hl.1 rfl (lv_room (Nat.le_of_ble_eq_true rfl)) dX11_add_28 ⟨Nat.le_of_ble_eq_true rfl, Nat.le_of_ble_eq_true rfl⟩) hP hD hS hA [0, 2] [1] rfl rfl (by decide) (by decide) (fun r_6 u_4 H locs hw_5 hP hD hS => ?_)
  have hP : va_P G vwCl [(m_pathSize, .inl (y 0, 4, .inl (fun _ => 0))), (h0, .inr (11, [.int 0, .ref m_tree, .ref m_data, .ref m_made, .ref m_status, .int 0, .ref m_tape, .ref m_paths, .ref m_pathSize, .null, .int 0, .int 0, .int 0, .int 0, .int 0, .int 0, .int 0, .int 0, .int 0, .int 0, .int 0, .int (-1), .int 0, .ref m_set, .ref m_to, .int 0, .int 0, .int 0, .int 0, .int 0, .int 0, .ref m_lifted, .int 0, .int 0, .int 0, .ref m_order, .int 0, .ref m_past, .int 0, .ref m_rowKind, .ref m_rowSteps, .ref m_rowPath, .ref m_rowWas, .ref m_rowIs, .ref m_pool, .ref m_rowsMany, .ref m_poolMany, .ref m_way, .int 0, .ref m_out, .int 0, .int 0, .ref m_notedThing, .ref m_notedIs, .ref m_votes, .int 0, .int 0, .ref m_treeThen, .int 0, .int 0, .int 0, .ref m_imageTree, .ref m_pastThen, .ref m_notedThingThen, .ref m_notedIsThen, .ref m_statusThen]))] H := hP
  have hD : va_D A [(m_pathSize, .inl (y 0, 4, .inl (fun _ => 0))), (h0, .inr (11, [.int 0, .ref m_tree, .ref m_data, .ref m_made, .ref m_status, .int 0, .ref m_tape, .ref m_paths, .ref m_pathSize, .null, .int 0, .int 0, .int 0, .int 0, .int 0, .int 0, .int 0, .int 0, .int 0, .int 0, .int 0, .int (-1), .int 0, .ref m_set, .ref m_to, .int 0, .int 0, .int 0, .int 0, .int 0, .int 0, .ref m_lifted, .int 0, .int 0, .int 0, .ref m_order, .int 0, .ref m_past, .int 0, .ref m_rowKind, .ref m_rowSteps, .ref m_rowPath, .ref m_rowWas, .ref m_rowIs, .ref m_pool, .ref m_rowsMany, .ref m_poolMany, .ref m_way, .int 0, .ref m_out, .int 0, .int 0, .ref m_notedThing, .ref m_notedIs, .ref m_votes, .int 0, .int 0, .ref m_treeThen, .int 0, .int 0, .int 0, .ref m_imageTree, .ref m_pastThen, .ref m_notedThingThen, .ref m_notedIsThen, .ref m_statusThen]))] := hD
  subst hw_5
  have hP9 := hP.sub (ws' := []) [] rfl
  have hD9 := hD.sub (ws' := []) [] (by decide) rfl
  refine W.widen (k := 0) (n := 0) (Nat.le_of_ble_eq_true rfl) (Nat.le_of_ble_eq_true rfl) ?_
  exact W.iret (v := (-1)) hx hb hr (fun t ht hW => ⟨⟨(-1), (), rfl, rfl, by rw [ht]; exact hP9, by first | exact hD9 | (rw [hAe]; exact hD9)⟩, hS.F ht⟩) hS.2.2 dX11_add_31

set_option maxHeartbeats 4000000 in
set_option maxRecDepth 100000 in
theorem c_m_change (l : Launch) (G : va_G) (y : Nat → ClassId) (sz : Nat) (h0 : Nat) (m_tree : Nat) (m_data : Nat) (m_made : Nat) (m_status : Nat) (m_tape : Nat) (m_paths : Nat) (m_pathSize : Nat) (m_set : Nat) (m_to : Nat) (m_lifted : Nat) (m_order : Nat) (m_past : Nat) (m_rowKind : Nat) (m_rowSteps : Nat) (m_rowPath : Nat) (m_rowWas : Nat) (m_rowIs : Nat) (m_pool : Nat) (m_rowsMany : Nat) (m_poolMany : Nat) (m_way : Nat) (m_out : Nat) (m_notedThing : Nat) (m_notedIs : Nat) (m_votes : Nat) (m_treeThen : Nat) (m_imageTree : Nat) (m_pastThen : Nat) (m_notedThingThen : Nat) (m_notedIsThen : Nat) (m_statusThen : Nat) (i : Int32) (v : Int32)  : Met l yX11_change wsX11_change ({ frames := 2, cells := 0, slots := 0, locals := 43 }) (nq_P G y sz [.ref h0, .int i, .int v] [(h0, .inr (11, [.int 0, .ref m_tree, .ref m_data, .ref m_made, .ref m_status, .int 0, .ref m_tape, .ref m_paths, .ref m_pathSize, .null, .int 0, .int 0, .int 0, .int 0, .int 0, .int 0, .int 0, .int 0, .int 0, .int 0, .int 0, .int (-1), .int 0, .ref m_set, .ref m_to, .int 0, .int 0, .int 0, .int 0, .int 0, .int 0, .ref m_lifted, .int 0, .int 0, .int 0, .ref m_order, .int 0, .ref m_past, .int 0, .ref m_rowKind, .ref m_rowSteps, .ref m_rowPath, .ref m_rowWas, .ref m_rowIs, .ref m_pool, .ref m_rowsMany, .ref m_poolMany, .ref m_way, .int 0, .ref m_out, .int 0, .int 0, .ref m_notedThing, .ref m_notedIs, .ref m_votes, .int 0, .int 0, .ref m_treeThen, .int 0, .int 0, .int 0, .ref m_imageTree, .ref m_pastThen, .ref m_notedThingThen, .ref m_notedIsThen, .ref m_statusThen])), (m_pathSize, .inl (y 0, 4, .inl (fun _ => 0))), (m_status, .inl (y 0, 3, .inl (fun _ => 0)))]) (va_Qi (fun (r : Int32) (_ : Unit) => r = (-1)) (fun (u : Unit) t9 => va_P G vwCl ([]) t9.heap ∧ va_D (va_A [(h0, .inr (11, [.int 0, .ref m_tree, .ref m_data, .ref m_made, .ref m_status, .int 0, .ref m_tape, .ref m_paths, .ref m_pathSize, .null, .int 0, .int 0, .int 0, .int 0, .int 0, .int 0, .int 0, .int 0, .int 0, .int 0, .int 0, .int (-1), .int 0, .ref m_set, .ref m_to, .int 0, .int 0, .int 0, .int 0, .int 0, .int 0, .ref m_lifted, .int 0, .int 0, .int 0, .ref m_order, .int 0, .ref m_past, .int 0, .ref m_rowKind, .ref m_rowSteps, .ref m_rowPath, .ref m_rowWas, .ref m_rowIs, .ref m_pool, .ref m_rowsMany, .ref m_poolMany, .ref m_way, .int 0, .ref m_out, .int 0, .int 0, .ref m_notedThing, .ref m_notedIs, .ref m_votes, .int 0, .int 0, .ref m_treeThen, .int 0, .int 0, .int 0, .ref m_imageTree, .ref m_pastThen, .ref m_notedThingThen, .ref m_notedIsThen, .ref m_statusThen])), (m_pathSize, .inl (y 0, 4, .inl (fun _ => 0))), (m_status, .inl (y 0, 3, .inl (fun _ => 0)))] sz) ([])) (va_A [(h0, .inr (11, [.int 0, .ref m_tree, .ref m_data, .ref m_made, .ref m_status, .int 0, .ref m_tape, .ref m_paths, .ref m_pathSize, .null, .int 0, .int 0, .int 0, .int 0, .int 0, .int 0, .int 0, .int 0, .int 0, .int 0, .int 0, .int (-1), .int 0, .ref m_set, .ref m_to, .int 0, .int 0, .int 0, .int 0, .int 0, .int 0, .ref m_lifted, .int 0, .int 0, .int 0, .ref m_order, .int 0, .ref m_past, .int 0, .ref m_rowKind, .ref m_rowSteps, .ref m_rowPath, .ref m_rowWas, .ref m_rowIs, .ref m_pool, .ref m_rowsMany, .ref m_poolMany, .ref m_way, .int 0, .ref m_out, .int 0, .int 0, .ref m_notedThing, .ref m_notedIs, .ref m_votes, .int 0, .int 0, .ref m_treeThen, .int 0, .int 0, .int 0, .ref m_imageTree, .ref m_pastThen, .ref m_notedThingThen, .ref m_notedIsThen, .ref m_statusThen])), (m_pathSize, .inl (y 0, 4, .inl (fun _ => 0))), (m_status, .inl (y 0, 3, .inl (fun _ => 0)))] sz)) 0 0 (va_A [(h0, .inr (11, [.int 0, .ref m_tree, .ref m_data, .ref m_made, .ref m_status, .int 0, .ref m_tape, .ref m_paths, .ref m_pathSize, .null, .int 0, .int 0, .int 0, .int 0, .int 0, .int 0, .int 0, .int 0, .int 0, .int 0, .int 0, .int (-1), .int 0, .ref m_set, .ref m_to, .int 0, .int 0, .int 0, .int 0, .int 0, .int 0, .ref m_lifted, .int 0, .int 0, .int 0, .ref m_order, .int 0, .ref m_past, .int 0, .ref m_rowKind, .ref m_rowSteps, .ref m_rowPath, .ref m_rowWas, .ref m_rowIs, .ref m_pool, .ref m_rowsMany, .ref m_poolMany, .ref m_way, .int 0, .ref m_out, .int 0, .int 0, .ref m_notedThing, .ref m_notedIs, .ref m_votes, .int 0, .int 0, .ref m_treeThen, .int 0, .int 0, .int 0, .ref m_imageTree, .ref m_pastThen, .ref m_notedThingThen, .ref m_notedIsThen, .ref m_statusThen])), (m_pathSize, .inl (y 0, 4, .inl (fun _ => 0))), (m_status, .inl (y 0, 3, .inl (fun _ => 0)))] sz) := by
  refine Met.ofW (cc := cX11_change) (maxL := 4) (ret := (some .int)) (by decide) rfl ?_
  intro p e s m args below meth c s₁ B hml hv
  obtain ⟨rfl, hsz, hP, hK, hD0⟩ := hv
  have hx := B.exec
  have hb := B.bytes
  have hr := B.returns
  have hts := atoms_spec (ws := wsX11_change) B.pre
  have hown : s.vm.findClass RX11 = some m.cls := findClass_of_methodNamed B.named
  have hlocks := B.notSynchronized
  subst hsz
  have hD := hD0.self (sz := s.heap.size)
  generalize hAe : va_A [(h0, .inr (11, [.int 0, .ref m_tree, .ref m_data, .ref m_made, .ref m_status, .int 0, .ref m_tape, .ref m_paths, .ref m_pathSize, .null, .int 0, .int 0, .int 0, .int 0, .int 0, .int 0, .int 0, .int 0, .int 0, .int 0, .int 0, .int (-1), .int 0, .ref m_set, .ref m_to, .int 0, .int 0, .int 0, .int 0, .int 0, .int 0, .ref m_lifted, .int 0, .int 0, .int 0, .ref m_order, .int 0, .ref m_past, .int 0, .ref m_rowKind, .ref m_rowSteps, .ref m_rowPath, .ref m_rowWas, .ref m_rowIs, .ref m_pool, .ref m_rowsMany, .ref m_poolMany, .ref m_way, .int 0, .ref m_out, .int 0, .int 0, .ref m_notedThing, .ref m_notedIs, .ref m_votes, .int 0, .int 0, .ref m_treeThen, .int 0, .int 0, .int 0, .ref m_imageTree, .ref m_pastThen, .ref m_notedThingThen, .ref m_notedIsThen, .ref m_statusThen])), (m_pathSize, .inl (y 0, 4, .inl (fun _ => 0))), (m_status, .inl (y 0, 3, .inl (fun _ => 0)))] s.heap.size = A at hD ⊢
  have hA : ∀ q : Nat, s.heap.size ≤ q → A q := fun q h => by rw [← hAe]; exact Or.inr h
  have hS : va_S A s.heap s.heap [] := va_S.rf
  have hP : va_P G vwCl [(h0, .inr (11, [.int 0, .ref m_tree, .ref m_data, .ref m_made, .ref m_status, .int 0, .ref m_tape, .ref m_paths, .ref m_pathSize, .null, .int 0, .int 0, .int 0, .int 0, .int 0, .int 0, .int 0, .int 0, .int 0, .int 0, .int 0, .int (-1), .int 0, .ref m_set, .ref m_to, .int 0, .int 0, .int 0, .int 0, .int 0, .int 0, .ref m_lifted, .int 0, .int 0, .int 0, .ref m_order, .int 0, .ref m_past, .int 0, .ref m_rowKind, .ref m_rowSteps, .ref m_rowPath, .ref m_rowWas, .ref m_rowIs, .ref m_pool, .ref m_rowsMany, .ref m_poolMany, .ref m_way, .int 0, .ref m_out, .int 0, .int 0, .ref m_notedThing, .ref m_notedIs, .ref m_votes, .int 0, .int 0, .ref m_treeThen, .int 0, .int 0, .int 0, .ref m_imageTree, .ref m_pastThen, .ref m_notedThingThen, .ref m_notedIsThen, .ref m_statusThen])), (m_pathSize, .inl (y 0, 4, .inl (fun _ => 0))), (m_status, .inl (y 0, 3, .inl (fun _ => 0)))] s.heap := hP
  have inX11 : ∀ w ∈ wsX110, w ∈ wsX11_change := by decide +kernel
  have hl := lv_entry ([.ref h0, .int i, .int v]) (n := 4) (Nat.le_of_ble_eq_true rfl)
  rw [lg_entry_eq]
  generalize (lg_sl ([.ref h0, .int i, .int v]) ++ List.replicate (4 - (lg_sl ([.ref h0, .int i, .int v])).length) Slot.unset).toArray = ls at hl ⊢
  have hl : lv_has ls 4 [(0, .ref h0), (1, .int i), (2, .int v)] := hl
  refine lv_aload_n hx hb dX11_change_0 rfl (lv_at hl 0 rfl) ?_
  refine lv_iconst (v := 0) hx hb dX11_change_1 (by decide) ?_
  refine va_put (D := G) (ci := 11) (v := .int 0) (ty := .int) (C := RX11) (T := TX11) (N := 66) hx hb hts inX11 tyX11 tyX11_ok nmX11 hown hK.1 hP hD hS 0 rfl rfl 0 (by decide) (hts (.fieldLink RX11 111 "NestQueryModel" "code" "I") (by decide +kernel)) (fun _ h9 => h9) rfl (by decide +kernel) rfl rfl (Nat.le_of_ble_eq_true rfl) dX11_change_2 (fun H locs hP hD hS => ?_)
  have hP : va_P G vwCl [(h0, .inr (11, [.int 0, .ref m_tree, .ref m_data, .ref m_made, .ref m_status, .int 0, .ref m_tape, .ref m_paths, .ref m_pathSize, .null, .int 0, .int 0, .int 0, .int 0, .int 0, .int 0, .int 0, .int 0, .int 0, .int 0, .int 0, .int (-1), .int 0, .ref m_set, .ref m_to, .int 0, .int 0, .int 0, .int 0, .int 0, .int 0, .ref m_lifted, .int 0, .int 0, .int 0, .ref m_order, .int 0, .ref m_past, .int 0, .ref m_rowKind, .ref m_rowSteps, .ref m_rowPath, .ref m_rowWas, .ref m_rowIs, .ref m_pool, .ref m_rowsMany, .ref m_poolMany, .ref m_way, .int 0, .ref m_out, .int 0, .int 0, .ref m_notedThing, .ref m_notedIs, .ref m_votes, .int 0, .int 0, .ref m_treeThen, .int 0, .int 0, .int 0, .ref m_imageTree, .ref m_pastThen, .ref m_notedThingThen, .ref m_notedIsThen, .ref m_statusThen])), (m_pathSize, .inl (y 0, 4, .inl (fun _ => 0))), (m_status, .inl (y 0, 3, .inl (fun _ => 0)))] H := hP
  have hD : va_D A [(h0, .inr (11, [.int 0, .ref m_tree, .ref m_data, .ref m_made, .ref m_status, .int 0, .ref m_tape, .ref m_paths, .ref m_pathSize, .null, .int 0, .int 0, .int 0, .int 0, .int 0, .int 0, .int 0, .int 0, .int 0, .int 0, .int 0, .int (-1), .int 0, .ref m_set, .ref m_to, .int 0, .int 0, .int 0, .int 0, .int 0, .int 0, .ref m_lifted, .int 0, .int 0, .int 0, .ref m_order, .int 0, .ref m_past, .int 0, .ref m_rowKind, .ref m_rowSteps, .ref m_rowPath, .ref m_rowWas, .ref m_rowIs, .ref m_pool, .ref m_rowsMany, .ref m_poolMany, .ref m_way, .int 0, .ref m_out, .int 0, .int 0, .ref m_notedThing, .ref m_notedIs, .ref m_votes, .int 0, .int 0, .ref m_treeThen, .int 0, .int 0, .int 0, .ref m_imageTree, .ref m_pastThen, .ref m_notedThingThen, .ref m_notedIsThen, .ref m_statusThen])), (m_pathSize, .inl (y 0, 4, .inl (fun _ => 0))), (m_status, .inl (y 0, 3, .inl (fun _ => 0)))] := hD
  refine lv_aload_n hx hb dX11_change_5 rfl (lv_at hl 0 rfl) ?_
  refine lv_iload_n hx hb dX11_change_6 rfl (lv_at hl 1 rfl) ?_
  refine nq_rdi (va_runV (As := [.int i]) (rest := []) ⟨hx, hb, hml, hown, hts⟩ (c_m_isPath l G y H.size h0 m_tree m_data m_made m_status m_tape m_paths m_pathSize m_set m_to m_lifted m_order m_past m_rowKind m_rowSteps m_rowPath m_rowWas m_rowIs m_pool m_rowsMany m_poolMany m_way m_out m_notedThing m_notedIs m_votes m_treeThen m_imageTree m_pastThen m_notedThingThen m_notedIsThen m_statusThen i ) (cwV 1 hts gX11_change_X11_isPath rfl rfl rfl (by decide +kernel) ⟨Nat.le_of_ble_eq_true rfl, Nat.le_of_ble_eq_true rfl⟩) (nq_PV hK hP hD [0, 1] rfl rfl 0 rfl rfl) rfl rfl hl.1 rfl (lv_room (Nat.le_of_ble_eq_true rfl)) dX11_change_7 ⟨Nat.le_of_ble_eq_true rfl, Nat.le_of_ble_eq_true rfl⟩) hP hS hA (fun r_1 H locs hw_2 hP hS => ?_)
  subst hw_2
  refine lv_if_eq (tgt := 22) hx hb dX11_change_10 (by decide) (fun _ => ?_) (fun c_3 => absurd c_3 (by decide))
  refine lv_aload_n hx hb dX11_change_22 rfl (lv_at hl 0 rfl) ?_
  refine lv_iconst (v := 1) hx hb dX11_change_23 (by decide) ?_
  refine nq_wri (wr := [(m_pathSize, .inl (y 0, 4, .inl (fun _ => 0)))]) (va_runV (As := [.int 1]) (rest := []) ⟨hx, hb, hml, hown, hts⟩ (c_m_refuse1 l G y H.size h0 m_tree m_data m_made m_status m_tape m_paths m_pathSize m_set m_to m_lifted m_order m_past m_rowKind m_rowSteps m_rowPath m_rowWas m_rowIs m_pool m_rowsMany m_poolMany m_way m_out m_notedThing m_notedIs m_votes m_treeThen m_imageTree m_pastThen m_notedThingThen m_notedIsThen m_statusThen ) (cwV 1 hts gX11_change_X11_refuse rfl rfl rfl (by decide +kernel) ⟨Nat.le_of_ble_eq_true rfl, Nat.le_of_ble_eq_true rfl⟩) (nq_PV hK hP hD [0, 2] rfl rfl 0 rfl rfl) rfl rfl hl.1 rfl (lv_room (Nat.le_of_ble_eq_true rfl)) dX11_change_24 ⟨Nat.le_of_ble_eq_true rfl, Nat.le_of_ble_eq_true rfl⟩) hP hD hS hA [0, 2] [1] rfl rfl (by decide) (by decide) (fun r_6 u_4 H locs hw_5 hP hD hS => ?_)
  have hP : va_P G vwCl [(m_pathSize, .inl (y 0, 4, .inl (fun _ => 0))), (h0, .inr (11, [.int 0, .ref m_tree, .ref m_data, .ref m_made, .ref m_status, .int 0, .ref m_tape, .ref m_paths, .ref m_pathSize, .null, .int 0, .int 0, .int 0, .int 0, .int 0, .int 0, .int 0, .int 0, .int 0, .int 0, .int 0, .int (-1), .int 0, .ref m_set, .ref m_to, .int 0, .int 0, .int 0, .int 0, .int 0, .int 0, .ref m_lifted, .int 0, .int 0, .int 0, .ref m_order, .int 0, .ref m_past, .int 0, .ref m_rowKind, .ref m_rowSteps, .ref m_rowPath, .ref m_rowWas, .ref m_rowIs, .ref m_pool, .ref m_rowsMany, .ref m_poolMany, .ref m_way, .int 0, .ref m_out, .int 0, .int 0, .ref m_notedThing, .ref m_notedIs, .ref m_votes, .int 0, .int 0, .ref m_treeThen, .int 0, .int 0, .int 0, .ref m_imageTree, .ref m_pastThen, .ref m_notedThingThen, .ref m_notedIsThen, .ref m_statusThen]))] H := hP
  have hD : va_D A [(m_pathSize, .inl (y 0, 4, .inl (fun _ => 0))), (h0, .inr (11, [.int 0, .ref m_tree, .ref m_data, .ref m_made, .ref m_status, .int 0, .ref m_tape, .ref m_paths, .ref m_pathSize, .null, .int 0, .int 0, .int 0, .int 0, .int 0, .int 0, .int 0, .int 0, .int 0, .int 0, .int 0, .int (-1), .int 0, .ref m_set, .ref m_to, .int 0, .int 0, .int 0, .int 0, .int 0, .int 0, .ref m_lifted, .int 0, .int 0, .int 0, .ref m_order, .int 0, .ref m_past, .int 0, .ref m_rowKind, .ref m_rowSteps, .ref m_rowPath, .ref m_rowWas, .ref m_rowIs, .ref m_pool, .ref m_rowsMany, .ref m_poolMany, .ref m_way, .int 0, .ref m_out, .int 0, .int 0, .ref m_notedThing, .ref m_notedIs, .ref m_votes, .int 0, .int 0, .ref m_treeThen, .int 0, .int 0, .int 0, .ref m_imageTree, .ref m_pastThen, .ref m_notedThingThen, .ref m_notedIsThen, .ref m_statusThen]))] := hD
  subst hw_5
  have hP9 := hP.sub (ws' := []) [] rfl
  have hD9 := hD.sub (ws' := []) [] (by decide) rfl
  refine W.widen (k := 0) (n := 0) (Nat.le_of_ble_eq_true rfl) (Nat.le_of_ble_eq_true rfl) ?_
  exact W.iret (v := (-1)) hx hb hr (fun t ht hW => ⟨⟨(-1), (), rfl, rfl, by rw [ht]; exact hP9, by first | exact hD9 | (rw [hAe]; exact hD9)⟩, hS.F ht⟩) hS.2.2 dX11_change_27

set_option maxHeartbeats 4000000 in
set_option maxRecDepth 100000 in
theorem c_m_move (l : Launch) (G : va_G) (y : Nat → ClassId) (sz : Nat) (h0 : Nat) (m_tree : Nat) (m_data : Nat) (m_made : Nat) (m_status : Nat) (m_tape : Nat) (m_paths : Nat) (m_pathSize : Nat) (m_set : Nat) (m_to : Nat) (m_lifted : Nat) (m_order : Nat) (m_past : Nat) (m_rowKind : Nat) (m_rowSteps : Nat) (m_rowPath : Nat) (m_rowWas : Nat) (m_rowIs : Nat) (m_pool : Nat) (m_rowsMany : Nat) (m_poolMany : Nat) (m_way : Nat) (m_out : Nat) (m_notedThing : Nat) (m_notedIs : Nat) (m_votes : Nat) (m_treeThen : Nat) (m_imageTree : Nat) (m_pastThen : Nat) (m_notedThingThen : Nat) (m_notedIsThen : Nat) (m_statusThen : Nat) (i : Int32) (j : Int32) (k : Int32)  : Met l yX11_move wsX11_move ({ frames := 3, cells := 0, slots := 0, locals := 71 }) (nq_P G y sz [.ref h0, .int i, .int j, .int k] [(h0, .inr (11, [.int 0, .ref m_tree, .ref m_data, .ref m_made, .ref m_status, .int 0, .ref m_tape, .ref m_paths, .ref m_pathSize, .null, .int 0, .int 0, .int 0, .int 0, .int 0, .int 0, .int 0, .int 0, .int 0, .int 0, .int 0, .int (-1), .int 0, .ref m_set, .ref m_to, .int 0, .int 0, .int 0, .int 0, .int 0, .int 0, .ref m_lifted, .int 0, .int 0, .int 0, .ref m_order, .int 0, .ref m_past, .int 0, .ref m_rowKind, .ref m_rowSteps, .ref m_rowPath, .ref m_rowWas, .ref m_rowIs, .ref m_pool, .ref m_rowsMany, .ref m_poolMany, .ref m_way, .int 0, .ref m_out, .int 0, .int 0, .ref m_notedThing, .ref m_notedIs, .ref m_votes, .int 0, .int 0, .ref m_treeThen, .int 0, .int 0, .int 0, .ref m_imageTree, .ref m_pastThen, .ref m_notedThingThen, .ref m_notedIsThen, .ref m_statusThen])), (m_tree, .inl (y 0, 240, .inl (upd (upd (fun _ => 0) 0 3) 3 1))), (m_status, .inl (y 0, 3, .inl (fun _ => 0)))]) (va_Qi (fun (r : Int32) (_ : Unit) => r = (-1)) (fun (u : Unit) t9 => va_P G vwCl ([]) t9.heap ∧ va_D (va_A [(h0, .inr (11, [.int 0, .ref m_tree, .ref m_data, .ref m_made, .ref m_status, .int 0, .ref m_tape, .ref m_paths, .ref m_pathSize, .null, .int 0, .int 0, .int 0, .int 0, .int 0, .int 0, .int 0, .int 0, .int 0, .int 0, .int 0, .int (-1), .int 0, .ref m_set, .ref m_to, .int 0, .int 0, .int 0, .int 0, .int 0, .int 0, .ref m_lifted, .int 0, .int 0, .int 0, .ref m_order, .int 0, .ref m_past, .int 0, .ref m_rowKind, .ref m_rowSteps, .ref m_rowPath, .ref m_rowWas, .ref m_rowIs, .ref m_pool, .ref m_rowsMany, .ref m_poolMany, .ref m_way, .int 0, .ref m_out, .int 0, .int 0, .ref m_notedThing, .ref m_notedIs, .ref m_votes, .int 0, .int 0, .ref m_treeThen, .int 0, .int 0, .int 0, .ref m_imageTree, .ref m_pastThen, .ref m_notedThingThen, .ref m_notedIsThen, .ref m_statusThen])), (m_tree, .inl (y 0, 240, .inl (upd (upd (fun _ => 0) 0 3) 3 1))), (m_status, .inl (y 0, 3, .inl (fun _ => 0)))] sz) ([])) (va_A [(h0, .inr (11, [.int 0, .ref m_tree, .ref m_data, .ref m_made, .ref m_status, .int 0, .ref m_tape, .ref m_paths, .ref m_pathSize, .null, .int 0, .int 0, .int 0, .int 0, .int 0, .int 0, .int 0, .int 0, .int 0, .int 0, .int 0, .int (-1), .int 0, .ref m_set, .ref m_to, .int 0, .int 0, .int 0, .int 0, .int 0, .int 0, .ref m_lifted, .int 0, .int 0, .int 0, .ref m_order, .int 0, .ref m_past, .int 0, .ref m_rowKind, .ref m_rowSteps, .ref m_rowPath, .ref m_rowWas, .ref m_rowIs, .ref m_pool, .ref m_rowsMany, .ref m_poolMany, .ref m_way, .int 0, .ref m_out, .int 0, .int 0, .ref m_notedThing, .ref m_notedIs, .ref m_votes, .int 0, .int 0, .ref m_treeThen, .int 0, .int 0, .int 0, .ref m_imageTree, .ref m_pastThen, .ref m_notedThingThen, .ref m_notedIsThen, .ref m_statusThen])), (m_tree, .inl (y 0, 240, .inl (upd (upd (fun _ => 0) 0 3) 3 1))), (m_status, .inl (y 0, 3, .inl (fun _ => 0)))] sz)) 0 0 (va_A [(h0, .inr (11, [.int 0, .ref m_tree, .ref m_data, .ref m_made, .ref m_status, .int 0, .ref m_tape, .ref m_paths, .ref m_pathSize, .null, .int 0, .int 0, .int 0, .int 0, .int 0, .int 0, .int 0, .int 0, .int 0, .int 0, .int 0, .int (-1), .int 0, .ref m_set, .ref m_to, .int 0, .int 0, .int 0, .int 0, .int 0, .int 0, .ref m_lifted, .int 0, .int 0, .int 0, .ref m_order, .int 0, .ref m_past, .int 0, .ref m_rowKind, .ref m_rowSteps, .ref m_rowPath, .ref m_rowWas, .ref m_rowIs, .ref m_pool, .ref m_rowsMany, .ref m_poolMany, .ref m_way, .int 0, .ref m_out, .int 0, .int 0, .ref m_notedThing, .ref m_notedIs, .ref m_votes, .int 0, .int 0, .ref m_treeThen, .int 0, .int 0, .int 0, .ref m_imageTree, .ref m_pastThen, .ref m_notedThingThen, .ref m_notedIsThen, .ref m_statusThen])), (m_tree, .inl (y 0, 240, .inl (upd (upd (fun _ => 0) 0 3) 3 1))), (m_status, .inl (y 0, 3, .inl (fun _ => 0)))] sz) := by
  refine Met.ofW (cc := cX11_move) (maxL := 5) (ret := (some .int)) (by decide) rfl ?_
  intro p e s m args below meth c s₁ B hml hv
  obtain ⟨rfl, hsz, hP, hK, hD0⟩ := hv
  have hx := B.exec
  have hb := B.bytes
  have hr := B.returns
  have hts := atoms_spec (ws := wsX11_move) B.pre
  have hown : s.vm.findClass RX11 = some m.cls := findClass_of_methodNamed B.named
  have hlocks := B.notSynchronized
  subst hsz
  have hD := hD0.self (sz := s.heap.size)
  generalize hAe : va_A [(h0, .inr (11, [.int 0, .ref m_tree, .ref m_data, .ref m_made, .ref m_status, .int 0, .ref m_tape, .ref m_paths, .ref m_pathSize, .null, .int 0, .int 0, .int 0, .int 0, .int 0, .int 0, .int 0, .int 0, .int 0, .int 0, .int 0, .int (-1), .int 0, .ref m_set, .ref m_to, .int 0, .int 0, .int 0, .int 0, .int 0, .int 0, .ref m_lifted, .int 0, .int 0, .int 0, .ref m_order, .int 0, .ref m_past, .int 0, .ref m_rowKind, .ref m_rowSteps, .ref m_rowPath, .ref m_rowWas, .ref m_rowIs, .ref m_pool, .ref m_rowsMany, .ref m_poolMany, .ref m_way, .int 0, .ref m_out, .int 0, .int 0, .ref m_notedThing, .ref m_notedIs, .ref m_votes, .int 0, .int 0, .ref m_treeThen, .int 0, .int 0, .int 0, .ref m_imageTree, .ref m_pastThen, .ref m_notedThingThen, .ref m_notedIsThen, .ref m_statusThen])), (m_tree, .inl (y 0, 240, .inl (upd (upd (fun _ => 0) 0 3) 3 1))), (m_status, .inl (y 0, 3, .inl (fun _ => 0)))] s.heap.size = A at hD ⊢
  have hA : ∀ q : Nat, s.heap.size ≤ q → A q := fun q h => by rw [← hAe]; exact Or.inr h
  have hS : va_S A s.heap s.heap [] := va_S.rf
  have hP : va_P G vwCl [(h0, .inr (11, [.int 0, .ref m_tree, .ref m_data, .ref m_made, .ref m_status, .int 0, .ref m_tape, .ref m_paths, .ref m_pathSize, .null, .int 0, .int 0, .int 0, .int 0, .int 0, .int 0, .int 0, .int 0, .int 0, .int 0, .int 0, .int (-1), .int 0, .ref m_set, .ref m_to, .int 0, .int 0, .int 0, .int 0, .int 0, .int 0, .ref m_lifted, .int 0, .int 0, .int 0, .ref m_order, .int 0, .ref m_past, .int 0, .ref m_rowKind, .ref m_rowSteps, .ref m_rowPath, .ref m_rowWas, .ref m_rowIs, .ref m_pool, .ref m_rowsMany, .ref m_poolMany, .ref m_way, .int 0, .ref m_out, .int 0, .int 0, .ref m_notedThing, .ref m_notedIs, .ref m_votes, .int 0, .int 0, .ref m_treeThen, .int 0, .int 0, .int 0, .ref m_imageTree, .ref m_pastThen, .ref m_notedThingThen, .ref m_notedIsThen, .ref m_statusThen])), (m_tree, .inl (y 0, 240, .inl (upd (upd (fun _ => 0) 0 3) 3 1))), (m_status, .inl (y 0, 3, .inl (fun _ => 0)))] s.heap := hP
  have inX11 : ∀ w ∈ wsX110, w ∈ wsX11_move := by decide +kernel
  have hl := lv_entry ([.ref h0, .int i, .int j, .int k]) (n := 5) (Nat.le_of_ble_eq_true rfl)
  rw [lg_entry_eq]
  generalize (lg_sl ([.ref h0, .int i, .int j, .int k]) ++ List.replicate (5 - (lg_sl ([.ref h0, .int i, .int j, .int k])).length) Slot.unset).toArray = ls at hl ⊢
  have hl : lv_has ls 5 [(0, .ref h0), (1, .int i), (2, .int j), (3, .int k)] := hl
  refine lv_aload_n hx hb dX11_move_0 rfl (lv_at hl 0 rfl) ?_
  refine lv_iconst (v := 0) hx hb dX11_move_1 (by decide) ?_
  refine va_put (D := G) (ci := 11) (v := .int 0) (ty := .int) (C := RX11) (T := TX11) (N := 66) hx hb hts inX11 tyX11 tyX11_ok nmX11 hown hK.1 hP hD hS 0 rfl rfl 0 (by decide) (hts (.fieldLink RX11 111 "NestQueryModel" "code" "I") (by decide +kernel)) (fun _ h9 => h9) rfl (by decide +kernel) rfl rfl (Nat.le_of_ble_eq_true rfl) dX11_move_2 (fun H locs hP hD hS => ?_)
  have hP : va_P G vwCl [(h0, .inr (11, [.int 0, .ref m_tree, .ref m_data, .ref m_made, .ref m_status, .int 0, .ref m_tape, .ref m_paths, .ref m_pathSize, .null, .int 0, .int 0, .int 0, .int 0, .int 0, .int 0, .int 0, .int 0, .int 0, .int 0, .int 0, .int (-1), .int 0, .ref m_set, .ref m_to, .int 0, .int 0, .int 0, .int 0, .int 0, .int 0, .ref m_lifted, .int 0, .int 0, .int 0, .ref m_order, .int 0, .ref m_past, .int 0, .ref m_rowKind, .ref m_rowSteps, .ref m_rowPath, .ref m_rowWas, .ref m_rowIs, .ref m_pool, .ref m_rowsMany, .ref m_poolMany, .ref m_way, .int 0, .ref m_out, .int 0, .int 0, .ref m_notedThing, .ref m_notedIs, .ref m_votes, .int 0, .int 0, .ref m_treeThen, .int 0, .int 0, .int 0, .ref m_imageTree, .ref m_pastThen, .ref m_notedThingThen, .ref m_notedIsThen, .ref m_statusThen])), (m_tree, .inl (y 0, 240, .inl (upd (upd (fun _ => 0) 0 3) 3 1))), (m_status, .inl (y 0, 3, .inl (fun _ => 0)))] H := hP
  have hD : va_D A [(h0, .inr (11, [.int 0, .ref m_tree, .ref m_data, .ref m_made, .ref m_status, .int 0, .ref m_tape, .ref m_paths, .ref m_pathSize, .null, .int 0, .int 0, .int 0, .int 0, .int 0, .int 0, .int 0, .int 0, .int 0, .int 0, .int 0, .int (-1), .int 0, .ref m_set, .ref m_to, .int 0, .int 0, .int 0, .int 0, .int 0, .int 0, .ref m_lifted, .int 0, .int 0, .int 0, .ref m_order, .int 0, .ref m_past, .int 0, .ref m_rowKind, .ref m_rowSteps, .ref m_rowPath, .ref m_rowWas, .ref m_rowIs, .ref m_pool, .ref m_rowsMany, .ref m_poolMany, .ref m_way, .int 0, .ref m_out, .int 0, .int 0, .ref m_notedThing, .ref m_notedIs, .ref m_votes, .int 0, .int 0, .ref m_treeThen, .int 0, .int 0, .int 0, .ref m_imageTree, .ref m_pastThen, .ref m_notedThingThen, .ref m_notedIsThen, .ref m_statusThen])), (m_tree, .inl (y 0, 240, .inl (upd (upd (fun _ => 0) 0 3) 3 1))), (m_status, .inl (y 0, 3, .inl (fun _ => 0)))] := hD
  refine lv_aload_n hx hb dX11_move_5 rfl (lv_at hl 0 rfl) ?_
  refine lv_iload_n hx hb dX11_move_6 rfl (lv_at hl 1 rfl) ?_
  refine lv_iload_n hx hb dX11_move_7 rfl (lv_at hl 2 rfl) ?_
  refine lv_iload_n hx hb dX11_move_8 rfl (lv_at hl 3 rfl) ?_
  refine nq_rdi (va_runV (As := [.int i, .int j, .int k]) (rest := []) ⟨hx, hb, hml, hown, hts⟩ (c_m_moves l G y H.size h0 m_tree m_data m_made m_status m_tape m_paths m_pathSize m_set m_to m_lifted m_order m_past m_rowKind m_rowSteps m_rowPath m_rowWas m_rowIs m_pool m_rowsMany m_poolMany m_way m_out m_notedThing m_notedIs m_votes m_treeThen m_imageTree m_pastThen m_notedThingThen m_notedIsThen m_statusThen i j k ) (cwV 3 hts gX11_move_X11_moves rfl rfl rfl (by decide +kernel) ⟨Nat.le_of_ble_eq_true rfl, Nat.le_of_ble_eq_true rfl⟩) (nq_PV hK hP hD [0, 1] rfl rfl 0 rfl rfl) rfl rfl hl.1 rfl (lv_room (Nat.le_of_ble_eq_true rfl)) dX11_move_9 ⟨Nat.le_of_ble_eq_true rfl, Nat.le_of_ble_eq_true rfl⟩) hP hS hA (fun r_1 H locs hw_2 hP hS => ?_)
  subst hw_2
  refine lv_istore (lv' := [(4, .int (-1)), (0, .ref h0), (1, .int i), (2, .int j), (3, .int k)]) hx hb dX11_move_12 hl (by decide) rfl (fun ls hl => ?_)
  refine lv_iload hx hb dX11_move_14 (lv_at hl 0 rfl) ?_
  refine lv_iconst (v := (-1)) hx hb dX11_move_16 (by decide) ?_
  refine lv_icmp_ne (tgt := 28) hx hb dX11_move_17 (by decide) (fun c_3 => absurd c_3 (by decide)) (fun _ => ?_)
  refine lv_aload_n hx hb dX11_move_20 rfl (lv_at hl 1 rfl) ?_
  refine lv_iconst (v := 1) hx hb dX11_move_21 (by decide) ?_
  refine nq_wri (wr := [(m_tree, .inl (y 0, 240, .inl (upd (upd (fun _ => 0) 0 3) 3 1)))]) (va_runV (As := [.int 1]) (rest := []) ⟨hx, hb, hml, hown, hts⟩ (c_m_refuse1 l G y H.size h0 m_tree m_data m_made m_status m_tape m_paths m_pathSize m_set m_to m_lifted m_order m_past m_rowKind m_rowSteps m_rowPath m_rowWas m_rowIs m_pool m_rowsMany m_poolMany m_way m_out m_notedThing m_notedIs m_votes m_treeThen m_imageTree m_pastThen m_notedThingThen m_notedIsThen m_statusThen ) (cwV 1 hts gX11_move_X11_refuse rfl rfl rfl (by decide +kernel) ⟨Nat.le_of_ble_eq_true rfl, Nat.le_of_ble_eq_true rfl⟩) (nq_PV hK hP hD [0, 2] rfl rfl 0 rfl rfl) rfl rfl hl.1 rfl (lv_room (Nat.le_of_ble_eq_true rfl)) dX11_move_22 ⟨Nat.le_of_ble_eq_true rfl, Nat.le_of_ble_eq_true rfl⟩) hP hD hS hA [0, 2] [1] rfl rfl (by decide) (by decide) (fun r_6 u_4 H locs hw_5 hP hD hS => ?_)
  have hP : va_P G vwCl [(m_tree, .inl (y 0, 240, .inl (upd (upd (fun _ => 0) 0 3) 3 1))), (h0, .inr (11, [.int 0, .ref m_tree, .ref m_data, .ref m_made, .ref m_status, .int 0, .ref m_tape, .ref m_paths, .ref m_pathSize, .null, .int 0, .int 0, .int 0, .int 0, .int 0, .int 0, .int 0, .int 0, .int 0, .int 0, .int 0, .int (-1), .int 0, .ref m_set, .ref m_to, .int 0, .int 0, .int 0, .int 0, .int 0, .int 0, .ref m_lifted, .int 0, .int 0, .int 0, .ref m_order, .int 0, .ref m_past, .int 0, .ref m_rowKind, .ref m_rowSteps, .ref m_rowPath, .ref m_rowWas, .ref m_rowIs, .ref m_pool, .ref m_rowsMany, .ref m_poolMany, .ref m_way, .int 0, .ref m_out, .int 0, .int 0, .ref m_notedThing, .ref m_notedIs, .ref m_votes, .int 0, .int 0, .ref m_treeThen, .int 0, .int 0, .int 0, .ref m_imageTree, .ref m_pastThen, .ref m_notedThingThen, .ref m_notedIsThen, .ref m_statusThen]))] H := hP
  have hD : va_D A [(m_tree, .inl (y 0, 240, .inl (upd (upd (fun _ => 0) 0 3) 3 1))), (h0, .inr (11, [.int 0, .ref m_tree, .ref m_data, .ref m_made, .ref m_status, .int 0, .ref m_tape, .ref m_paths, .ref m_pathSize, .null, .int 0, .int 0, .int 0, .int 0, .int 0, .int 0, .int 0, .int 0, .int 0, .int 0, .int 0, .int (-1), .int 0, .ref m_set, .ref m_to, .int 0, .int 0, .int 0, .int 0, .int 0, .int 0, .ref m_lifted, .int 0, .int 0, .int 0, .ref m_order, .int 0, .ref m_past, .int 0, .ref m_rowKind, .ref m_rowSteps, .ref m_rowPath, .ref m_rowWas, .ref m_rowIs, .ref m_pool, .ref m_rowsMany, .ref m_poolMany, .ref m_way, .int 0, .ref m_out, .int 0, .int 0, .ref m_notedThing, .ref m_notedIs, .ref m_votes, .int 0, .int 0, .ref m_treeThen, .int 0, .int 0, .int 0, .ref m_imageTree, .ref m_pastThen, .ref m_notedThingThen, .ref m_notedIsThen, .ref m_statusThen]))] := hD
  subst hw_5
  refine lv_goto (tgt := 30) hx hb dX11_move_25 (by decide) ?_
  have hP9 := hP.sub (ws' := []) [] rfl
  have hD9 := hD.sub (ws' := []) [] (by decide) rfl
  refine W.widen (k := 0) (n := 0) (Nat.le_of_ble_eq_true rfl) (Nat.le_of_ble_eq_true rfl) ?_
  exact W.iret (v := (-1)) hx hb hr (fun t ht hW => ⟨⟨(-1), (), rfl, rfl, by rw [ht]; exact hP9, by first | exact hD9 | (rw [hAe]; exact hD9)⟩, hS.F ht⟩) hS.2.2 dX11_move_30

set_option maxHeartbeats 4000000 in
set_option maxRecDepth 100000 in
theorem c_m_apply (l : Launch) (G : va_G) (y : Nat → ClassId) (sz : Nat) (h0 : Nat) (m_tree : Nat) (m_data : Nat) (m_made : Nat) (m_status : Nat) (m_tape : Nat) (m_paths : Nat) (m_pathSize : Nat) (m_set : Nat) (m_to : Nat) (m_lifted : Nat) (m_order : Nat) (m_past : Nat) (m_rowKind : Nat) (m_rowSteps : Nat) (m_rowPath : Nat) (m_rowWas : Nat) (m_rowIs : Nat) (m_pool : Nat) (m_rowsMany : Nat) (m_poolMany : Nat) (m_way : Nat) (m_out : Nat) (m_notedThing : Nat) (m_notedIs : Nat) (m_votes : Nat) (m_treeThen : Nat) (m_imageTree : Nat) (m_pastThen : Nat) (m_notedThingThen : Nat) (m_notedIsThen : Nat) (m_statusThen : Nat) (b : Int32)  : Met l yX11_apply wsX11_apply ({ frames := 1, cells := 0, slots := 0, locals := 21 }) (nq_P G y sz [.ref h0, .int b] [(h0, .inr (11, [.int 0, .ref m_tree, .ref m_data, .ref m_made, .ref m_status, .int 0, .ref m_tape, .ref m_paths, .ref m_pathSize, .null, .int 0, .int 0, .int 0, .int 0, .int 0, .int 0, .int 0, .int 0, .int 0, .int 0, .int 0, .int (-1), .int 0, .ref m_set, .ref m_to, .int 0, .int 0, .int 0, .int 0, .int 0, .int 0, .ref m_lifted, .int 0, .int 0, .int 0, .ref m_order, .int 0, .ref m_past, .int 0, .ref m_rowKind, .ref m_rowSteps, .ref m_rowPath, .ref m_rowWas, .ref m_rowIs, .ref m_pool, .ref m_rowsMany, .ref m_poolMany, .ref m_way, .int 0, .ref m_out, .int 0, .int 0, .ref m_notedThing, .ref m_notedIs, .ref m_votes, .int 0, .int 0, .ref m_treeThen, .int 0, .int 0, .int 0, .ref m_imageTree, .ref m_pastThen, .ref m_notedThingThen, .ref m_notedIsThen, .ref m_statusThen])), (m_rowsMany, .inl (y 0, 2, .inl (fun _ => 0))), (m_status, .inl (y 0, 3, .inl (fun _ => 0)))]) (va_Qi (fun (r : Int32) (_ : Unit) => r = (-1)) (fun (u : Unit) t9 => va_P G vwCl ([]) t9.heap ∧ va_D (va_A [(h0, .inr (11, [.int 0, .ref m_tree, .ref m_data, .ref m_made, .ref m_status, .int 0, .ref m_tape, .ref m_paths, .ref m_pathSize, .null, .int 0, .int 0, .int 0, .int 0, .int 0, .int 0, .int 0, .int 0, .int 0, .int 0, .int 0, .int (-1), .int 0, .ref m_set, .ref m_to, .int 0, .int 0, .int 0, .int 0, .int 0, .int 0, .ref m_lifted, .int 0, .int 0, .int 0, .ref m_order, .int 0, .ref m_past, .int 0, .ref m_rowKind, .ref m_rowSteps, .ref m_rowPath, .ref m_rowWas, .ref m_rowIs, .ref m_pool, .ref m_rowsMany, .ref m_poolMany, .ref m_way, .int 0, .ref m_out, .int 0, .int 0, .ref m_notedThing, .ref m_notedIs, .ref m_votes, .int 0, .int 0, .ref m_treeThen, .int 0, .int 0, .int 0, .ref m_imageTree, .ref m_pastThen, .ref m_notedThingThen, .ref m_notedIsThen, .ref m_statusThen])), (m_rowsMany, .inl (y 0, 2, .inl (fun _ => 0))), (m_status, .inl (y 0, 3, .inl (fun _ => 0)))] sz) ([])) (va_A [(h0, .inr (11, [.int 0, .ref m_tree, .ref m_data, .ref m_made, .ref m_status, .int 0, .ref m_tape, .ref m_paths, .ref m_pathSize, .null, .int 0, .int 0, .int 0, .int 0, .int 0, .int 0, .int 0, .int 0, .int 0, .int 0, .int 0, .int (-1), .int 0, .ref m_set, .ref m_to, .int 0, .int 0, .int 0, .int 0, .int 0, .int 0, .ref m_lifted, .int 0, .int 0, .int 0, .ref m_order, .int 0, .ref m_past, .int 0, .ref m_rowKind, .ref m_rowSteps, .ref m_rowPath, .ref m_rowWas, .ref m_rowIs, .ref m_pool, .ref m_rowsMany, .ref m_poolMany, .ref m_way, .int 0, .ref m_out, .int 0, .int 0, .ref m_notedThing, .ref m_notedIs, .ref m_votes, .int 0, .int 0, .ref m_treeThen, .int 0, .int 0, .int 0, .ref m_imageTree, .ref m_pastThen, .ref m_notedThingThen, .ref m_notedIsThen, .ref m_statusThen])), (m_rowsMany, .inl (y 0, 2, .inl (fun _ => 0))), (m_status, .inl (y 0, 3, .inl (fun _ => 0)))] sz)) 0 0 (va_A [(h0, .inr (11, [.int 0, .ref m_tree, .ref m_data, .ref m_made, .ref m_status, .int 0, .ref m_tape, .ref m_paths, .ref m_pathSize, .null, .int 0, .int 0, .int 0, .int 0, .int 0, .int 0, .int 0, .int 0, .int 0, .int 0, .int 0, .int (-1), .int 0, .ref m_set, .ref m_to, .int 0, .int 0, .int 0, .int 0, .int 0, .int 0, .ref m_lifted, .int 0, .int 0, .int 0, .ref m_order, .int 0, .ref m_past, .int 0, .ref m_rowKind, .ref m_rowSteps, .ref m_rowPath, .ref m_rowWas, .ref m_rowIs, .ref m_pool, .ref m_rowsMany, .ref m_poolMany, .ref m_way, .int 0, .ref m_out, .int 0, .int 0, .ref m_notedThing, .ref m_notedIs, .ref m_votes, .int 0, .int 0, .ref m_treeThen, .int 0, .int 0, .int 0, .ref m_imageTree, .ref m_pastThen, .ref m_notedThingThen, .ref m_notedIsThen, .ref m_statusThen])), (m_rowsMany, .inl (y 0, 2, .inl (fun _ => 0))), (m_status, .inl (y 0, 3, .inl (fun _ => 0)))] sz) := by
  refine Met.ofW (cc := cX11_apply) (maxL := 5) (ret := (some .int)) (by decide) rfl ?_
  intro p e s m args below meth c s₁ B hml hv
  obtain ⟨rfl, hsz, hP, hK, hD0⟩ := hv
  have hx := B.exec
  have hb := B.bytes
  have hr := B.returns
  have hts := atoms_spec (ws := wsX11_apply) B.pre
  have hown : s.vm.findClass RX11 = some m.cls := findClass_of_methodNamed B.named
  have hlocks := B.notSynchronized
  subst hsz
  have hD := hD0.self (sz := s.heap.size)
  generalize hAe : va_A [(h0, .inr (11, [.int 0, .ref m_tree, .ref m_data, .ref m_made, .ref m_status, .int 0, .ref m_tape, .ref m_paths, .ref m_pathSize, .null, .int 0, .int 0, .int 0, .int 0, .int 0, .int 0, .int 0, .int 0, .int 0, .int 0, .int 0, .int (-1), .int 0, .ref m_set, .ref m_to, .int 0, .int 0, .int 0, .int 0, .int 0, .int 0, .ref m_lifted, .int 0, .int 0, .int 0, .ref m_order, .int 0, .ref m_past, .int 0, .ref m_rowKind, .ref m_rowSteps, .ref m_rowPath, .ref m_rowWas, .ref m_rowIs, .ref m_pool, .ref m_rowsMany, .ref m_poolMany, .ref m_way, .int 0, .ref m_out, .int 0, .int 0, .ref m_notedThing, .ref m_notedIs, .ref m_votes, .int 0, .int 0, .ref m_treeThen, .int 0, .int 0, .int 0, .ref m_imageTree, .ref m_pastThen, .ref m_notedThingThen, .ref m_notedIsThen, .ref m_statusThen])), (m_rowsMany, .inl (y 0, 2, .inl (fun _ => 0))), (m_status, .inl (y 0, 3, .inl (fun _ => 0)))] s.heap.size = A at hD ⊢
  have hA : ∀ q : Nat, s.heap.size ≤ q → A q := fun q h => by rw [← hAe]; exact Or.inr h
  have hS : va_S A s.heap s.heap [] := va_S.rf
  have hP : va_P G vwCl [(h0, .inr (11, [.int 0, .ref m_tree, .ref m_data, .ref m_made, .ref m_status, .int 0, .ref m_tape, .ref m_paths, .ref m_pathSize, .null, .int 0, .int 0, .int 0, .int 0, .int 0, .int 0, .int 0, .int 0, .int 0, .int 0, .int 0, .int (-1), .int 0, .ref m_set, .ref m_to, .int 0, .int 0, .int 0, .int 0, .int 0, .int 0, .ref m_lifted, .int 0, .int 0, .int 0, .ref m_order, .int 0, .ref m_past, .int 0, .ref m_rowKind, .ref m_rowSteps, .ref m_rowPath, .ref m_rowWas, .ref m_rowIs, .ref m_pool, .ref m_rowsMany, .ref m_poolMany, .ref m_way, .int 0, .ref m_out, .int 0, .int 0, .ref m_notedThing, .ref m_notedIs, .ref m_votes, .int 0, .int 0, .ref m_treeThen, .int 0, .int 0, .int 0, .ref m_imageTree, .ref m_pastThen, .ref m_notedThingThen, .ref m_notedIsThen, .ref m_statusThen])), (m_rowsMany, .inl (y 0, 2, .inl (fun _ => 0))), (m_status, .inl (y 0, 3, .inl (fun _ => 0)))] s.heap := hP
  have inX11 : ∀ w ∈ wsX110, w ∈ wsX11_apply := by decide +kernel
  have hl := lv_entry ([.ref h0, .int b]) (n := 5) (Nat.le_of_ble_eq_true rfl)
  rw [lg_entry_eq]
  generalize (lg_sl ([.ref h0, .int b]) ++ List.replicate (5 - (lg_sl ([.ref h0, .int b])).length) Slot.unset).toArray = ls at hl ⊢
  have hl : lv_has ls 5 [(0, .ref h0), (1, .int b)] := hl
  refine lv_aload_n hx hb dX11_apply_0 rfl (lv_at hl 0 rfl) ?_
  refine lv_iconst (v := 0) hx hb dX11_apply_1 (by decide) ?_
  refine va_put (D := G) (ci := 11) (v := .int 0) (ty := .int) (C := RX11) (T := TX11) (N := 66) hx hb hts inX11 tyX11 tyX11_ok nmX11 hown hK.1 hP hD hS 0 rfl rfl 0 (by decide) (hts (.fieldLink RX11 111 "NestQueryModel" "code" "I") (by decide +kernel)) (fun _ h9 => h9) rfl (by decide +kernel) rfl rfl (Nat.le_of_ble_eq_true rfl) dX11_apply_2 (fun H locs hP hD hS => ?_)
  have hP : va_P G vwCl [(h0, .inr (11, [.int 0, .ref m_tree, .ref m_data, .ref m_made, .ref m_status, .int 0, .ref m_tape, .ref m_paths, .ref m_pathSize, .null, .int 0, .int 0, .int 0, .int 0, .int 0, .int 0, .int 0, .int 0, .int 0, .int 0, .int 0, .int (-1), .int 0, .ref m_set, .ref m_to, .int 0, .int 0, .int 0, .int 0, .int 0, .int 0, .ref m_lifted, .int 0, .int 0, .int 0, .ref m_order, .int 0, .ref m_past, .int 0, .ref m_rowKind, .ref m_rowSteps, .ref m_rowPath, .ref m_rowWas, .ref m_rowIs, .ref m_pool, .ref m_rowsMany, .ref m_poolMany, .ref m_way, .int 0, .ref m_out, .int 0, .int 0, .ref m_notedThing, .ref m_notedIs, .ref m_votes, .int 0, .int 0, .ref m_treeThen, .int 0, .int 0, .int 0, .ref m_imageTree, .ref m_pastThen, .ref m_notedThingThen, .ref m_notedIsThen, .ref m_statusThen])), (m_rowsMany, .inl (y 0, 2, .inl (fun _ => 0))), (m_status, .inl (y 0, 3, .inl (fun _ => 0)))] H := hP
  have hD : va_D A [(h0, .inr (11, [.int 0, .ref m_tree, .ref m_data, .ref m_made, .ref m_status, .int 0, .ref m_tape, .ref m_paths, .ref m_pathSize, .null, .int 0, .int 0, .int 0, .int 0, .int 0, .int 0, .int 0, .int 0, .int 0, .int 0, .int 0, .int (-1), .int 0, .ref m_set, .ref m_to, .int 0, .int 0, .int 0, .int 0, .int 0, .int 0, .ref m_lifted, .int 0, .int 0, .int 0, .ref m_order, .int 0, .ref m_past, .int 0, .ref m_rowKind, .ref m_rowSteps, .ref m_rowPath, .ref m_rowWas, .ref m_rowIs, .ref m_pool, .ref m_rowsMany, .ref m_poolMany, .ref m_way, .int 0, .ref m_out, .int 0, .int 0, .ref m_notedThing, .ref m_notedIs, .ref m_votes, .int 0, .int 0, .ref m_treeThen, .int 0, .int 0, .int 0, .ref m_imageTree, .ref m_pastThen, .ref m_notedThingThen, .ref m_notedIsThen, .ref m_statusThen])), (m_rowsMany, .inl (y 0, 2, .inl (fun _ => 0))), (m_status, .inl (y 0, 3, .inl (fun _ => 0)))] := hD
  refine lv_aload_n hx hb dX11_apply_5 rfl (lv_at hl 0 rfl) ?_
  refine va_get (D := G) (ci := 11) (v := .ref m_rowsMany) (C := RX11) (T := TX11) (N := 66) hx hb hts inX11 hown hK.1 hP 0 rfl rfl 45 (by decide) (hts (.fieldLink RX11 69 "NestQueryModel" "rowsMany" "[I") (by decide +kernel)) (fun _ h9 => h9) rfl dX11_apply_6 ?_
  refine lv_iconst (v := 1) hx hb dX11_apply_9 (by decide) ?_
  refine va_iald hx hb hK.1 hP 1 0 rfl rfl (i := 1) (nq_in (by decide)) dX11_apply_10 ?_
  refine nq_top (z := 0) (rfl) ?_
  refine lv_istore_n (lv' := [(2, .int 0), (0, .ref h0), (1, .int b)]) hx hb dX11_apply_11 rfl hl (by decide) rfl (fun ls hl => ?_)
  refine lv_iload_n hx hb dX11_apply_12 rfl (lv_at hl 0 rfl) ?_
  refine lv_if_ne (tgt := 22) hx hb dX11_apply_13 (by decide) (fun c_1 => absurd c_1 (by decide)) (fun _ => ?_)
  refine lv_aload_n hx hb dX11_apply_16 rfl (lv_at hl 1 rfl) ?_
  refine lv_iconst (v := 1) hx hb dX11_apply_17 (by decide) ?_
  refine nq_wri (wr := [(m_rowsMany, .inl (y 0, 2, .inl (fun _ => 0)))]) (va_runV (As := [.int 1]) (rest := []) ⟨hx, hb, hml, hown, hts⟩ (c_m_refuse1 l G y H.size h0 m_tree m_data m_made m_status m_tape m_paths m_pathSize m_set m_to m_lifted m_order m_past m_rowKind m_rowSteps m_rowPath m_rowWas m_rowIs m_pool m_rowsMany m_poolMany m_way m_out m_notedThing m_notedIs m_votes m_treeThen m_imageTree m_pastThen m_notedThingThen m_notedIsThen m_statusThen ) (cwV 1 hts gX11_apply_X11_refuse rfl rfl rfl (by decide +kernel) ⟨Nat.le_of_ble_eq_true rfl, Nat.le_of_ble_eq_true rfl⟩) (nq_PV hK hP hD [0, 2] rfl rfl 0 rfl rfl) rfl rfl hl.1 rfl (lv_room (Nat.le_of_ble_eq_true rfl)) dX11_apply_18 ⟨Nat.le_of_ble_eq_true rfl, Nat.le_of_ble_eq_true rfl⟩) hP hD hS hA [0, 2] [1] rfl rfl (by decide) (by decide) (fun r_4 u_2 H locs hw_3 hP hD hS => ?_)
  have hP : va_P G vwCl [(m_rowsMany, .inl (y 0, 2, .inl (fun _ => 0))), (h0, .inr (11, [.int 0, .ref m_tree, .ref m_data, .ref m_made, .ref m_status, .int 0, .ref m_tape, .ref m_paths, .ref m_pathSize, .null, .int 0, .int 0, .int 0, .int 0, .int 0, .int 0, .int 0, .int 0, .int 0, .int 0, .int 0, .int (-1), .int 0, .ref m_set, .ref m_to, .int 0, .int 0, .int 0, .int 0, .int 0, .int 0, .ref m_lifted, .int 0, .int 0, .int 0, .ref m_order, .int 0, .ref m_past, .int 0, .ref m_rowKind, .ref m_rowSteps, .ref m_rowPath, .ref m_rowWas, .ref m_rowIs, .ref m_pool, .ref m_rowsMany, .ref m_poolMany, .ref m_way, .int 0, .ref m_out, .int 0, .int 0, .ref m_notedThing, .ref m_notedIs, .ref m_votes, .int 0, .int 0, .ref m_treeThen, .int 0, .int 0, .int 0, .ref m_imageTree, .ref m_pastThen, .ref m_notedThingThen, .ref m_notedIsThen, .ref m_statusThen]))] H := hP
  have hD : va_D A [(m_rowsMany, .inl (y 0, 2, .inl (fun _ => 0))), (h0, .inr (11, [.int 0, .ref m_tree, .ref m_data, .ref m_made, .ref m_status, .int 0, .ref m_tape, .ref m_paths, .ref m_pathSize, .null, .int 0, .int 0, .int 0, .int 0, .int 0, .int 0, .int 0, .int 0, .int 0, .int 0, .int 0, .int (-1), .int 0, .ref m_set, .ref m_to, .int 0, .int 0, .int 0, .int 0, .int 0, .int 0, .ref m_lifted, .int 0, .int 0, .int 0, .ref m_order, .int 0, .ref m_past, .int 0, .ref m_rowKind, .ref m_rowSteps, .ref m_rowPath, .ref m_rowWas, .ref m_rowIs, .ref m_pool, .ref m_rowsMany, .ref m_poolMany, .ref m_way, .int 0, .ref m_out, .int 0, .int 0, .ref m_notedThing, .ref m_notedIs, .ref m_votes, .int 0, .int 0, .ref m_treeThen, .int 0, .int 0, .int 0, .ref m_imageTree, .ref m_pastThen, .ref m_notedThingThen, .ref m_notedIsThen, .ref m_statusThen]))] := hD
  subst hw_3
  have hP9 := hP.sub (ws' := []) [] rfl
  have hD9 := hD.sub (ws' := []) [] (by decide) rfl
  refine W.widen (k := 0) (n := 0) (Nat.le_of_ble_eq_true rfl) (Nat.le_of_ble_eq_true rfl) ?_
  exact W.iret (v := (-1)) hx hb hr (fun t ht hW => ⟨⟨(-1), (), rfl, rfl, by rw [ht]; exact hP9, by first | exact hD9 | (rw [hAe]; exact hD9)⟩, hS.F ht⟩) hS.2.2 dX11_apply_21

set_option maxHeartbeats 4000000 in
set_option maxRecDepth 100000 in
theorem c_m_note (l : Launch) (G : va_G) (y : Nat → ClassId) (sz : Nat) (h0 : Nat) (m_tree : Nat) (m_data : Nat) (m_made : Nat) (m_status : Nat) (m_tape : Nat) (m_paths : Nat) (m_pathSize : Nat) (m_set : Nat) (m_to : Nat) (m_lifted : Nat) (m_order : Nat) (m_past : Nat) (m_rowKind : Nat) (m_rowSteps : Nat) (m_rowPath : Nat) (m_rowWas : Nat) (m_rowIs : Nat) (m_pool : Nat) (m_rowsMany : Nat) (m_poolMany : Nat) (m_way : Nat) (m_out : Nat) (m_notedThing : Nat) (m_notedIs : Nat) (m_votes : Nat) (m_treeThen : Nat) (m_imageTree : Nat) (m_pastThen : Nat) (m_notedThingThen : Nat) (m_notedIsThen : Nat) (m_statusThen : Nat) (i : Int32) (b : Int32)  : Met l yX11_note wsX11_note ({ frames := 2, cells := 0, slots := 0, locals := 43 }) (nq_P G y sz [.ref h0, .int i, .int b] [(h0, .inr (11, [.int 0, .ref m_tree, .ref m_data, .ref m_made, .ref m_status, .int 0, .ref m_tape, .ref m_paths, .ref m_pathSize, .null, .int 0, .int 0, .int 0, .int 0, .int 0, .int 0, .int 0, .int 0, .int 0, .int 0, .int 0, .int (-1), .int 0, .ref m_set, .ref m_to, .int 0, .int 0, .int 0, .int 0, .int 0, .int 0, .ref m_lifted, .int 0, .int 0, .int 0, .ref m_order, .int 0, .ref m_past, .int 0, .ref m_rowKind, .ref m_rowSteps, .ref m_rowPath, .ref m_rowWas, .ref m_rowIs, .ref m_pool, .ref m_rowsMany, .ref m_poolMany, .ref m_way, .int 0, .ref m_out, .int 0, .int 0, .ref m_notedThing, .ref m_notedIs, .ref m_votes, .int 0, .int 0, .ref m_treeThen, .int 0, .int 0, .int 0, .ref m_imageTree, .ref m_pastThen, .ref m_notedThingThen, .ref m_notedIsThen, .ref m_statusThen])), (m_tree, .inl (y 0, 240, .inl (upd (upd (fun _ => 0) 0 3) 3 1))), (m_status, .inl (y 0, 3, .inl (fun _ => 0))), (m_notedThing, .inl (y 0, 8, .inl (fun _ => 0))), (m_notedIs, .inl (y 0, 8, .inl (fun _ => 0)))]) (va_Qi (fun (r : Int32) (_ : Unit) => (i = 0 ∧ r = 1) ∨ (¬ i = 0 ∧ r = (-1))) (fun (u : Unit) t9 => va_P G vwCl ([]) t9.heap ∧ va_D (va_A [(h0, .inr (11, [.int 0, .ref m_tree, .ref m_data, .ref m_made, .ref m_status, .int 0, .ref m_tape, .ref m_paths, .ref m_pathSize, .null, .int 0, .int 0, .int 0, .int 0, .int 0, .int 0, .int 0, .int 0, .int 0, .int 0, .int 0, .int (-1), .int 0, .ref m_set, .ref m_to, .int 0, .int 0, .int 0, .int 0, .int 0, .int 0, .ref m_lifted, .int 0, .int 0, .int 0, .ref m_order, .int 0, .ref m_past, .int 0, .ref m_rowKind, .ref m_rowSteps, .ref m_rowPath, .ref m_rowWas, .ref m_rowIs, .ref m_pool, .ref m_rowsMany, .ref m_poolMany, .ref m_way, .int 0, .ref m_out, .int 0, .int 0, .ref m_notedThing, .ref m_notedIs, .ref m_votes, .int 0, .int 0, .ref m_treeThen, .int 0, .int 0, .int 0, .ref m_imageTree, .ref m_pastThen, .ref m_notedThingThen, .ref m_notedIsThen, .ref m_statusThen])), (m_tree, .inl (y 0, 240, .inl (upd (upd (fun _ => 0) 0 3) 3 1))), (m_status, .inl (y 0, 3, .inl (fun _ => 0))), (m_notedThing, .inl (y 0, 8, .inl (fun _ => 0))), (m_notedIs, .inl (y 0, 8, .inl (fun _ => 0)))] sz) ([])) (va_A [(h0, .inr (11, [.int 0, .ref m_tree, .ref m_data, .ref m_made, .ref m_status, .int 0, .ref m_tape, .ref m_paths, .ref m_pathSize, .null, .int 0, .int 0, .int 0, .int 0, .int 0, .int 0, .int 0, .int 0, .int 0, .int 0, .int 0, .int (-1), .int 0, .ref m_set, .ref m_to, .int 0, .int 0, .int 0, .int 0, .int 0, .int 0, .ref m_lifted, .int 0, .int 0, .int 0, .ref m_order, .int 0, .ref m_past, .int 0, .ref m_rowKind, .ref m_rowSteps, .ref m_rowPath, .ref m_rowWas, .ref m_rowIs, .ref m_pool, .ref m_rowsMany, .ref m_poolMany, .ref m_way, .int 0, .ref m_out, .int 0, .int 0, .ref m_notedThing, .ref m_notedIs, .ref m_votes, .int 0, .int 0, .ref m_treeThen, .int 0, .int 0, .int 0, .ref m_imageTree, .ref m_pastThen, .ref m_notedThingThen, .ref m_notedIsThen, .ref m_statusThen])), (m_tree, .inl (y 0, 240, .inl (upd (upd (fun _ => 0) 0 3) 3 1))), (m_status, .inl (y 0, 3, .inl (fun _ => 0))), (m_notedThing, .inl (y 0, 8, .inl (fun _ => 0))), (m_notedIs, .inl (y 0, 8, .inl (fun _ => 0)))] sz)) 0 0 (va_A [(h0, .inr (11, [.int 0, .ref m_tree, .ref m_data, .ref m_made, .ref m_status, .int 0, .ref m_tape, .ref m_paths, .ref m_pathSize, .null, .int 0, .int 0, .int 0, .int 0, .int 0, .int 0, .int 0, .int 0, .int 0, .int 0, .int 0, .int (-1), .int 0, .ref m_set, .ref m_to, .int 0, .int 0, .int 0, .int 0, .int 0, .int 0, .ref m_lifted, .int 0, .int 0, .int 0, .ref m_order, .int 0, .ref m_past, .int 0, .ref m_rowKind, .ref m_rowSteps, .ref m_rowPath, .ref m_rowWas, .ref m_rowIs, .ref m_pool, .ref m_rowsMany, .ref m_poolMany, .ref m_way, .int 0, .ref m_out, .int 0, .int 0, .ref m_notedThing, .ref m_notedIs, .ref m_votes, .int 0, .int 0, .ref m_treeThen, .int 0, .int 0, .int 0, .ref m_imageTree, .ref m_pastThen, .ref m_notedThingThen, .ref m_notedIsThen, .ref m_statusThen])), (m_tree, .inl (y 0, 240, .inl (upd (upd (fun _ => 0) 0 3) 3 1))), (m_status, .inl (y 0, 3, .inl (fun _ => 0))), (m_notedThing, .inl (y 0, 8, .inl (fun _ => 0))), (m_notedIs, .inl (y 0, 8, .inl (fun _ => 0)))] sz) := by
  refine Met.ofW (cc := cX11_note) (maxL := 3) (ret := (some .int)) (by decide) rfl ?_
  intro p e s m args below meth c s₁ B hml hv
  obtain ⟨rfl, hsz, hP, hK, hD0⟩ := hv
  have hx := B.exec
  have hb := B.bytes
  have hr := B.returns
  have hts := atoms_spec (ws := wsX11_note) B.pre
  have hown : s.vm.findClass RX11 = some m.cls := findClass_of_methodNamed B.named
  have hlocks := B.notSynchronized
  subst hsz
  have hD := hD0.self (sz := s.heap.size)
  generalize hAe : va_A [(h0, .inr (11, [.int 0, .ref m_tree, .ref m_data, .ref m_made, .ref m_status, .int 0, .ref m_tape, .ref m_paths, .ref m_pathSize, .null, .int 0, .int 0, .int 0, .int 0, .int 0, .int 0, .int 0, .int 0, .int 0, .int 0, .int 0, .int (-1), .int 0, .ref m_set, .ref m_to, .int 0, .int 0, .int 0, .int 0, .int 0, .int 0, .ref m_lifted, .int 0, .int 0, .int 0, .ref m_order, .int 0, .ref m_past, .int 0, .ref m_rowKind, .ref m_rowSteps, .ref m_rowPath, .ref m_rowWas, .ref m_rowIs, .ref m_pool, .ref m_rowsMany, .ref m_poolMany, .ref m_way, .int 0, .ref m_out, .int 0, .int 0, .ref m_notedThing, .ref m_notedIs, .ref m_votes, .int 0, .int 0, .ref m_treeThen, .int 0, .int 0, .int 0, .ref m_imageTree, .ref m_pastThen, .ref m_notedThingThen, .ref m_notedIsThen, .ref m_statusThen])), (m_tree, .inl (y 0, 240, .inl (upd (upd (fun _ => 0) 0 3) 3 1))), (m_status, .inl (y 0, 3, .inl (fun _ => 0))), (m_notedThing, .inl (y 0, 8, .inl (fun _ => 0))), (m_notedIs, .inl (y 0, 8, .inl (fun _ => 0)))] s.heap.size = A at hD ⊢
  have hA : ∀ q : Nat, s.heap.size ≤ q → A q := fun q h => by rw [← hAe]; exact Or.inr h
  have hS : va_S A s.heap s.heap [] := va_S.rf
  have hP : va_P G vwCl [(h0, .inr (11, [.int 0, .ref m_tree, .ref m_data, .ref m_made, .ref m_status, .int 0, .ref m_tape, .ref m_paths, .ref m_pathSize, .null, .int 0, .int 0, .int 0, .int 0, .int 0, .int 0, .int 0, .int 0, .int 0, .int 0, .int 0, .int (-1), .int 0, .ref m_set, .ref m_to, .int 0, .int 0, .int 0, .int 0, .int 0, .int 0, .ref m_lifted, .int 0, .int 0, .int 0, .ref m_order, .int 0, .ref m_past, .int 0, .ref m_rowKind, .ref m_rowSteps, .ref m_rowPath, .ref m_rowWas, .ref m_rowIs, .ref m_pool, .ref m_rowsMany, .ref m_poolMany, .ref m_way, .int 0, .ref m_out, .int 0, .int 0, .ref m_notedThing, .ref m_notedIs, .ref m_votes, .int 0, .int 0, .ref m_treeThen, .int 0, .int 0, .int 0, .ref m_imageTree, .ref m_pastThen, .ref m_notedThingThen, .ref m_notedIsThen, .ref m_statusThen])), (m_tree, .inl (y 0, 240, .inl (upd (upd (fun _ => 0) 0 3) 3 1))), (m_status, .inl (y 0, 3, .inl (fun _ => 0))), (m_notedThing, .inl (y 0, 8, .inl (fun _ => 0))), (m_notedIs, .inl (y 0, 8, .inl (fun _ => 0)))] s.heap := hP
  have inX11 : ∀ w ∈ wsX110, w ∈ wsX11_note := by decide +kernel
  have hl := lv_entry ([.ref h0, .int i, .int b]) (n := 3) (Nat.le_of_ble_eq_true rfl)
  rw [lg_entry_eq]
  generalize (lg_sl ([.ref h0, .int i, .int b]) ++ List.replicate (3 - (lg_sl ([.ref h0, .int i, .int b])).length) Slot.unset).toArray = ls at hl ⊢
  have hl : lv_has ls 3 [(0, .ref h0), (1, .int i), (2, .int b)] := hl
  refine lv_aload_n hx hb dX11_note_0 rfl (lv_at hl 0 rfl) ?_
  refine lv_iconst (v := 0) hx hb dX11_note_1 (by decide) ?_
  refine va_put (D := G) (ci := 11) (v := .int 0) (ty := .int) (C := RX11) (T := TX11) (N := 66) hx hb hts inX11 tyX11 tyX11_ok nmX11 hown hK.1 hP hD hS 0 rfl rfl 0 (by decide) (hts (.fieldLink RX11 111 "NestQueryModel" "code" "I") (by decide +kernel)) (fun _ h9 => h9) rfl (by decide +kernel) rfl rfl (Nat.le_of_ble_eq_true rfl) dX11_note_2 (fun H locs hP hD hS => ?_)
  have hP : va_P G vwCl [(h0, .inr (11, [.int 0, .ref m_tree, .ref m_data, .ref m_made, .ref m_status, .int 0, .ref m_tape, .ref m_paths, .ref m_pathSize, .null, .int 0, .int 0, .int 0, .int 0, .int 0, .int 0, .int 0, .int 0, .int 0, .int 0, .int 0, .int (-1), .int 0, .ref m_set, .ref m_to, .int 0, .int 0, .int 0, .int 0, .int 0, .int 0, .ref m_lifted, .int 0, .int 0, .int 0, .ref m_order, .int 0, .ref m_past, .int 0, .ref m_rowKind, .ref m_rowSteps, .ref m_rowPath, .ref m_rowWas, .ref m_rowIs, .ref m_pool, .ref m_rowsMany, .ref m_poolMany, .ref m_way, .int 0, .ref m_out, .int 0, .int 0, .ref m_notedThing, .ref m_notedIs, .ref m_votes, .int 0, .int 0, .ref m_treeThen, .int 0, .int 0, .int 0, .ref m_imageTree, .ref m_pastThen, .ref m_notedThingThen, .ref m_notedIsThen, .ref m_statusThen])), (m_tree, .inl (y 0, 240, .inl (upd (upd (fun _ => 0) 0 3) 3 1))), (m_status, .inl (y 0, 3, .inl (fun _ => 0))), (m_notedThing, .inl (y 0, 8, .inl (fun _ => 0))), (m_notedIs, .inl (y 0, 8, .inl (fun _ => 0)))] H := hP
  have hD : va_D A [(h0, .inr (11, [.int 0, .ref m_tree, .ref m_data, .ref m_made, .ref m_status, .int 0, .ref m_tape, .ref m_paths, .ref m_pathSize, .null, .int 0, .int 0, .int 0, .int 0, .int 0, .int 0, .int 0, .int 0, .int 0, .int 0, .int 0, .int (-1), .int 0, .ref m_set, .ref m_to, .int 0, .int 0, .int 0, .int 0, .int 0, .int 0, .ref m_lifted, .int 0, .int 0, .int 0, .ref m_order, .int 0, .ref m_past, .int 0, .ref m_rowKind, .ref m_rowSteps, .ref m_rowPath, .ref m_rowWas, .ref m_rowIs, .ref m_pool, .ref m_rowsMany, .ref m_poolMany, .ref m_way, .int 0, .ref m_out, .int 0, .int 0, .ref m_notedThing, .ref m_notedIs, .ref m_votes, .int 0, .int 0, .ref m_treeThen, .int 0, .int 0, .int 0, .ref m_imageTree, .ref m_pastThen, .ref m_notedThingThen, .ref m_notedIsThen, .ref m_statusThen])), (m_tree, .inl (y 0, 240, .inl (upd (upd (fun _ => 0) 0 3) 3 1))), (m_status, .inl (y 0, 3, .inl (fun _ => 0))), (m_notedThing, .inl (y 0, 8, .inl (fun _ => 0))), (m_notedIs, .inl (y 0, 8, .inl (fun _ => 0)))] := hD
  refine lv_aload_n hx hb dX11_note_5 rfl (lv_at hl 0 rfl) ?_
  refine va_get (D := G) (ci := 11) (v := .int 0) (C := RX11) (T := TX11) (N := 66) hx hb hts inX11 hown hK.1 hP 0 rfl rfl 51 (by decide) (hts (.fieldLink RX11 235 "NestQueryModel" "noted" "I") (by decide +kernel)) (fun _ h9 => h9) rfl dX11_note_6 ?_
  refine lv_bipush (v := 8) hx hb dX11_note_9 (by decide) ?_
  refine lv_icmp_eq (tgt := 22) hx hb dX11_note_11 (by decide) (fun c_1 => absurd c_1 (by decide)) (fun _ => ?_)
  refine lv_aload_n hx hb dX11_note_14 rfl (lv_at hl 0 rfl) ?_
  refine lv_iload_n hx hb dX11_note_15 rfl (lv_at hl 1 rfl) ?_
  refine nq_rdi (va_runV (As := [.int i]) (rest := []) ⟨hx, hb, hml, hown, hts⟩ (c_m_isThing l G y H.size h0 m_tree m_data m_made m_status m_tape m_paths m_pathSize m_set m_to m_lifted m_order m_past m_rowKind m_rowSteps m_rowPath m_rowWas m_rowIs m_pool m_rowsMany m_poolMany m_way m_out m_notedThing m_notedIs m_votes m_treeThen m_imageTree m_pastThen m_notedThingThen m_notedIsThen m_statusThen i ) (cwV 1 hts gX11_note_X11_isThing rfl rfl rfl (by decide +kernel) ⟨Nat.le_of_ble_eq_true rfl, Nat.le_of_ble_eq_true rfl⟩) (nq_PV hK hP hD [0, 1] rfl rfl 0 rfl rfl) rfl rfl hl.1 rfl (lv_room (Nat.le_of_ble_eq_true rfl)) dX11_note_16 ⟨Nat.le_of_ble_eq_true rfl, Nat.le_of_ble_eq_true rfl⟩) hP hS hA (fun r_2 H locs hw_3 hP hS => ?_)
  rcases hw_3 with ⟨c_4, hr_5⟩ | ⟨c_6, hr_7⟩
  · subst c_4
    subst hr_5
    refine lv_if_ne (tgt := 28) hx hb dX11_note_19 (by decide) (fun _ => ?_) (fun c_8 => absurd c_8 (by decide))
    refine lv_aload_n hx hb dX11_note_28 rfl (lv_at hl 0 rfl) ?_
    refine va_get (D := G) (ci := 11) (v := .ref m_notedThing) (C := RX11) (T := TX11) (N := 66) hx hb hts inX11 hown hK.1 hP 0 rfl rfl 52 (by decide) (hts (.fieldLink RX11 81 "NestQueryModel" "notedThing" "[I") (by decide +kernel)) (fun _ h9 => h9) rfl dX11_note_29 ?_
    refine lv_aload_n hx hb dX11_note_32 rfl (lv_at hl 0 rfl) ?_
    refine va_get (D := G) (ci := 11) (v := .int 0) (C := RX11) (T := TX11) (N := 66) hx hb hts inX11 hown hK.1 hP 0 rfl rfl 51 (by decide) (hts (.fieldLink RX11 235 "NestQueryModel" "noted" "I") (by decide +kernel)) (fun _ h9 => h9) rfl dX11_note_33 ?_
    refine lv_iload_n hx hb dX11_note_36 rfl (lv_at hl 1 rfl) ?_
    refine va_iast hx hb hK.1 hP hD hS 3 0 rfl rfl (i := 0) (nq_in (by decide)) dX11_note_37 (fun H locs hP hD hS => ?_)
    have hP : va_P G vwCl [(h0, .inr (11, [.int 0, .ref m_tree, .ref m_data, .ref m_made, .ref m_status, .int 0, .ref m_tape, .ref m_paths, .ref m_pathSize, .null, .int 0, .int 0, .int 0, .int 0, .int 0, .int 0, .int 0, .int 0, .int 0, .int 0, .int 0, .int (-1), .int 0, .ref m_set, .ref m_to, .int 0, .int 0, .int 0, .int 0, .int 0, .int 0, .ref m_lifted, .int 0, .int 0, .int 0, .ref m_order, .int 0, .ref m_past, .int 0, .ref m_rowKind, .ref m_rowSteps, .ref m_rowPath, .ref m_rowWas, .ref m_rowIs, .ref m_pool, .ref m_rowsMany, .ref m_poolMany, .ref m_way, .int 0, .ref m_out, .int 0, .int 0, .ref m_notedThing, .ref m_notedIs, .ref m_votes, .int 0, .int 0, .ref m_treeThen, .int 0, .int 0, .int 0, .ref m_imageTree, .ref m_pastThen, .ref m_notedThingThen, .ref m_notedIsThen, .ref m_statusThen])), (m_tree, .inl (y 0, 240, .inl (upd (upd (fun _ => 0) 0 3) 3 1))), (m_status, .inl (y 0, 3, .inl (fun _ => 0))), (m_notedThing, .inl (y 0, 8, .inl (upd (fun _ => 0) 0 0))), (m_notedIs, .inl (y 0, 8, .inl (fun _ => 0)))] H := hP
    have hD : va_D A [(h0, .inr (11, [.int 0, .ref m_tree, .ref m_data, .ref m_made, .ref m_status, .int 0, .ref m_tape, .ref m_paths, .ref m_pathSize, .null, .int 0, .int 0, .int 0, .int 0, .int 0, .int 0, .int 0, .int 0, .int 0, .int 0, .int 0, .int (-1), .int 0, .ref m_set, .ref m_to, .int 0, .int 0, .int 0, .int 0, .int 0, .int 0, .ref m_lifted, .int 0, .int 0, .int 0, .ref m_order, .int 0, .ref m_past, .int 0, .ref m_rowKind, .ref m_rowSteps, .ref m_rowPath, .ref m_rowWas, .ref m_rowIs, .ref m_pool, .ref m_rowsMany, .ref m_poolMany, .ref m_way, .int 0, .ref m_out, .int 0, .int 0, .ref m_notedThing, .ref m_notedIs, .ref m_votes, .int 0, .int 0, .ref m_treeThen, .int 0, .int 0, .int 0, .ref m_imageTree, .ref m_pastThen, .ref m_notedThingThen, .ref m_notedIsThen, .ref m_statusThen])), (m_tree, .inl (y 0, 240, .inl (upd (upd (fun _ => 0) 0 3) 3 1))), (m_status, .inl (y 0, 3, .inl (fun _ => 0))), (m_notedThing, .inl (y 0, 8, .inl (upd (fun _ => 0) 0 0))), (m_notedIs, .inl (y 0, 8, .inl (fun _ => 0)))] := hD
    refine lv_aload_n hx hb dX11_note_38 rfl (lv_at hl 0 rfl) ?_
    refine va_get (D := G) (ci := 11) (v := .ref m_notedIs) (C := RX11) (T := TX11) (N := 66) hx hb hts inX11 hown hK.1 hP 0 rfl rfl 53 (by decide) (hts (.fieldLink RX11 84 "NestQueryModel" "notedIs" "[I") (by decide +kernel)) (fun _ h9 => h9) rfl dX11_note_39 ?_
    refine lv_aload_n hx hb dX11_note_42 rfl (lv_at hl 0 rfl) ?_
    refine va_get (D := G) (ci := 11) (v := .int 0) (C := RX11) (T := TX11) (N := 66) hx hb hts inX11 hown hK.1 hP 0 rfl rfl 51 (by decide) (hts (.fieldLink RX11 235 "NestQueryModel" "noted" "I") (by decide +kernel)) (fun _ h9 => h9) rfl dX11_note_43 ?_
    refine lv_iload_n hx hb dX11_note_46 rfl (lv_at hl 2 rfl) ?_
    refine lv_if_eq (tgt := 54) hx hb dX11_note_47 (by decide) (fun c_9 => ?_) (fun c_9 => ?_)
    · subst c_9
      refine lv_iconst (v := 0) hx hb dX11_note_54 (by decide) ?_
      refine va_iast hx hb hK.1 hP hD hS 4 0 rfl rfl (i := 0) (nq_in (by decide)) dX11_note_55 (fun H locs hP hD hS => ?_)
      have hP : va_P G vwCl [(h0, .inr (11, [.int 0, .ref m_tree, .ref m_data, .ref m_made, .ref m_status, .int 0, .ref m_tape, .ref m_paths, .ref m_pathSize, .null, .int 0, .int 0, .int 0, .int 0, .int 0, .int 0, .int 0, .int 0, .int 0, .int 0, .int 0, .int (-1), .int 0, .ref m_set, .ref m_to, .int 0, .int 0, .int 0, .int 0, .int 0, .int 0, .ref m_lifted, .int 0, .int 0, .int 0, .ref m_order, .int 0, .ref m_past, .int 0, .ref m_rowKind, .ref m_rowSteps, .ref m_rowPath, .ref m_rowWas, .ref m_rowIs, .ref m_pool, .ref m_rowsMany, .ref m_poolMany, .ref m_way, .int 0, .ref m_out, .int 0, .int 0, .ref m_notedThing, .ref m_notedIs, .ref m_votes, .int 0, .int 0, .ref m_treeThen, .int 0, .int 0, .int 0, .ref m_imageTree, .ref m_pastThen, .ref m_notedThingThen, .ref m_notedIsThen, .ref m_statusThen])), (m_tree, .inl (y 0, 240, .inl (upd (upd (fun _ => 0) 0 3) 3 1))), (m_status, .inl (y 0, 3, .inl (fun _ => 0))), (m_notedThing, .inl (y 0, 8, .inl (upd (fun _ => 0) 0 0))), (m_notedIs, .inl (y 0, 8, .inl (upd (fun _ => 0) 0 0)))] H := hP
      have hD : va_D A [(h0, .inr (11, [.int 0, .ref m_tree, .ref m_data, .ref m_made, .ref m_status, .int 0, .ref m_tape, .ref m_paths, .ref m_pathSize, .null, .int 0, .int 0, .int 0, .int 0, .int 0, .int 0, .int 0, .int 0, .int 0, .int 0, .int 0, .int (-1), .int 0, .ref m_set, .ref m_to, .int 0, .int 0, .int 0, .int 0, .int 0, .int 0, .ref m_lifted, .int 0, .int 0, .int 0, .ref m_order, .int 0, .ref m_past, .int 0, .ref m_rowKind, .ref m_rowSteps, .ref m_rowPath, .ref m_rowWas, .ref m_rowIs, .ref m_pool, .ref m_rowsMany, .ref m_poolMany, .ref m_way, .int 0, .ref m_out, .int 0, .int 0, .ref m_notedThing, .ref m_notedIs, .ref m_votes, .int 0, .int 0, .ref m_treeThen, .int 0, .int 0, .int 0, .ref m_imageTree, .ref m_pastThen, .ref m_notedThingThen, .ref m_notedIsThen, .ref m_statusThen])), (m_tree, .inl (y 0, 240, .inl (upd (upd (fun _ => 0) 0 3) 3 1))), (m_status, .inl (y 0, 3, .inl (fun _ => 0))), (m_notedThing, .inl (y 0, 8, .inl (upd (fun _ => 0) 0 0))), (m_notedIs, .inl (y 0, 8, .inl (upd (fun _ => 0) 0 0)))] := hD
      refine lv_aload_n hx hb dX11_note_56 rfl (lv_at hl 0 rfl) ?_
      refine lv_dup hx hb dX11_note_57 rfl ?_
      refine va_get (D := G) (ci := 11) (v := .int 0) (C := RX11) (T := TX11) (N := 66) hx hb hts inX11 hown hK.1 hP 0 rfl rfl 51 (by decide) (hts (.fieldLink RX11 235 "NestQueryModel" "noted" "I") (by decide +kernel)) (fun _ h9 => h9) rfl dX11_note_58 ?_
      refine lv_iconst (v := 1) hx hb dX11_note_61 (by decide) ?_
      refine lv_iadd hx hb dX11_note_62 ?_
      refine nq_top (z := 1) (by decide) ?_
      refine va_put (D := G) (ci := 11) (v := .int 1) (ty := .int) (C := RX11) (T := TX11) (N := 66) hx hb hts inX11 tyX11 tyX11_ok nmX11 hown hK.1 hP hD hS 0 rfl rfl 51 (by decide) (hts (.fieldLink RX11 235 "NestQueryModel" "noted" "I") (by decide +kernel)) (fun _ h9 => h9) rfl (by decide +kernel) rfl rfl (Nat.le_of_ble_eq_true rfl) dX11_note_63 (fun H locs hP hD hS => ?_)
      have hP : va_P G vwCl [(h0, .inr (11, [.int 0, .ref m_tree, .ref m_data, .ref m_made, .ref m_status, .int 0, .ref m_tape, .ref m_paths, .ref m_pathSize, .null, .int 0, .int 0, .int 0, .int 0, .int 0, .int 0, .int 0, .int 0, .int 0, .int 0, .int 0, .int (-1), .int 0, .ref m_set, .ref m_to, .int 0, .int 0, .int 0, .int 0, .int 0, .int 0, .ref m_lifted, .int 0, .int 0, .int 0, .ref m_order, .int 0, .ref m_past, .int 0, .ref m_rowKind, .ref m_rowSteps, .ref m_rowPath, .ref m_rowWas, .ref m_rowIs, .ref m_pool, .ref m_rowsMany, .ref m_poolMany, .ref m_way, .int 0, .ref m_out, .int 0, .int 1, .ref m_notedThing, .ref m_notedIs, .ref m_votes, .int 0, .int 0, .ref m_treeThen, .int 0, .int 0, .int 0, .ref m_imageTree, .ref m_pastThen, .ref m_notedThingThen, .ref m_notedIsThen, .ref m_statusThen])), (m_tree, .inl (y 0, 240, .inl (upd (upd (fun _ => 0) 0 3) 3 1))), (m_status, .inl (y 0, 3, .inl (fun _ => 0))), (m_notedThing, .inl (y 0, 8, .inl (upd (fun _ => 0) 0 0))), (m_notedIs, .inl (y 0, 8, .inl (upd (fun _ => 0) 0 0)))] H := hP
      have hD : va_D A [(h0, .inr (11, [.int 0, .ref m_tree, .ref m_data, .ref m_made, .ref m_status, .int 0, .ref m_tape, .ref m_paths, .ref m_pathSize, .null, .int 0, .int 0, .int 0, .int 0, .int 0, .int 0, .int 0, .int 0, .int 0, .int 0, .int 0, .int (-1), .int 0, .ref m_set, .ref m_to, .int 0, .int 0, .int 0, .int 0, .int 0, .int 0, .ref m_lifted, .int 0, .int 0, .int 0, .ref m_order, .int 0, .ref m_past, .int 0, .ref m_rowKind, .ref m_rowSteps, .ref m_rowPath, .ref m_rowWas, .ref m_rowIs, .ref m_pool, .ref m_rowsMany, .ref m_poolMany, .ref m_way, .int 0, .ref m_out, .int 0, .int 1, .ref m_notedThing, .ref m_notedIs, .ref m_votes, .int 0, .int 0, .ref m_treeThen, .int 0, .int 0, .int 0, .ref m_imageTree, .ref m_pastThen, .ref m_notedThingThen, .ref m_notedIsThen, .ref m_statusThen])), (m_tree, .inl (y 0, 240, .inl (upd (upd (fun _ => 0) 0 3) 3 1))), (m_status, .inl (y 0, 3, .inl (fun _ => 0))), (m_notedThing, .inl (y 0, 8, .inl (upd (fun _ => 0) 0 0))), (m_notedIs, .inl (y 0, 8, .inl (upd (fun _ => 0) 0 0)))] := hD
      refine lv_aload_n hx hb dX11_note_66 rfl (lv_at hl 0 rfl) ?_
      refine va_get (D := G) (ci := 11) (v := .int 1) (C := RX11) (T := TX11) (N := 66) hx hb hts inX11 hown hK.1 hP 0 rfl rfl 51 (by decide) (hts (.fieldLink RX11 235 "NestQueryModel" "noted" "I") (by decide +kernel)) (fun _ h9 => h9) rfl dX11_note_67 ?_
      have hP9 := hP.sub (ws' := []) [] rfl
      have hD9 := hD.sub (ws' := []) [] (by decide) rfl
      refine W.widen (k := 0) (n := 0) (Nat.le_of_ble_eq_true rfl) (Nat.le_of_ble_eq_true rfl) ?_
      exact W.iret (v := 1) hx hb hr (fun t ht hW => ⟨⟨1, (), rfl, Or.inl (⟨by decide, rfl⟩), by rw [ht]; exact hP9, by first | exact hD9 | (rw [hAe]; exact hD9)⟩, hS.F ht⟩) hS.2.2 dX11_note_70
    · refine lv_iconst (v := 1) hx hb dX11_note_50 (by decide) ?_
      refine lv_goto (tgt := 55) hx hb dX11_note_51 (by decide) ?_
      refine va_iast hx hb hK.1 hP hD hS 4 0 rfl rfl (i := 0) (nq_in (by decide)) dX11_note_55 (fun H locs hP hD hS => ?_)
      have hP : va_P G vwCl [(h0, .inr (11, [.int 0, .ref m_tree, .ref m_data, .ref m_made, .ref m_status, .int 0, .ref m_tape, .ref m_paths, .ref m_pathSize, .null, .int 0, .int 0, .int 0, .int 0, .int 0, .int 0, .int 0, .int 0, .int 0, .int 0, .int 0, .int (-1), .int 0, .ref m_set, .ref m_to, .int 0, .int 0, .int 0, .int 0, .int 0, .int 0, .ref m_lifted, .int 0, .int 0, .int 0, .ref m_order, .int 0, .ref m_past, .int 0, .ref m_rowKind, .ref m_rowSteps, .ref m_rowPath, .ref m_rowWas, .ref m_rowIs, .ref m_pool, .ref m_rowsMany, .ref m_poolMany, .ref m_way, .int 0, .ref m_out, .int 0, .int 0, .ref m_notedThing, .ref m_notedIs, .ref m_votes, .int 0, .int 0, .ref m_treeThen, .int 0, .int 0, .int 0, .ref m_imageTree, .ref m_pastThen, .ref m_notedThingThen, .ref m_notedIsThen, .ref m_statusThen])), (m_tree, .inl (y 0, 240, .inl (upd (upd (fun _ => 0) 0 3) 3 1))), (m_status, .inl (y 0, 3, .inl (fun _ => 0))), (m_notedThing, .inl (y 0, 8, .inl (upd (fun _ => 0) 0 0))), (m_notedIs, .inl (y 0, 8, .inl (upd (fun _ => 0) 0 1)))] H := hP
      have hD : va_D A [(h0, .inr (11, [.int 0, .ref m_tree, .ref m_data, .ref m_made, .ref m_status, .int 0, .ref m_tape, .ref m_paths, .ref m_pathSize, .null, .int 0, .int 0, .int 0, .int 0, .int 0, .int 0, .int 0, .int 0, .int 0, .int 0, .int 0, .int (-1), .int 0, .ref m_set, .ref m_to, .int 0, .int 0, .int 0, .int 0, .int 0, .int 0, .ref m_lifted, .int 0, .int 0, .int 0, .ref m_order, .int 0, .ref m_past, .int 0, .ref m_rowKind, .ref m_rowSteps, .ref m_rowPath, .ref m_rowWas, .ref m_rowIs, .ref m_pool, .ref m_rowsMany, .ref m_poolMany, .ref m_way, .int 0, .ref m_out, .int 0, .int 0, .ref m_notedThing, .ref m_notedIs, .ref m_votes, .int 0, .int 0, .ref m_treeThen, .int 0, .int 0, .int 0, .ref m_imageTree, .ref m_pastThen, .ref m_notedThingThen, .ref m_notedIsThen, .ref m_statusThen])), (m_tree, .inl (y 0, 240, .inl (upd (upd (fun _ => 0) 0 3) 3 1))), (m_status, .inl (y 0, 3, .inl (fun _ => 0))), (m_notedThing, .inl (y 0, 8, .inl (upd (fun _ => 0) 0 0))), (m_notedIs, .inl (y 0, 8, .inl (upd (fun _ => 0) 0 1)))] := hD
      refine lv_aload_n hx hb dX11_note_56 rfl (lv_at hl 0 rfl) ?_
      refine lv_dup hx hb dX11_note_57 rfl ?_
      refine va_get (D := G) (ci := 11) (v := .int 0) (C := RX11) (T := TX11) (N := 66) hx hb hts inX11 hown hK.1 hP 0 rfl rfl 51 (by decide) (hts (.fieldLink RX11 235 "NestQueryModel" "noted" "I") (by decide +kernel)) (fun _ h9 => h9) rfl dX11_note_58 ?_
      refine lv_iconst (v := 1) hx hb dX11_note_61 (by decide) ?_
      refine lv_iadd hx hb dX11_note_62 ?_
      refine nq_top (z := 1) (by decide) ?_
      refine va_put (D := G) (ci := 11) (v := .int 1) (ty := .int) (C := RX11) (T := TX11) (N := 66) hx hb hts inX11 tyX11 tyX11_ok nmX11 hown hK.1 hP hD hS 0 rfl rfl 51 (by decide) (hts (.fieldLink RX11 235 "NestQueryModel" "noted" "I") (by decide +kernel)) (fun _ h9 => h9) rfl (by decide +kernel) rfl rfl (Nat.le_of_ble_eq_true rfl) dX11_note_63 (fun H locs hP hD hS => ?_)
      have hP : va_P G vwCl [(h0, .inr (11, [.int 0, .ref m_tree, .ref m_data, .ref m_made, .ref m_status, .int 0, .ref m_tape, .ref m_paths, .ref m_pathSize, .null, .int 0, .int 0, .int 0, .int 0, .int 0, .int 0, .int 0, .int 0, .int 0, .int 0, .int 0, .int (-1), .int 0, .ref m_set, .ref m_to, .int 0, .int 0, .int 0, .int 0, .int 0, .int 0, .ref m_lifted, .int 0, .int 0, .int 0, .ref m_order, .int 0, .ref m_past, .int 0, .ref m_rowKind, .ref m_rowSteps, .ref m_rowPath, .ref m_rowWas, .ref m_rowIs, .ref m_pool, .ref m_rowsMany, .ref m_poolMany, .ref m_way, .int 0, .ref m_out, .int 0, .int 1, .ref m_notedThing, .ref m_notedIs, .ref m_votes, .int 0, .int 0, .ref m_treeThen, .int 0, .int 0, .int 0, .ref m_imageTree, .ref m_pastThen, .ref m_notedThingThen, .ref m_notedIsThen, .ref m_statusThen])), (m_tree, .inl (y 0, 240, .inl (upd (upd (fun _ => 0) 0 3) 3 1))), (m_status, .inl (y 0, 3, .inl (fun _ => 0))), (m_notedThing, .inl (y 0, 8, .inl (upd (fun _ => 0) 0 0))), (m_notedIs, .inl (y 0, 8, .inl (upd (fun _ => 0) 0 1)))] H := hP
      have hD : va_D A [(h0, .inr (11, [.int 0, .ref m_tree, .ref m_data, .ref m_made, .ref m_status, .int 0, .ref m_tape, .ref m_paths, .ref m_pathSize, .null, .int 0, .int 0, .int 0, .int 0, .int 0, .int 0, .int 0, .int 0, .int 0, .int 0, .int 0, .int (-1), .int 0, .ref m_set, .ref m_to, .int 0, .int 0, .int 0, .int 0, .int 0, .int 0, .ref m_lifted, .int 0, .int 0, .int 0, .ref m_order, .int 0, .ref m_past, .int 0, .ref m_rowKind, .ref m_rowSteps, .ref m_rowPath, .ref m_rowWas, .ref m_rowIs, .ref m_pool, .ref m_rowsMany, .ref m_poolMany, .ref m_way, .int 0, .ref m_out, .int 0, .int 1, .ref m_notedThing, .ref m_notedIs, .ref m_votes, .int 0, .int 0, .ref m_treeThen, .int 0, .int 0, .int 0, .ref m_imageTree, .ref m_pastThen, .ref m_notedThingThen, .ref m_notedIsThen, .ref m_statusThen])), (m_tree, .inl (y 0, 240, .inl (upd (upd (fun _ => 0) 0 3) 3 1))), (m_status, .inl (y 0, 3, .inl (fun _ => 0))), (m_notedThing, .inl (y 0, 8, .inl (upd (fun _ => 0) 0 0))), (m_notedIs, .inl (y 0, 8, .inl (upd (fun _ => 0) 0 1)))] := hD
      refine lv_aload_n hx hb dX11_note_66 rfl (lv_at hl 0 rfl) ?_
      refine va_get (D := G) (ci := 11) (v := .int 1) (C := RX11) (T := TX11) (N := 66) hx hb hts inX11 hown hK.1 hP 0 rfl rfl 51 (by decide) (hts (.fieldLink RX11 235 "NestQueryModel" "noted" "I") (by decide +kernel)) (fun _ h9 => h9) rfl dX11_note_67 ?_
      have hP9 := hP.sub (ws' := []) [] rfl
      have hD9 := hD.sub (ws' := []) [] (by decide) rfl
      refine W.widen (k := 0) (n := 0) (Nat.le_of_ble_eq_true rfl) (Nat.le_of_ble_eq_true rfl) ?_
      exact W.iret (v := 1) hx hb hr (fun t ht hW => ⟨⟨1, (), rfl, Or.inl (⟨by decide, rfl⟩), by rw [ht]; exact hP9, by first | exact hD9 | (rw [hAe]; exact hD9)⟩, hS.F ht⟩) hS.2.2 dX11_note_70
  · subst hr_7
    refine lv_if_ne (tgt := 28) hx hb dX11_note_19 (by decide) (fun c_10 => absurd c_10 (by decide)) (fun _ => ?_)
    refine lv_aload_n hx hb dX11_note_22 rfl (lv_at hl 0 rfl) ?_
    refine lv_iconst (v := 2) hx hb dX11_note_23 (by decide) ?_
    refine nq_wri (wr := [(m_tree, .inl (y 0, 240, .inl (upd (upd (fun _ => 0) 0 3) 3 1))), (m_notedThing, .inl (y 0, 8, .inl (fun _ => 0))), (m_notedIs, .inl (y 0, 8, .inl (fun _ => 0)))]) (va_runV (As := [.int 2]) (rest := []) ⟨hx, hb, hml, hown, hts⟩ (c_m_refuse2 l G y H.size h0 m_tree m_data m_made m_status m_tape m_paths m_pathSize m_set m_to m_lifted m_order m_past m_rowKind m_rowSteps m_rowPath m_rowWas m_rowIs m_pool m_rowsMany m_poolMany m_way m_out m_notedThing m_notedIs m_votes m_treeThen m_imageTree m_pastThen m_notedThingThen m_notedIsThen m_statusThen ) (cwV 1 hts gX11_note_X11_refuse rfl rfl rfl (by decide +kernel) ⟨Nat.le_of_ble_eq_true rfl, Nat.le_of_ble_eq_true rfl⟩) (nq_PV hK hP hD [0, 2] rfl rfl 0 rfl rfl) rfl rfl hl.1 rfl (lv_room (Nat.le_of_ble_eq_true rfl)) dX11_note_24 ⟨Nat.le_of_ble_eq_true rfl, Nat.le_of_ble_eq_true rfl⟩) hP hD hS hA [0, 2] [1, 3, 4] rfl rfl (by decide) (by decide) (fun r_13 u_11 H locs hw_12 hP hD hS => ?_)
    have hP : va_P G vwCl [(m_tree, .inl (y 0, 240, .inl (upd (upd (fun _ => 0) 0 3) 3 1))), (m_notedThing, .inl (y 0, 8, .inl (fun _ => 0))), (m_notedIs, .inl (y 0, 8, .inl (fun _ => 0))), (h0, .inr (11, [.int 0, .ref m_tree, .ref m_data, .ref m_made, .ref m_status, .int 0, .ref m_tape, .ref m_paths, .ref m_pathSize, .null, .int 0, .int 0, .int 0, .int 0, .int 0, .int 0, .int 0, .int 0, .int 0, .int 0, .int 0, .int (-1), .int 0, .ref m_set, .ref m_to, .int 0, .int 0, .int 0, .int 0, .int 0, .int 0, .ref m_lifted, .int 0, .int 0, .int 0, .ref m_order, .int 0, .ref m_past, .int 0, .ref m_rowKind, .ref m_rowSteps, .ref m_rowPath, .ref m_rowWas, .ref m_rowIs, .ref m_pool, .ref m_rowsMany, .ref m_poolMany, .ref m_way, .int 0, .ref m_out, .int 0, .int 0, .ref m_notedThing, .ref m_notedIs, .ref m_votes, .int 0, .int 0, .ref m_treeThen, .int 0, .int 0, .int 0, .ref m_imageTree, .ref m_pastThen, .ref m_notedThingThen, .ref m_notedIsThen, .ref m_statusThen]))] H := hP
    have hD : va_D A [(m_tree, .inl (y 0, 240, .inl (upd (upd (fun _ => 0) 0 3) 3 1))), (m_notedThing, .inl (y 0, 8, .inl (fun _ => 0))), (m_notedIs, .inl (y 0, 8, .inl (fun _ => 0))), (h0, .inr (11, [.int 0, .ref m_tree, .ref m_data, .ref m_made, .ref m_status, .int 0, .ref m_tape, .ref m_paths, .ref m_pathSize, .null, .int 0, .int 0, .int 0, .int 0, .int 0, .int 0, .int 0, .int 0, .int 0, .int 0, .int 0, .int (-1), .int 0, .ref m_set, .ref m_to, .int 0, .int 0, .int 0, .int 0, .int 0, .int 0, .ref m_lifted, .int 0, .int 0, .int 0, .ref m_order, .int 0, .ref m_past, .int 0, .ref m_rowKind, .ref m_rowSteps, .ref m_rowPath, .ref m_rowWas, .ref m_rowIs, .ref m_pool, .ref m_rowsMany, .ref m_poolMany, .ref m_way, .int 0, .ref m_out, .int 0, .int 0, .ref m_notedThing, .ref m_notedIs, .ref m_votes, .int 0, .int 0, .ref m_treeThen, .int 0, .int 0, .int 0, .ref m_imageTree, .ref m_pastThen, .ref m_notedThingThen, .ref m_notedIsThen, .ref m_statusThen]))] := hD
    subst hw_12
    have hP9 := hP.sub (ws' := []) [] rfl
    have hD9 := hD.sub (ws' := []) [] (by decide) rfl
    refine W.widen (k := 0) (n := 0) (Nat.le_of_ble_eq_true rfl) (Nat.le_of_ble_eq_true rfl) ?_
    exact W.iret (v := (-1)) hx hb hr (fun t ht hW => ⟨⟨(-1), (), rfl, Or.inr (⟨c_6, rfl⟩), by rw [ht]; exact hP9, by first | exact hD9 | (rw [hAe]; exact hD9)⟩, hS.F ht⟩) hS.2.2 dX11_note_27
