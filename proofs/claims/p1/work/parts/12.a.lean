def sp_count (i : Int32) : Int32 × Int32 := if i = 0 then (0, 1) else if i = 1 then (0, 0) else if i = 2 then (0, 0) else if i = 3 then (0, 0) else if i = 4 then (0, 1) else if i = 5 then (0, 0) else if i = 6 then (0, 0) else if i = 7 then (0, 1) else if i = 8 then (0, 0) else if i = 9 then (0, (-1)) else if i = 10 then (0, 0) else if i = 11 then (0, 0) else if i = 12 then (0, 0) else if i = 13 then (0, 0) else if i = 14 then (0, 0) else if i = 15 then (0, 0) else if i = 16 then (0, 0) else if i = 17 then (0, 0) else (1, 0)
def sp_thing (i : Int32) (j : Int32) : Int32 × Int32 := if i = 0 then (if j = 0 then (0, 3) else if j = 1 then (0, (-1)) else if j = 2 then (0, (-1)) else if j = 3 then (0, 0) else if j = 4 then (0, 0) else if j = 5 then (0, 0) else if j = 6 then (0, (-1000)) else if j = 7 then (0, 0) else if j = 8 then (0, 0) else if j = 9 then (0, 0) else (1, 0)) else (1, 0)
def sp_within (i : Int32) (j : Int32) : Int32 × Int32 := (1, 0)
def sp_told (i : Int32) (b : Int32) (j : Int32) : Int32 × Int32 := if i = 0 then (if b = 0 then (if j = (-1) then (0, 2) else if j = 0 then (0, 123) else if j = 1 then (0, 125) else (1, 0)) else (if j = (-1) then (0, 0) else (1, 0))) else (1, 0)
def sp_alike (i : Int32) (j : Int32) : Int32 × Int32 := if i = 0 then (if j = 0 then (0, 1) else (1, 0)) else (1, 0)
def sp_one (i : Int32) (j : Int32) : Int32 × Int32 := (1, 0)
def sp_tree (i : Int32) : Int32 × Int32 := if i = 0 then (0, 1) else (1, 0)
def sp_path (i : Int32) (j : Int32) : Int32 × Int32 := if i < 0 then (1, 0) else if 3 < i then (1, 0) else if j = 0 then (0, 0) else (2, 0)
def sp_put (i : Int32) (j : Int32) : Int32 × Int32 := if j = 0 then (0, -1) else (1, 0)
def sp_key (i : Int32) (k : Int32) (j : Int32) : Int32 × Int32 := if j = 0 then (0, -1) else (1, 0)
def sp_years (a : Int32) (n : Int32) (i : Int32) : Int32 × Int32 := if i < 0 then (1, 0) else if 2 < i then (1, 0) else if n < 0 then (2, 0) else if 20 < n then (2, 0) else if i = 0 then (0, 1) else (0, 0)
set_option maxHeartbeats 400000 in
set_option maxRecDepth 100000 in
theorem c_lettersOf (l : Launch) (G : va_G) (y : Nat → ClassId) (sz : Nat)   : Met l yX10_lettersOf wsX10_lettersOf ({ frames := 0, cells := 0, slots := 0, locals := 0 }) (nq_P G y sz [.int 0] []) (va_Qi (fun (r : Int32) (_ : Unit) => r = 0) (fun _ _ => True) (va_A [] sz)) 0 0 (va_A [] sz) := by
  refine Met.ofW (cc := cX10_lettersOf) (maxL := 4) (ret := (some .int)) (by decide) rfl ?_
  intro p e s m args below meth c s₁ B hml hv
  obtain ⟨rfl, hsz, hP, hK, hD0⟩ := hv
  have hx := B.exec
  have hb := B.bytes
  have hr := B.returns
  have hts := atoms_spec (ws := wsX10_lettersOf) B.pre
  have hown : s.vm.findClass RX10 = some m.cls := findClass_of_methodNamed B.named
  have hlocks := B.notSynchronized
  subst hsz
  have hD := hD0
  have hA : ∀ q : Nat, s.heap.size ≤ q → va_A [] s.heap.size q := fun q h => Or.inr h
  have hS : va_S (va_A [] s.heap.size) s.heap s.heap [] := va_S.rf
  have hP : va_P G vwCl [] s.heap := hP
  have hl := lv_entry ([.int 0]) (n := 4) (Nat.le_of_ble_eq_true rfl)
  rw [lg_entry_eq]
  generalize (lg_sl ([.int 0]) ++ List.replicate (4 - (lg_sl ([.int 0])).length) Slot.unset).toArray = ls at hl ⊢
  have hl : lv_has ls 4 [(0, .int 0)] := hl
  refine lv_iconst (v := 0) hx hb dX10_lettersOf_0 (by decide) ?_
  refine lv_istore_n (lv' := [(1, .int 0), (0, .int 0)]) hx hb dX10_lettersOf_1 rfl hl (by decide) rfl (fun ls hl => ?_)
  refine lv_iload_n hx hb dX10_lettersOf_2 rfl (lv_at hl 1 rfl) ?_
  refine lv_istore_n (lv' := [(2, .int 0), (1, .int 0), (0, .int 0)]) hx hb dX10_lettersOf_3 rfl hl (by decide) rfl (fun ls hl => ?_)
  refine lv_iconst (v := 0) hx hb dX10_lettersOf_4 (by decide) ?_
  refine lv_istore_n (lv' := [(3, .int 0), (2, .int 0), (1, .int 0), (0, .int 0)]) hx hb dX10_lettersOf_5 rfl hl (by decide) rfl (fun ls hl => ?_)
  refine lv_iload_n hx hb dX10_lettersOf_6 rfl (lv_at hl 0 rfl) ?_
  refine lv_bipush (v := 6) hx hb dX10_lettersOf_7 (by decide) ?_
  refine lv_icmp_ge (tgt := 29) hx hb dX10_lettersOf_9 (by decide) (fun c_1 => absurd c_1 (by decide)) (fun _ => ?_)
  refine lv_iload_n hx hb dX10_lettersOf_12 rfl (lv_at hl 1 rfl) ?_
  refine lv_if_le (tgt := 29) hx hb dX10_lettersOf_13 (by decide) (fun _ => ?_) (fun c_2 => absurd c_2 (by decide))
  refine lv_iload_n hx hb dX10_lettersOf_29 rfl (lv_at hl 2 rfl) ?_
  refine W.widen (k := 0) (n := 0) (Nat.le_of_ble_eq_true rfl) (Nat.le_of_ble_eq_true rfl) ?_
  exact W.iret (v := 0) hx hb hr (fun t ht hW => ⟨⟨0, (), rfl, rfl, trivial⟩, hS.F ht⟩) hS.2.2 dX10_lettersOf_30

set_option maxHeartbeats 400000 in
set_option maxRecDepth 100000 in
theorem c_canBegin (l : Launch) (G : va_G) (y : Nat → ClassId) (sz : Nat)   : Met l yX1_canBegin wsX1_canBegin ({ frames := 0, cells := 0, slots := 0, locals := 0 }) (nq_P G y sz [.int 259] []) (va_Qi (fun (r : Int32) (_ : Unit) => r = 0) (fun _ _ => True) (va_A [] sz)) 0 0 (va_A [] sz) := by
  refine Met.ofW (cc := cX1_canBegin) (maxL := 1) (ret := (some .boolean)) (by decide) rfl ?_
  intro p e s m args below meth c s₁ B hml hv
  obtain ⟨rfl, hsz, hP, hK, hD0⟩ := hv
  have hx := B.exec
  have hb := B.bytes
  have hr := B.returns
  have hts := atoms_spec (ws := wsX1_canBegin) B.pre
  have hown : s.vm.findClass RX1 = some m.cls := findClass_of_methodNamed B.named
  have hlocks := B.notSynchronized
  subst hsz
  have hD := hD0
  have hA : ∀ q : Nat, s.heap.size ≤ q → va_A [] s.heap.size q := fun q h => Or.inr h
  have hS : va_S (va_A [] s.heap.size) s.heap s.heap [] := va_S.rf
  have hP : va_P G vwCl [] s.heap := hP
  have hl := lv_entry ([.int 259]) (n := 1) (Nat.le_of_ble_eq_true rfl)
  rw [lg_entry_eq]
  generalize (lg_sl ([.int 259]) ++ List.replicate (1 - (lg_sl ([.int 259])).length) Slot.unset).toArray = ls at hl ⊢
  have hl : lv_has ls 1 [(0, .int 259)] := hl
  refine lv_iload_n hx hb dX1_canBegin_0 rfl (lv_at hl 0 rfl) ?_
  refine lv_bipush (v := 45) hx hb dX1_canBegin_1 (by decide) ?_
  refine lv_icmp_eq (tgt := 32) hx hb dX1_canBegin_3 (by decide) (fun c_1 => absurd c_1 (by decide)) (fun _ => ?_)
  refine lv_iload_n hx hb dX1_canBegin_6 rfl (lv_at hl 0 rfl) ?_
  refine lv_sipush (v := 257) hx hb dX1_canBegin_7 (by decide) ?_
  refine lv_icmp_eq (tgt := 32) hx hb dX1_canBegin_10 (by decide) (fun c_2 => absurd c_2 (by decide)) (fun _ => ?_)
  refine lv_iload_n hx hb dX1_canBegin_13 rfl (lv_at hl 0 rfl) ?_
  refine lv_sipush (v := 256) hx hb dX1_canBegin_14 (by decide) ?_
  refine lv_icmp_eq (tgt := 32) hx hb dX1_canBegin_17 (by decide) (fun c_3 => absurd c_3 (by decide)) (fun _ => ?_)
  refine lv_iload_n hx hb dX1_canBegin_20 rfl (lv_at hl 0 rfl) ?_
  refine lv_bipush (v := 91) hx hb dX1_canBegin_21 (by decide) ?_
  refine lv_icmp_eq (tgt := 32) hx hb dX1_canBegin_23 (by decide) (fun c_4 => absurd c_4 (by decide)) (fun _ => ?_)
  refine lv_iload_n hx hb dX1_canBegin_26 rfl (lv_at hl 0 rfl) ?_
  refine lv_bipush (v := 123) hx hb dX1_canBegin_27 (by decide) ?_
  refine lv_icmp_ne (tgt := 36) hx hb dX1_canBegin_29 (by decide) (fun _ => ?_) (fun c_5 => absurd c_5 (by decide))
  refine lv_iconst (v := 0) hx hb dX1_canBegin_36 (by decide) ?_
  refine W.widen (k := 0) (n := 0) (Nat.le_of_ble_eq_true rfl) (Nat.le_of_ble_eq_true rfl) ?_
  exact W.zret (v := 0) hx hb hr (by decide) (fun t ht hW => ⟨⟨0, (), rfl, rfl, trivial⟩, hS.F ht⟩) hS.2.2 dX1_canBegin_37

set_option maxHeartbeats 400000 in
set_option maxRecDepth 100000 in
theorem c_addToken (l : Launch) (G : va_G) (y : Nat → ClassId) (sz : Nat) (tk : Nat) (tk1 : Nat) (tk2 : Nat) (tk3 : Nat) (tk4 : Nat)  : Met l yX8_addToken wsX8_addToken ({ frames := 0, cells := 0, slots := 0, locals := 0 }) (nq_P G y sz [.ref tk, .int 259, .int 0, .int 0, .int 0] [(tk, .inr (8, [.ref tk1, .ref tk2, .ref tk3, .ref tk4, .int 0, .int 0, .int 0, .int 0, .int (-1)])), (tk1, .inl (y 0, 401, .inl (fun _ => 0))), (tk2, .inl (y 0, 401, .inl (fun _ => 0))), (tk3, .inl (y 0, 401, .inl (fun _ => 0))), (tk4, .inl (y 0, 401, .inl (fun _ => 0)))]) (va_Qv (fun (_ : Unit) => True) (fun (u : Unit) t9 => va_P G vwCl ([(tk, .inr (8, [.ref tk1, .ref tk2, .ref tk3, .ref tk4, .int 1, .int 0, .int 0, .int 0, .int (-1)])), (tk1, .inl (y 0, 401, .inl (upd (fun _ => 0) 0 259))), (tk2, .inl (y 0, 401, .inl (upd (fun _ => 0) 0 0))), (tk3, .inl (y 0, 401, .inl (upd (fun _ => 0) 0 0))), (tk4, .inl (y 0, 401, .inl (upd (fun _ => 0) 0 0)))]) t9.heap ∧ va_D (va_A [(tk, .inr (8, [.ref tk1, .ref tk2, .ref tk3, .ref tk4, .int 0, .int 0, .int 0, .int 0, .int (-1)])), (tk1, .inl (y 0, 401, .inl (fun _ => 0))), (tk2, .inl (y 0, 401, .inl (fun _ => 0))), (tk3, .inl (y 0, 401, .inl (fun _ => 0))), (tk4, .inl (y 0, 401, .inl (fun _ => 0)))] sz) ([(tk, .inr (8, [.ref tk1, .ref tk2, .ref tk3, .ref tk4, .int 1, .int 0, .int 0, .int 0, .int (-1)])), (tk1, .inl (y 0, 401, .inl (upd (fun _ => 0) 0 259))), (tk2, .inl (y 0, 401, .inl (upd (fun _ => 0) 0 0))), (tk3, .inl (y 0, 401, .inl (upd (fun _ => 0) 0 0))), (tk4, .inl (y 0, 401, .inl (upd (fun _ => 0) 0 0)))])) (va_A [(tk, .inr (8, [.ref tk1, .ref tk2, .ref tk3, .ref tk4, .int 0, .int 0, .int 0, .int 0, .int (-1)])), (tk1, .inl (y 0, 401, .inl (fun _ => 0))), (tk2, .inl (y 0, 401, .inl (fun _ => 0))), (tk3, .inl (y 0, 401, .inl (fun _ => 0))), (tk4, .inl (y 0, 401, .inl (fun _ => 0)))] sz)) 0 0 (va_A [(tk, .inr (8, [.ref tk1, .ref tk2, .ref tk3, .ref tk4, .int 0, .int 0, .int 0, .int 0, .int (-1)])), (tk1, .inl (y 0, 401, .inl (fun _ => 0))), (tk2, .inl (y 0, 401, .inl (fun _ => 0))), (tk3, .inl (y 0, 401, .inl (fun _ => 0))), (tk4, .inl (y 0, 401, .inl (fun _ => 0)))] sz) := by
  refine Met.ofW (cc := cX8_addToken) (maxL := 5) (ret := none) (by decide) rfl ?_
  intro p e s m args below meth c s₁ B hml hv
  obtain ⟨rfl, hsz, hP, hK, hD0⟩ := hv
  have hx := B.exec
  have hb := B.bytes
  have hr := B.returns
  have hts := atoms_spec (ws := wsX8_addToken) B.pre
  have hown : s.vm.findClass RX8 = some m.cls := findClass_of_methodNamed B.named
  have hlocks := B.notSynchronized
  subst hsz
  have hD := hD0.self (sz := s.heap.size)
  generalize hAe : va_A [(tk, .inr (8, [.ref tk1, .ref tk2, .ref tk3, .ref tk4, .int 0, .int 0, .int 0, .int 0, .int (-1)])), (tk1, .inl (y 0, 401, .inl (fun _ => 0))), (tk2, .inl (y 0, 401, .inl (fun _ => 0))), (tk3, .inl (y 0, 401, .inl (fun _ => 0))), (tk4, .inl (y 0, 401, .inl (fun _ => 0)))] s.heap.size = A at hD ⊢
  have hA : ∀ q : Nat, s.heap.size ≤ q → A q := fun q h => by rw [← hAe]; exact Or.inr h
  have hS : va_S A s.heap s.heap [] := va_S.rf
  have hP : va_P G vwCl [(tk, .inr (8, [.ref tk1, .ref tk2, .ref tk3, .ref tk4, .int 0, .int 0, .int 0, .int 0, .int (-1)])), (tk1, .inl (y 0, 401, .inl (fun _ => 0))), (tk2, .inl (y 0, 401, .inl (fun _ => 0))), (tk3, .inl (y 0, 401, .inl (fun _ => 0))), (tk4, .inl (y 0, 401, .inl (fun _ => 0)))] s.heap := hP
  have inX8 : ∀ w ∈ wsX80, w ∈ wsX8_addToken := by decide +kernel
  have hl := lv_entry ([.ref tk, .int 259, .int 0, .int 0, .int 0]) (n := 5) (Nat.le_of_ble_eq_true rfl)
  rw [lg_entry_eq]
  generalize (lg_sl ([.ref tk, .int 259, .int 0, .int 0, .int 0]) ++ List.replicate (5 - (lg_sl ([.ref tk, .int 259, .int 0, .int 0, .int 0])).length) Slot.unset).toArray = ls at hl ⊢
  have hl : lv_has ls 5 [(0, .ref tk), (1, .int 259), (2, .int 0), (3, .int 0), (4, .int 0)] := hl
  refine lv_aload_n hx hb dX8_addToken_0 rfl (lv_at hl 0 rfl) ?_
  refine va_get (D := G) (ci := 8) (v := .int 0) (C := RX8) (T := TX8) (N := 9) hx hb hts inX8 hown hK.1 hP 0 rfl rfl 4 (by decide) (hts (.fieldLink RX8 37 "NestQuery$Tokens" "found" "I") (by decide +kernel)) (fun _ h9 => h9) rfl dX8_addToken_1 ?_
  refine lv_if_lt (tgt := 68) hx hb dX8_addToken_4 (by decide) (fun c_1 => absurd c_1 (by decide)) (fun _ => ?_)
  refine lv_aload_n hx hb dX8_addToken_7 rfl (lv_at hl 0 rfl) ?_
  refine va_get (D := G) (ci := 8) (v := .int 0) (C := RX8) (T := TX8) (N := 9) hx hb hts inX8 hown hK.1 hP 0 rfl rfl 4 (by decide) (hts (.fieldLink RX8 37 "NestQuery$Tokens" "found" "I") (by decide +kernel)) (fun _ h9 => h9) rfl dX8_addToken_8 ?_
  refine lv_sipush (v := 401) hx hb dX8_addToken_11 (by decide) ?_
  refine lv_icmp_ge (tgt := 68) hx hb dX8_addToken_14 (by decide) (fun c_2 => absurd c_2 (by decide)) (fun _ => ?_)
  refine lv_aload_n hx hb dX8_addToken_17 rfl (lv_at hl 0 rfl) ?_
  refine va_get (D := G) (ci := 8) (v := .ref tk1) (C := RX8) (T := TX8) (N := 9) hx hb hts inX8 hown hK.1 hP 0 rfl rfl 0 (by decide) (hts (.fieldLink RX8 11 "NestQuery$Tokens" "kinds" "[I") (by decide +kernel)) (fun _ h9 => h9) rfl dX8_addToken_18 ?_
  refine lv_aload_n hx hb dX8_addToken_21 rfl (lv_at hl 0 rfl) ?_
  refine va_get (D := G) (ci := 8) (v := .int 0) (C := RX8) (T := TX8) (N := 9) hx hb hts inX8 hown hK.1 hP 0 rfl rfl 4 (by decide) (hts (.fieldLink RX8 37 "NestQuery$Tokens" "found" "I") (by decide +kernel)) (fun _ h9 => h9) rfl dX8_addToken_22 ?_
  refine lv_iload_n hx hb dX8_addToken_25 rfl (lv_at hl 1 rfl) ?_
  refine va_iast hx hb hK.1 hP hD hS 1 0 rfl rfl (i := 0) (nq_in (by decide)) dX8_addToken_26 (fun H locs hP hD hS => ?_)
  have hP : va_P G vwCl [(tk, .inr (8, [.ref tk1, .ref tk2, .ref tk3, .ref tk4, .int 0, .int 0, .int 0, .int 0, .int (-1)])), (tk1, .inl (y 0, 401, .inl (upd (fun _ => 0) 0 259))), (tk2, .inl (y 0, 401, .inl (fun _ => 0))), (tk3, .inl (y 0, 401, .inl (fun _ => 0))), (tk4, .inl (y 0, 401, .inl (fun _ => 0)))] H := hP
  have hD : va_D A [(tk, .inr (8, [.ref tk1, .ref tk2, .ref tk3, .ref tk4, .int 0, .int 0, .int 0, .int 0, .int (-1)])), (tk1, .inl (y 0, 401, .inl (upd (fun _ => 0) 0 259))), (tk2, .inl (y 0, 401, .inl (fun _ => 0))), (tk3, .inl (y 0, 401, .inl (fun _ => 0))), (tk4, .inl (y 0, 401, .inl (fun _ => 0)))] := hD
  refine lv_aload_n hx hb dX8_addToken_27 rfl (lv_at hl 0 rfl) ?_
  refine va_get (D := G) (ci := 8) (v := .ref tk2) (C := RX8) (T := TX8) (N := 9) hx hb hts inX8 hown hK.1 hP 0 rfl rfl 1 (by decide) (hts (.fieldLink RX8 15 "NestQuery$Tokens" "starts" "[I") (by decide +kernel)) (fun _ h9 => h9) rfl dX8_addToken_28 ?_
  refine lv_aload_n hx hb dX8_addToken_31 rfl (lv_at hl 0 rfl) ?_
  refine va_get (D := G) (ci := 8) (v := .int 0) (C := RX8) (T := TX8) (N := 9) hx hb hts inX8 hown hK.1 hP 0 rfl rfl 4 (by decide) (hts (.fieldLink RX8 37 "NestQuery$Tokens" "found" "I") (by decide +kernel)) (fun _ h9 => h9) rfl dX8_addToken_32 ?_
  refine lv_iload_n hx hb dX8_addToken_35 rfl (lv_at hl 2 rfl) ?_
  refine va_iast hx hb hK.1 hP hD hS 2 0 rfl rfl (i := 0) (nq_in (by decide)) dX8_addToken_36 (fun H locs hP hD hS => ?_)
  have hP : va_P G vwCl [(tk, .inr (8, [.ref tk1, .ref tk2, .ref tk3, .ref tk4, .int 0, .int 0, .int 0, .int 0, .int (-1)])), (tk1, .inl (y 0, 401, .inl (upd (fun _ => 0) 0 259))), (tk2, .inl (y 0, 401, .inl (upd (fun _ => 0) 0 0))), (tk3, .inl (y 0, 401, .inl (fun _ => 0))), (tk4, .inl (y 0, 401, .inl (fun _ => 0)))] H := hP
  have hD : va_D A [(tk, .inr (8, [.ref tk1, .ref tk2, .ref tk3, .ref tk4, .int 0, .int 0, .int 0, .int 0, .int (-1)])), (tk1, .inl (y 0, 401, .inl (upd (fun _ => 0) 0 259))), (tk2, .inl (y 0, 401, .inl (upd (fun _ => 0) 0 0))), (tk3, .inl (y 0, 401, .inl (fun _ => 0))), (tk4, .inl (y 0, 401, .inl (fun _ => 0)))] := hD
  refine lv_aload_n hx hb dX8_addToken_37 rfl (lv_at hl 0 rfl) ?_
  refine va_get (D := G) (ci := 8) (v := .ref tk3) (C := RX8) (T := TX8) (N := 9) hx hb hts inX8 hown hK.1 hP 0 rfl rfl 2 (by decide) (hts (.fieldLink RX8 18 "NestQuery$Tokens" "values" "[I") (by decide +kernel)) (fun _ h9 => h9) rfl dX8_addToken_38 ?_
  refine lv_aload_n hx hb dX8_addToken_41 rfl (lv_at hl 0 rfl) ?_
  refine va_get (D := G) (ci := 8) (v := .int 0) (C := RX8) (T := TX8) (N := 9) hx hb hts inX8 hown hK.1 hP 0 rfl rfl 4 (by decide) (hts (.fieldLink RX8 37 "NestQuery$Tokens" "found" "I") (by decide +kernel)) (fun _ h9 => h9) rfl dX8_addToken_42 ?_
  refine lv_iload_n hx hb dX8_addToken_45 rfl (lv_at hl 3 rfl) ?_
  refine va_iast hx hb hK.1 hP hD hS 3 0 rfl rfl (i := 0) (nq_in (by decide)) dX8_addToken_46 (fun H locs hP hD hS => ?_)
  have hP : va_P G vwCl [(tk, .inr (8, [.ref tk1, .ref tk2, .ref tk3, .ref tk4, .int 0, .int 0, .int 0, .int 0, .int (-1)])), (tk1, .inl (y 0, 401, .inl (upd (fun _ => 0) 0 259))), (tk2, .inl (y 0, 401, .inl (upd (fun _ => 0) 0 0))), (tk3, .inl (y 0, 401, .inl (upd (fun _ => 0) 0 0))), (tk4, .inl (y 0, 401, .inl (fun _ => 0)))] H := hP
  have hD : va_D A [(tk, .inr (8, [.ref tk1, .ref tk2, .ref tk3, .ref tk4, .int 0, .int 0, .int 0, .int 0, .int (-1)])), (tk1, .inl (y 0, 401, .inl (upd (fun _ => 0) 0 259))), (tk2, .inl (y 0, 401, .inl (upd (fun _ => 0) 0 0))), (tk3, .inl (y 0, 401, .inl (upd (fun _ => 0) 0 0))), (tk4, .inl (y 0, 401, .inl (fun _ => 0)))] := hD
  refine lv_aload_n hx hb dX8_addToken_47 rfl (lv_at hl 0 rfl) ?_
  refine va_get (D := G) (ci := 8) (v := .ref tk4) (C := RX8) (T := TX8) (N := 9) hx hb hts inX8 hown hK.1 hP 0 rfl rfl 3 (by decide) (hts (.fieldLink RX8 21 "NestQuery$Tokens" "lengths" "[I") (by decide +kernel)) (fun _ h9 => h9) rfl dX8_addToken_48 ?_
  refine lv_aload_n hx hb dX8_addToken_51 rfl (lv_at hl 0 rfl) ?_
  refine va_get (D := G) (ci := 8) (v := .int 0) (C := RX8) (T := TX8) (N := 9) hx hb hts inX8 hown hK.1 hP 0 rfl rfl 4 (by decide) (hts (.fieldLink RX8 37 "NestQuery$Tokens" "found" "I") (by decide +kernel)) (fun _ h9 => h9) rfl dX8_addToken_52 ?_
  refine lv_iload hx hb dX8_addToken_55 (lv_at hl 4 rfl) ?_
  refine va_iast hx hb hK.1 hP hD hS 4 0 rfl rfl (i := 0) (nq_in (by decide)) dX8_addToken_57 (fun H locs hP hD hS => ?_)
  have hP : va_P G vwCl [(tk, .inr (8, [.ref tk1, .ref tk2, .ref tk3, .ref tk4, .int 0, .int 0, .int 0, .int 0, .int (-1)])), (tk1, .inl (y 0, 401, .inl (upd (fun _ => 0) 0 259))), (tk2, .inl (y 0, 401, .inl (upd (fun _ => 0) 0 0))), (tk3, .inl (y 0, 401, .inl (upd (fun _ => 0) 0 0))), (tk4, .inl (y 0, 401, .inl (upd (fun _ => 0) 0 0)))] H := hP
  have hD : va_D A [(tk, .inr (8, [.ref tk1, .ref tk2, .ref tk3, .ref tk4, .int 0, .int 0, .int 0, .int 0, .int (-1)])), (tk1, .inl (y 0, 401, .inl (upd (fun _ => 0) 0 259))), (tk2, .inl (y 0, 401, .inl (upd (fun _ => 0) 0 0))), (tk3, .inl (y 0, 401, .inl (upd (fun _ => 0) 0 0))), (tk4, .inl (y 0, 401, .inl (upd (fun _ => 0) 0 0)))] := hD
  refine lv_aload_n hx hb dX8_addToken_58 rfl (lv_at hl 0 rfl) ?_
  refine lv_dup hx hb dX8_addToken_59 rfl ?_
  refine va_get (D := G) (ci := 8) (v := .int 0) (C := RX8) (T := TX8) (N := 9) hx hb hts inX8 hown hK.1 hP 0 rfl rfl 4 (by decide) (hts (.fieldLink RX8 37 "NestQuery$Tokens" "found" "I") (by decide +kernel)) (fun _ h9 => h9) rfl dX8_addToken_60 ?_
  refine lv_iconst (v := 1) hx hb dX8_addToken_63 (by decide) ?_
  refine lv_iadd hx hb dX8_addToken_64 ?_
  refine nq_top (z := 1) (by decide) ?_
  refine va_put (D := G) (ci := 8) (v := .int 1) (ty := .int) (C := RX8) (T := TX8) (N := 9) hx hb hts inX8 tyX8 tyX8_ok nmX8 hown hK.1 hP hD hS 0 rfl rfl 4 (by decide) (hts (.fieldLink RX8 37 "NestQuery$Tokens" "found" "I") (by decide +kernel)) (fun _ h9 => h9) rfl (by decide +kernel) rfl rfl (Nat.le_of_ble_eq_true rfl) dX8_addToken_65 (fun H locs hP hD hS => ?_)
  have hP : va_P G vwCl [(tk, .inr (8, [.ref tk1, .ref tk2, .ref tk3, .ref tk4, .int 1, .int 0, .int 0, .int 0, .int (-1)])), (tk1, .inl (y 0, 401, .inl (upd (fun _ => 0) 0 259))), (tk2, .inl (y 0, 401, .inl (upd (fun _ => 0) 0 0))), (tk3, .inl (y 0, 401, .inl (upd (fun _ => 0) 0 0))), (tk4, .inl (y 0, 401, .inl (upd (fun _ => 0) 0 0)))] H := hP
  have hD : va_D A [(tk, .inr (8, [.ref tk1, .ref tk2, .ref tk3, .ref tk4, .int 1, .int 0, .int 0, .int 0, .int (-1)])), (tk1, .inl (y 0, 401, .inl (upd (fun _ => 0) 0 259))), (tk2, .inl (y 0, 401, .inl (upd (fun _ => 0) 0 0))), (tk3, .inl (y 0, 401, .inl (upd (fun _ => 0) 0 0))), (tk4, .inl (y 0, 401, .inl (upd (fun _ => 0) 0 0)))] := hD
  have hP9 := hP.sub (ws' := [(tk, .inr (8, [.ref tk1, .ref tk2, .ref tk3, .ref tk4, .int 1, .int 0, .int 0, .int 0, .int (-1)])), (tk1, .inl (y 0, 401, .inl (upd (fun _ => 0) 0 259))), (tk2, .inl (y 0, 401, .inl (upd (fun _ => 0) 0 0))), (tk3, .inl (y 0, 401, .inl (upd (fun _ => 0) 0 0))), (tk4, .inl (y 0, 401, .inl (upd (fun _ => 0) 0 0)))]) [0, 1, 2, 3, 4] rfl
  have hD9 := hD.sub (ws' := [(tk, .inr (8, [.ref tk1, .ref tk2, .ref tk3, .ref tk4, .int 1, .int 0, .int 0, .int 0, .int (-1)])), (tk1, .inl (y 0, 401, .inl (upd (fun _ => 0) 0 259))), (tk2, .inl (y 0, 401, .inl (upd (fun _ => 0) 0 0))), (tk3, .inl (y 0, 401, .inl (upd (fun _ => 0) 0 0))), (tk4, .inl (y 0, 401, .inl (upd (fun _ => 0) 0 0)))]) [0, 1, 2, 3, 4] (by decide) rfl
  refine W.widen (k := 0) (n := 0) (Nat.le_of_ble_eq_true rfl) (Nat.le_of_ble_eq_true rfl) ?_
  exact W.vret hx hb hr (fun t ht hW => ⟨⟨(), rfl, trivial, by rw [ht]; exact hP9, by first | exact hD9 | (rw [hAe]; exact hD9)⟩, hS.F ht⟩) hS.2.2 dX8_addToken_68

set_option maxHeartbeats 400000 in
set_option maxRecDepth 100000 in
theorem c_begin (l : Launch) (G : va_G) (y : Nat → ClassId) (sz : Nat) (tk : Nat) (tk1 : Nat) (tk2 : Nat) (tk3 : Nat) (tk4 : Nat) (tp : Nat) (f : Nat → Int32)  : Met l yX8_begin wsX8_begin ({ frames := 1, cells := 0, slots := 0, locals := 40 }) (nq_P G y sz [.ref tk, .ref tp, .int 0] [(tk, .inr (8, [.ref tk1, .ref tk2, .ref tk3, .ref tk4, .int 0, .int 0, .int 0, .int 0, .int (-1)])), (tk1, .inl (y 0, 401, .inl (fun _ => 0))), (tk2, .inl (y 0, 401, .inl (fun _ => 0))), (tk3, .inl (y 0, 401, .inl (fun _ => 0))), (tk4, .inl (y 0, 401, .inl (fun _ => 0))), (tp, .inl (y 0, 400, .inl f))]) (va_Qv (fun (_ : Unit) => True) (fun (u : Unit) t9 => va_P G vwCl ([(tk, .inr (8, [.ref tk1, .ref tk2, .ref tk3, .ref tk4, .int 1, .int 0, .int 259, .int 0, .int (-1)])), (tk2, .inl (y 0, 401, .inl (upd (fun _ => 0) 0 0)))]) t9.heap ∧ va_D (va_A [(tk, .inr (8, [.ref tk1, .ref tk2, .ref tk3, .ref tk4, .int 0, .int 0, .int 0, .int 0, .int (-1)])), (tk1, .inl (y 0, 401, .inl (fun _ => 0))), (tk2, .inl (y 0, 401, .inl (fun _ => 0))), (tk3, .inl (y 0, 401, .inl (fun _ => 0))), (tk4, .inl (y 0, 401, .inl (fun _ => 0))), (tp, .inl (y 0, 400, .inl f))] sz) ([(tk, .inr (8, [.ref tk1, .ref tk2, .ref tk3, .ref tk4, .int 1, .int 0, .int 259, .int 0, .int (-1)])), (tk2, .inl (y 0, 401, .inl (upd (fun _ => 0) 0 0)))])) (va_A [(tk, .inr (8, [.ref tk1, .ref tk2, .ref tk3, .ref tk4, .int 0, .int 0, .int 0, .int 0, .int (-1)])), (tk1, .inl (y 0, 401, .inl (fun _ => 0))), (tk2, .inl (y 0, 401, .inl (fun _ => 0))), (tk3, .inl (y 0, 401, .inl (fun _ => 0))), (tk4, .inl (y 0, 401, .inl (fun _ => 0))), (tp, .inl (y 0, 400, .inl f))] sz)) 0 0 (va_A [(tk, .inr (8, [.ref tk1, .ref tk2, .ref tk3, .ref tk4, .int 0, .int 0, .int 0, .int 0, .int (-1)])), (tk1, .inl (y 0, 401, .inl (fun _ => 0))), (tk2, .inl (y 0, 401, .inl (fun _ => 0))), (tk3, .inl (y 0, 401, .inl (fun _ => 0))), (tk4, .inl (y 0, 401, .inl (fun _ => 0))), (tp, .inl (y 0, 400, .inl f))] sz) := by
  refine Met.ofW (cc := cX8_begin) (maxL := 8) (ret := none) (by decide) rfl ?_
  intro p e s m args below meth c s₁ B hml hv
  obtain ⟨rfl, hsz, hP, hK, hD0⟩ := hv
  have hx := B.exec
  have hb := B.bytes
  have hr := B.returns
  have hts := atoms_spec (ws := wsX8_begin) B.pre
  have hown : s.vm.findClass RX8 = some m.cls := findClass_of_methodNamed B.named
  have hlocks := B.notSynchronized
  subst hsz
  have hD := hD0.self (sz := s.heap.size)
  generalize hAe : va_A [(tk, .inr (8, [.ref tk1, .ref tk2, .ref tk3, .ref tk4, .int 0, .int 0, .int 0, .int 0, .int (-1)])), (tk1, .inl (y 0, 401, .inl (fun _ => 0))), (tk2, .inl (y 0, 401, .inl (fun _ => 0))), (tk3, .inl (y 0, 401, .inl (fun _ => 0))), (tk4, .inl (y 0, 401, .inl (fun _ => 0))), (tp, .inl (y 0, 400, .inl f))] s.heap.size = A at hD ⊢
  have hA : ∀ q : Nat, s.heap.size ≤ q → A q := fun q h => by rw [← hAe]; exact Or.inr h
  have hS : va_S A s.heap s.heap [] := va_S.rf
  have hP : va_P G vwCl [(tk, .inr (8, [.ref tk1, .ref tk2, .ref tk3, .ref tk4, .int 0, .int 0, .int 0, .int 0, .int (-1)])), (tk1, .inl (y 0, 401, .inl (fun _ => 0))), (tk2, .inl (y 0, 401, .inl (fun _ => 0))), (tk3, .inl (y 0, 401, .inl (fun _ => 0))), (tk4, .inl (y 0, 401, .inl (fun _ => 0))), (tp, .inl (y 0, 400, .inl f))] s.heap := hP
  have inX8 : ∀ w ∈ wsX80, w ∈ wsX8_begin := by decide +kernel
  have hl := lv_entry ([.ref tk, .ref tp, .int 0]) (n := 8) (Nat.le_of_ble_eq_true rfl)
  rw [lg_entry_eq]
  generalize (lg_sl ([.ref tk, .ref tp, .int 0]) ++ List.replicate (8 - (lg_sl ([.ref tk, .ref tp, .int 0])).length) Slot.unset).toArray = ls at hl ⊢
  have hl : lv_has ls 8 [(0, .ref tk), (1, .ref tp), (2, .int 0)] := hl
  refine lv_iconst (v := 0) hx hb dX8_begin_0 (by decide) ?_
  refine lv_iload_n hx hb dX8_begin_1 rfl (lv_at hl 2 rfl) ?_
  refine lv_aload_n hx hb dX8_begin_2 rfl (lv_at hl 1 rfl) ?_
  refine va_alen hx hb hK.1 hP 5 0 rfl rfl (v := 400) rfl dX8_begin_3 ?_
  refine va_mmin hx hb (by rw [hml]; exact hl.1.symm) hown (hts (.methodLink RX8 28 Lib.Math.min.name) (by decide +kernel)) (hts (.static Lib.Math.min.name) (by decide +kernel)) (hts (.initialized "java/lang/Math") (by decide +kernel)) (hts (.code Lib.Math.min.name Lib.Math.min.code 2 (some .int)) (by decide +kernel)) (Nat.le_of_ble_eq_true rfl) (Nat.le_of_ble_eq_true rfl) (Nat.zero_le _) (Nat.zero_le _) dX8_begin_4 ?_
  refine nq_top (z := 0) (by decide) ?_
  refine va_mmax hx hb (by rw [hml]; exact hl.1.symm) hown (hts (.methodLink RX8 34 Lib.Math.max.name) (by decide +kernel)) (hts (.static Lib.Math.max.name) (by decide +kernel)) (hts (.initialized "java/lang/Math") (by decide +kernel)) (hts (.code Lib.Math.max.name Lib.Math.max.code 2 (some .int)) (by decide +kernel)) (Nat.le_of_ble_eq_true rfl) (Nat.le_of_ble_eq_true rfl) (Nat.zero_le _) (Nat.zero_le _) dX8_begin_7 ?_
  refine nq_top (z := 0) (by decide) ?_
  refine lv_istore_n (lv' := [(3, .int 0), (0, .ref tk), (1, .ref tp), (2, .int 0)]) hx hb dX8_begin_10 rfl hl (by decide) rfl (fun ls hl => ?_)
  refine lv_aload_n hx hb dX8_begin_11 rfl (lv_at hl 1 rfl) ?_
  refine lv_iconst (v := 0) hx hb dX8_begin_12 (by decide) ?_
  refine va_put (D := G) (ci := 8) (v := .int 0) (ty := .int) (C := RX8) (T := TX8) (N := 9) hx hb hts inX8 tyX8 tyX8_ok nmX8 hown hK.1 hP hD hS 0 rfl rfl 4 (by decide) (hts (.fieldLink RX8 37 "NestQuery$Tokens" "found" "I") (by decide +kernel)) (fun _ h9 => h9) rfl (by decide +kernel) rfl rfl (Nat.le_of_ble_eq_true rfl) dX8_begin_13 (fun H locs hP hD hS => ?_)
  have hP : va_P G vwCl [(tk, .inr (8, [.ref tk1, .ref tk2, .ref tk3, .ref tk4, .int 0, .int 0, .int 0, .int 0, .int (-1)])), (tk1, .inl (y 0, 401, .inl (fun _ => 0))), (tk2, .inl (y 0, 401, .inl (fun _ => 0))), (tk3, .inl (y 0, 401, .inl (fun _ => 0))), (tk4, .inl (y 0, 401, .inl (fun _ => 0))), (tp, .inl (y 0, 400, .inl f))] H := hP
  have hD : va_D A [(tk, .inr (8, [.ref tk1, .ref tk2, .ref tk3, .ref tk4, .int 0, .int 0, .int 0, .int 0, .int (-1)])), (tk1, .inl (y 0, 401, .inl (fun _ => 0))), (tk2, .inl (y 0, 401, .inl (fun _ => 0))), (tk3, .inl (y 0, 401, .inl (fun _ => 0))), (tk4, .inl (y 0, 401, .inl (fun _ => 0))), (tp, .inl (y 0, 400, .inl f))] := hD
  refine lv_iconst (v := 0) hx hb dX8_begin_16 (by decide) ?_
  refine lv_istore (lv' := [(4, .int 0), (3, .int 0), (0, .ref tk), (1, .ref tp), (2, .int 0)]) hx hb dX8_begin_17 hl (by decide) rfl (fun ls hl => ?_)
  refine lv_iconst (v := 0) hx hb dX8_begin_19 (by decide) ?_
  refine lv_istore (lv' := [(5, .int 0), (4, .int 0), (3, .int 0), (0, .ref tk), (1, .ref tp), (2, .int 0)]) hx hb dX8_begin_20 hl (by decide) rfl (fun ls hl => ?_)
  refine lv_iload hx hb dX8_begin_22 (lv_at hl 0 rfl) ?_
  refine lv_iload_n hx hb dX8_begin_24 rfl (lv_at hl 2 rfl) ?_
  refine lv_icmp_gt (tgt := 186) hx hb dX8_begin_25 (by decide) (fun c_1 => absurd c_1 (by decide)) (fun _ => ?_)
  refine lv_iload hx hb dX8_begin_28 (lv_at hl 1 rfl) ?_
  refine lv_iload_n hx hb dX8_begin_30 rfl (lv_at hl 2 rfl) ?_
  refine lv_icmp_ge (tgt := 186) hx hb dX8_begin_31 (by decide) (fun _ => ?_) (fun c_2 => absurd c_2 (by decide))
  refine lv_aload_n hx hb dX8_begin_186 rfl (lv_at hl 3 rfl) ?_
  refine lv_sipush (v := 259) hx hb dX8_begin_187 (by decide) ?_
  refine lv_iload_n hx hb dX8_begin_190 rfl (lv_at hl 2 rfl) ?_
  refine lv_iconst (v := 0) hx hb dX8_begin_191 (by decide) ?_
  refine lv_iconst (v := 0) hx hb dX8_begin_192 (by decide) ?_
  refine nq_wrv (wr := [(tp, .inl (y 0, 400, .inl f))]) (va_runV (As := [.int 259, .int 0, .int 0, .int 0]) (rest := []) ⟨hx, hb, hml, hown, hts⟩ (c_addToken l G y H.size tk tk1 tk2 tk3 tk4 ) (cwV 4 hts gX8_begin_X8_addToken rfl rfl rfl (by decide +kernel) ⟨Nat.le_of_ble_eq_true rfl, Nat.le_of_ble_eq_true rfl⟩) (nq_PV hK hP hD [0, 1, 2, 3, 4] rfl rfl 0 rfl rfl) rfl rfl hl.1 rfl (lv_room (Nat.le_of_ble_eq_true rfl)) dX8_begin_193 ⟨Nat.le_of_ble_eq_true rfl, Nat.le_of_ble_eq_true rfl⟩) hP hD hS hA [0, 1, 2, 3, 4] [5] rfl rfl (by decide) (by decide) (fun u_3 H locs hw_4 hP hD hS => ?_)
  have hP : va_P G vwCl [(tp, .inl (y 0, 400, .inl f)), (tk, .inr (8, [.ref tk1, .ref tk2, .ref tk3, .ref tk4, .int 1, .int 0, .int 0, .int 0, .int (-1)])), (tk1, .inl (y 0, 401, .inl (upd (fun _ => 0) 0 259))), (tk2, .inl (y 0, 401, .inl (upd (fun _ => 0) 0 0))), (tk3, .inl (y 0, 401, .inl (upd (fun _ => 0) 0 0))), (tk4, .inl (y 0, 401, .inl (upd (fun _ => 0) 0 0)))] H := hP
  have hD : va_D A [(tp, .inl (y 0, 400, .inl f)), (tk, .inr (8, [.ref tk1, .ref tk2, .ref tk3, .ref tk4, .int 1, .int 0, .int 0, .int 0, .int (-1)])), (tk1, .inl (y 0, 401, .inl (upd (fun _ => 0) 0 259))), (tk2, .inl (y 0, 401, .inl (upd (fun _ => 0) 0 0))), (tk3, .inl (y 0, 401, .inl (upd (fun _ => 0) 0 0))), (tk4, .inl (y 0, 401, .inl (upd (fun _ => 0) 0 0)))] := hD
  refine lv_aload_n hx hb dX8_begin_196 rfl (lv_at hl 3 rfl) ?_
  refine lv_iconst (v := 0) hx hb dX8_begin_197 (by decide) ?_
  refine va_put (D := G) (ci := 8) (v := .int 0) (ty := .int) (C := RX8) (T := TX8) (N := 9) hx hb hts inX8 tyX8 tyX8_ok nmX8 hown hK.1 hP hD hS 1 rfl rfl 7 (by decide) (hts (.fieldLink RX8 58 "NestQuery$Tokens" "fault" "I") (by decide +kernel)) (fun _ h9 => h9) rfl (by decide +kernel) rfl rfl (Nat.le_of_ble_eq_true rfl) dX8_begin_198 (fun H locs hP hD hS => ?_)
  have hP : va_P G vwCl [(tp, .inl (y 0, 400, .inl f)), (tk, .inr (8, [.ref tk1, .ref tk2, .ref tk3, .ref tk4, .int 1, .int 0, .int 0, .int 0, .int (-1)])), (tk1, .inl (y 0, 401, .inl (upd (fun _ => 0) 0 259))), (tk2, .inl (y 0, 401, .inl (upd (fun _ => 0) 0 0))), (tk3, .inl (y 0, 401, .inl (upd (fun _ => 0) 0 0))), (tk4, .inl (y 0, 401, .inl (upd (fun _ => 0) 0 0)))] H := hP
  have hD : va_D A [(tp, .inl (y 0, 400, .inl f)), (tk, .inr (8, [.ref tk1, .ref tk2, .ref tk3, .ref tk4, .int 1, .int 0, .int 0, .int 0, .int (-1)])), (tk1, .inl (y 0, 401, .inl (upd (fun _ => 0) 0 259))), (tk2, .inl (y 0, 401, .inl (upd (fun _ => 0) 0 0))), (tk3, .inl (y 0, 401, .inl (upd (fun _ => 0) 0 0))), (tk4, .inl (y 0, 401, .inl (upd (fun _ => 0) 0 0)))] := hD
  refine lv_aload_n hx hb dX8_begin_201 rfl (lv_at hl 3 rfl) ?_
  refine lv_iconst (v := (-1)) hx hb dX8_begin_202 (by decide) ?_
  refine va_put (D := G) (ci := 8) (v := .int (-1)) (ty := .int) (C := RX8) (T := TX8) (N := 9) hx hb hts inX8 tyX8 tyX8_ok nmX8 hown hK.1 hP hD hS 1 rfl rfl 8 (by decide) (hts (.fieldLink RX8 24 "NestQuery$Tokens" "faultPlace" "I") (by decide +kernel)) (fun _ h9 => h9) rfl (by decide +kernel) rfl rfl (Nat.le_of_ble_eq_true rfl) dX8_begin_203 (fun H locs hP hD hS => ?_)
  have hP : va_P G vwCl [(tp, .inl (y 0, 400, .inl f)), (tk, .inr (8, [.ref tk1, .ref tk2, .ref tk3, .ref tk4, .int 1, .int 0, .int 0, .int 0, .int (-1)])), (tk1, .inl (y 0, 401, .inl (upd (fun _ => 0) 0 259))), (tk2, .inl (y 0, 401, .inl (upd (fun _ => 0) 0 0))), (tk3, .inl (y 0, 401, .inl (upd (fun _ => 0) 0 0))), (tk4, .inl (y 0, 401, .inl (upd (fun _ => 0) 0 0)))] H := hP
  have hD : va_D A [(tp, .inl (y 0, 400, .inl f)), (tk, .inr (8, [.ref tk1, .ref tk2, .ref tk3, .ref tk4, .int 1, .int 0, .int 0, .int 0, .int (-1)])), (tk1, .inl (y 0, 401, .inl (upd (fun _ => 0) 0 259))), (tk2, .inl (y 0, 401, .inl (upd (fun _ => 0) 0 0))), (tk3, .inl (y 0, 401, .inl (upd (fun _ => 0) 0 0))), (tk4, .inl (y 0, 401, .inl (upd (fun _ => 0) 0 0)))] := hD
  refine lv_aload_n hx hb dX8_begin_206 rfl (lv_at hl 3 rfl) ?_
  refine lv_iconst (v := 0) hx hb dX8_begin_207 (by decide) ?_
  refine va_put (D := G) (ci := 8) (v := .int 0) (ty := .int) (C := RX8) (T := TX8) (N := 9) hx hb hts inX8 tyX8 tyX8_ok nmX8 hown hK.1 hP hD hS 1 rfl rfl 5 (by decide) (hts (.fieldLink RX8 61 "NestQuery$Tokens" "at" "I") (by decide +kernel)) (fun _ h9 => h9) rfl (by decide +kernel) rfl rfl (Nat.le_of_ble_eq_true rfl) dX8_begin_208 (fun H locs hP hD hS => ?_)
  have hP : va_P G vwCl [(tp, .inl (y 0, 400, .inl f)), (tk, .inr (8, [.ref tk1, .ref tk2, .ref tk3, .ref tk4, .int 1, .int 0, .int 0, .int 0, .int (-1)])), (tk1, .inl (y 0, 401, .inl (upd (fun _ => 0) 0 259))), (tk2, .inl (y 0, 401, .inl (upd (fun _ => 0) 0 0))), (tk3, .inl (y 0, 401, .inl (upd (fun _ => 0) 0 0))), (tk4, .inl (y 0, 401, .inl (upd (fun _ => 0) 0 0)))] H := hP
  have hD : va_D A [(tp, .inl (y 0, 400, .inl f)), (tk, .inr (8, [.ref tk1, .ref tk2, .ref tk3, .ref tk4, .int 1, .int 0, .int 0, .int 0, .int (-1)])), (tk1, .inl (y 0, 401, .inl (upd (fun _ => 0) 0 259))), (tk2, .inl (y 0, 401, .inl (upd (fun _ => 0) 0 0))), (tk3, .inl (y 0, 401, .inl (upd (fun _ => 0) 0 0))), (tk4, .inl (y 0, 401, .inl (upd (fun _ => 0) 0 0)))] := hD
  refine lv_aload_n hx hb dX8_begin_211 rfl (lv_at hl 3 rfl) ?_
  refine lv_aload_n hx hb dX8_begin_212 rfl (lv_at hl 3 rfl) ?_
  refine va_get (D := G) (ci := 8) (v := .ref tk1) (C := RX8) (T := TX8) (N := 9) hx hb hts inX8 hown hK.1 hP 1 rfl rfl 0 (by decide) (hts (.fieldLink RX8 11 "NestQuery$Tokens" "kinds" "[I") (by decide +kernel)) (fun _ h9 => h9) rfl dX8_begin_213 ?_
  refine lv_iconst (v := 0) hx hb dX8_begin_216 (by decide) ?_
  refine va_iald hx hb hK.1 hP 2 0 rfl rfl (i := 0) (nq_in (by decide)) dX8_begin_217 ?_
  refine nq_top (z := 259) (pk_us) ?_
  refine va_put (D := G) (ci := 8) (v := .int 259) (ty := .int) (C := RX8) (T := TX8) (N := 9) hx hb hts inX8 tyX8 tyX8_ok nmX8 hown hK.1 hP hD hS 1 rfl rfl 6 (by decide) (hts (.fieldLink RX8 64 "NestQuery$Tokens" "kind" "I") (by decide +kernel)) (fun _ h9 => h9) rfl (by decide +kernel) rfl rfl (Nat.le_of_ble_eq_true rfl) dX8_begin_218 (fun H locs hP hD hS => ?_)
  have hP : va_P G vwCl [(tp, .inl (y 0, 400, .inl f)), (tk, .inr (8, [.ref tk1, .ref tk2, .ref tk3, .ref tk4, .int 1, .int 0, .int 259, .int 0, .int (-1)])), (tk1, .inl (y 0, 401, .inl (upd (fun _ => 0) 0 259))), (tk2, .inl (y 0, 401, .inl (upd (fun _ => 0) 0 0))), (tk3, .inl (y 0, 401, .inl (upd (fun _ => 0) 0 0))), (tk4, .inl (y 0, 401, .inl (upd (fun _ => 0) 0 0)))] H := hP
  have hD : va_D A [(tp, .inl (y 0, 400, .inl f)), (tk, .inr (8, [.ref tk1, .ref tk2, .ref tk3, .ref tk4, .int 1, .int 0, .int 259, .int 0, .int (-1)])), (tk1, .inl (y 0, 401, .inl (upd (fun _ => 0) 0 259))), (tk2, .inl (y 0, 401, .inl (upd (fun _ => 0) 0 0))), (tk3, .inl (y 0, 401, .inl (upd (fun _ => 0) 0 0))), (tk4, .inl (y 0, 401, .inl (upd (fun _ => 0) 0 0)))] := hD
  have hP9 := hP.sub (ws' := [(tk, .inr (8, [.ref tk1, .ref tk2, .ref tk3, .ref tk4, .int 1, .int 0, .int 259, .int 0, .int (-1)])), (tk2, .inl (y 0, 401, .inl (upd (fun _ => 0) 0 0)))]) [1, 3] rfl
  have hD9 := hD.sub (ws' := [(tk, .inr (8, [.ref tk1, .ref tk2, .ref tk3, .ref tk4, .int 1, .int 0, .int 259, .int 0, .int (-1)])), (tk2, .inl (y 0, 401, .inl (upd (fun _ => 0) 0 0)))]) [1, 3] (by decide) rfl
  refine W.widen (k := 0) (n := 0) (Nat.le_of_ble_eq_true rfl) (Nat.le_of_ble_eq_true rfl) ?_
  exact W.vret hx hb hr (fun t ht hW => ⟨⟨(), rfl, trivial, by rw [ht]; exact hP9, by first | exact hD9 | (rw [hAe]; exact hD9)⟩, hS.F ht⟩) hS.2.2 dX8_begin_221

set_option maxHeartbeats 400000 in
set_option maxRecDepth 100000 in
theorem c_fail_a (l : Launch) (G : va_G) (y : Nat → ClassId) (sz : Nat) (tk : Nat) (tk1 : Nat) (tk2 : Nat) (tk3 : Nat) (tk4 : Nat)  : Met l yX8_fail wsX8_fail ({ frames := 0, cells := 0, slots := 0, locals := 0 }) (nq_P G y sz [.ref tk, .int 1] [(tk, .inr (8, [.ref tk1, .ref tk2, .ref tk3, .ref tk4, .int 1, .int 0, .int 259, .int 0, .int (-1)])), (tk2, .inl (y 0, 401, .inl (upd (fun _ => 0) 0 0)))]) (va_Qv (fun (_ : Unit) => True) (fun (u : Unit) t9 => va_P G vwCl ([(tk, .inr (8, [.ref tk1, .ref tk2, .ref tk3, .ref tk4, .int 1, .int 0, .int 260, .int 1, .int 0])), (tk2, .inl (y 0, 401, .inl (upd (fun _ => 0) 0 0)))]) t9.heap ∧ va_D (va_A [(tk, .inr (8, [.ref tk1, .ref tk2, .ref tk3, .ref tk4, .int 1, .int 0, .int 259, .int 0, .int (-1)])), (tk2, .inl (y 0, 401, .inl (upd (fun _ => 0) 0 0)))] sz) ([(tk, .inr (8, [.ref tk1, .ref tk2, .ref tk3, .ref tk4, .int 1, .int 0, .int 260, .int 1, .int 0])), (tk2, .inl (y 0, 401, .inl (upd (fun _ => 0) 0 0)))])) (va_A [(tk, .inr (8, [.ref tk1, .ref tk2, .ref tk3, .ref tk4, .int 1, .int 0, .int 259, .int 0, .int (-1)])), (tk2, .inl (y 0, 401, .inl (upd (fun _ => 0) 0 0)))] sz)) 0 0 (va_A [(tk, .inr (8, [.ref tk1, .ref tk2, .ref tk3, .ref tk4, .int 1, .int 0, .int 259, .int 0, .int (-1)])), (tk2, .inl (y 0, 401, .inl (upd (fun _ => 0) 0 0)))] sz) := by
  refine Met.ofW (cc := cX8_fail) (maxL := 2) (ret := none) (by decide) rfl ?_
  intro p e s m args below meth c s₁ B hml hv
  obtain ⟨rfl, hsz, hP, hK, hD0⟩ := hv
  have hx := B.exec
  have hb := B.bytes
  have hr := B.returns
  have hts := atoms_spec (ws := wsX8_fail) B.pre
  have hown : s.vm.findClass RX8 = some m.cls := findClass_of_methodNamed B.named
  have hlocks := B.notSynchronized
  subst hsz
  have hD := hD0.self (sz := s.heap.size)
  generalize hAe : va_A [(tk, .inr (8, [.ref tk1, .ref tk2, .ref tk3, .ref tk4, .int 1, .int 0, .int 259, .int 0, .int (-1)])), (tk2, .inl (y 0, 401, .inl (upd (fun _ => 0) 0 0)))] s.heap.size = A at hD ⊢
  have hA : ∀ q : Nat, s.heap.size ≤ q → A q := fun q h => by rw [← hAe]; exact Or.inr h
  have hS : va_S A s.heap s.heap [] := va_S.rf
  have hP : va_P G vwCl [(tk, .inr (8, [.ref tk1, .ref tk2, .ref tk3, .ref tk4, .int 1, .int 0, .int 259, .int 0, .int (-1)])), (tk2, .inl (y 0, 401, .inl (upd (fun _ => 0) 0 0)))] s.heap := hP
  have inX8 : ∀ w ∈ wsX80, w ∈ wsX8_fail := by decide +kernel
  have hl := lv_entry ([.ref tk, .int 1]) (n := 2) (Nat.le_of_ble_eq_true rfl)
  rw [lg_entry_eq]
  generalize (lg_sl ([.ref tk, .int 1]) ++ List.replicate (2 - (lg_sl ([.ref tk, .int 1])).length) Slot.unset).toArray = ls at hl ⊢
  have hl : lv_has ls 2 [(0, .ref tk), (1, .int 1)] := hl
  refine lv_aload_n hx hb dX8_fail_0 rfl (lv_at hl 0 rfl) ?_
  refine va_get (D := G) (ci := 8) (v := .int 0) (C := RX8) (T := TX8) (N := 9) hx hb hts inX8 hown hK.1 hP 0 rfl rfl 7 (by decide) (hts (.fieldLink RX8 58 "NestQuery$Tokens" "fault" "I") (by decide +kernel)) (fun _ h9 => h9) rfl dX8_fail_1 ?_
  refine lv_if_ne (tgt := 42) hx hb dX8_fail_4 (by decide) (fun c_1 => absurd c_1 (by decide)) (fun _ => ?_)
  refine lv_aload_n hx hb dX8_fail_7 rfl (lv_at hl 0 rfl) ?_
  refine va_get (D := G) (ci := 8) (v := .int 0) (C := RX8) (T := TX8) (N := 9) hx hb hts inX8 hown hK.1 hP 0 rfl rfl 5 (by decide) (hts (.fieldLink RX8 61 "NestQuery$Tokens" "at" "I") (by decide +kernel)) (fun _ h9 => h9) rfl dX8_fail_8 ?_
  refine lv_if_lt (tgt := 42) hx hb dX8_fail_11 (by decide) (fun c_2 => absurd c_2 (by decide)) (fun _ => ?_)
  refine lv_aload_n hx hb dX8_fail_14 rfl (lv_at hl 0 rfl) ?_
  refine va_get (D := G) (ci := 8) (v := .int 0) (C := RX8) (T := TX8) (N := 9) hx hb hts inX8 hown hK.1 hP 0 rfl rfl 5 (by decide) (hts (.fieldLink RX8 61 "NestQuery$Tokens" "at" "I") (by decide +kernel)) (fun _ h9 => h9) rfl dX8_fail_15 ?_
  refine lv_sipush (v := 401) hx hb dX8_fail_18 (by decide) ?_
  refine lv_icmp_ge (tgt := 42) hx hb dX8_fail_21 (by decide) (fun c_3 => absurd c_3 (by decide)) (fun _ => ?_)
  refine lv_aload_n hx hb dX8_fail_24 rfl (lv_at hl 0 rfl) ?_
  refine lv_iload_n hx hb dX8_fail_25 rfl (lv_at hl 1 rfl) ?_
  refine va_put (D := G) (ci := 8) (v := .int 1) (ty := .int) (C := RX8) (T := TX8) (N := 9) hx hb hts inX8 tyX8 tyX8_ok nmX8 hown hK.1 hP hD hS 0 rfl rfl 7 (by decide) (hts (.fieldLink RX8 58 "NestQuery$Tokens" "fault" "I") (by decide +kernel)) (fun _ h9 => h9) rfl (by decide +kernel) rfl rfl (Nat.le_of_ble_eq_true rfl) dX8_fail_26 (fun H locs hP hD hS => ?_)
  have hP : va_P G vwCl [(tk, .inr (8, [.ref tk1, .ref tk2, .ref tk3, .ref tk4, .int 1, .int 0, .int 259, .int 1, .int (-1)])), (tk2, .inl (y 0, 401, .inl (upd (fun _ => 0) 0 0)))] H := hP
  have hD : va_D A [(tk, .inr (8, [.ref tk1, .ref tk2, .ref tk3, .ref tk4, .int 1, .int 0, .int 259, .int 1, .int (-1)])), (tk2, .inl (y 0, 401, .inl (upd (fun _ => 0) 0 0)))] := hD
  refine lv_aload_n hx hb dX8_fail_29 rfl (lv_at hl 0 rfl) ?_
  refine lv_aload_n hx hb dX8_fail_30 rfl (lv_at hl 0 rfl) ?_
  refine va_get (D := G) (ci := 8) (v := .ref tk2) (C := RX8) (T := TX8) (N := 9) hx hb hts inX8 hown hK.1 hP 0 rfl rfl 1 (by decide) (hts (.fieldLink RX8 15 "NestQuery$Tokens" "starts" "[I") (by decide +kernel)) (fun _ h9 => h9) rfl dX8_fail_31 ?_
  refine lv_aload_n hx hb dX8_fail_34 rfl (lv_at hl 0 rfl) ?_
  refine va_get (D := G) (ci := 8) (v := .int 0) (C := RX8) (T := TX8) (N := 9) hx hb hts inX8 hown hK.1 hP 0 rfl rfl 5 (by decide) (hts (.fieldLink RX8 61 "NestQuery$Tokens" "at" "I") (by decide +kernel)) (fun _ h9 => h9) rfl dX8_fail_35 ?_
  refine va_iald hx hb hK.1 hP 1 0 rfl rfl (i := 0) (nq_in (by decide)) dX8_fail_38 ?_
  refine nq_top (z := 0) (pk_us) ?_
  refine va_put (D := G) (ci := 8) (v := .int 0) (ty := .int) (C := RX8) (T := TX8) (N := 9) hx hb hts inX8 tyX8 tyX8_ok nmX8 hown hK.1 hP hD hS 0 rfl rfl 8 (by decide) (hts (.fieldLink RX8 24 "NestQuery$Tokens" "faultPlace" "I") (by decide +kernel)) (fun _ h9 => h9) rfl (by decide +kernel) rfl rfl (Nat.le_of_ble_eq_true rfl) dX8_fail_39 (fun H locs hP hD hS => ?_)
  have hP : va_P G vwCl [(tk, .inr (8, [.ref tk1, .ref tk2, .ref tk3, .ref tk4, .int 1, .int 0, .int 259, .int 1, .int 0])), (tk2, .inl (y 0, 401, .inl (upd (fun _ => 0) 0 0)))] H := hP
  have hD : va_D A [(tk, .inr (8, [.ref tk1, .ref tk2, .ref tk3, .ref tk4, .int 1, .int 0, .int 259, .int 1, .int 0])), (tk2, .inl (y 0, 401, .inl (upd (fun _ => 0) 0 0)))] := hD
  refine lv_aload_n hx hb dX8_fail_42 rfl (lv_at hl 0 rfl) ?_
  refine lv_sipush (v := 260) hx hb dX8_fail_43 (by decide) ?_
  refine va_put (D := G) (ci := 8) (v := .int 260) (ty := .int) (C := RX8) (T := TX8) (N := 9) hx hb hts inX8 tyX8 tyX8_ok nmX8 hown hK.1 hP hD hS 0 rfl rfl 6 (by decide) (hts (.fieldLink RX8 64 "NestQuery$Tokens" "kind" "I") (by decide +kernel)) (fun _ h9 => h9) rfl (by decide +kernel) rfl rfl (Nat.le_of_ble_eq_true rfl) dX8_fail_46 (fun H locs hP hD hS => ?_)
  have hP : va_P G vwCl [(tk, .inr (8, [.ref tk1, .ref tk2, .ref tk3, .ref tk4, .int 1, .int 0, .int 260, .int 1, .int 0])), (tk2, .inl (y 0, 401, .inl (upd (fun _ => 0) 0 0)))] H := hP
  have hD : va_D A [(tk, .inr (8, [.ref tk1, .ref tk2, .ref tk3, .ref tk4, .int 1, .int 0, .int 260, .int 1, .int 0])), (tk2, .inl (y 0, 401, .inl (upd (fun _ => 0) 0 0)))] := hD
  have hP9 := hP.sub (ws' := [(tk, .inr (8, [.ref tk1, .ref tk2, .ref tk3, .ref tk4, .int 1, .int 0, .int 260, .int 1, .int 0])), (tk2, .inl (y 0, 401, .inl (upd (fun _ => 0) 0 0)))]) [0, 1] rfl
  have hD9 := hD.sub (ws' := [(tk, .inr (8, [.ref tk1, .ref tk2, .ref tk3, .ref tk4, .int 1, .int 0, .int 260, .int 1, .int 0])), (tk2, .inl (y 0, 401, .inl (upd (fun _ => 0) 0 0)))]) [0, 1] (by decide) rfl
  refine W.widen (k := 0) (n := 0) (Nat.le_of_ble_eq_true rfl) (Nat.le_of_ble_eq_true rfl) ?_
  exact W.vret hx hb hr (fun t ht hW => ⟨⟨(), rfl, trivial, by rw [ht]; exact hP9, by first | exact hD9 | (rw [hAe]; exact hD9)⟩, hS.F ht⟩) hS.2.2 dX8_fail_49

set_option maxHeartbeats 400000 in
set_option maxRecDepth 100000 in
theorem c_fail_b (l : Launch) (G : va_G) (y : Nat → ClassId) (sz : Nat) (tk : Nat) (tk1 : Nat) (tk2 : Nat) (tk3 : Nat) (tk4 : Nat)  : Met l yX8_fail wsX8_fail ({ frames := 0, cells := 0, slots := 0, locals := 0 }) (nq_P G y sz [.ref tk, .int 1] [(tk, .inr (8, [.ref tk1, .ref tk2, .ref tk3, .ref tk4, .int 1, .int 0, .int 260, .int 1, .int 0])), (tk2, .inl (y 0, 401, .inl (upd (fun _ => 0) 0 0)))]) (va_Qv (fun (_ : Unit) => True) (fun (u : Unit) t9 => va_P G vwCl ([(tk, .inr (8, [.ref tk1, .ref tk2, .ref tk3, .ref tk4, .int 1, .int 0, .int 260, .int 1, .int 0]))]) t9.heap ∧ va_D (va_A [(tk, .inr (8, [.ref tk1, .ref tk2, .ref tk3, .ref tk4, .int 1, .int 0, .int 260, .int 1, .int 0])), (tk2, .inl (y 0, 401, .inl (upd (fun _ => 0) 0 0)))] sz) ([(tk, .inr (8, [.ref tk1, .ref tk2, .ref tk3, .ref tk4, .int 1, .int 0, .int 260, .int 1, .int 0]))])) (va_A [(tk, .inr (8, [.ref tk1, .ref tk2, .ref tk3, .ref tk4, .int 1, .int 0, .int 260, .int 1, .int 0])), (tk2, .inl (y 0, 401, .inl (upd (fun _ => 0) 0 0)))] sz)) 0 0 (va_A [(tk, .inr (8, [.ref tk1, .ref tk2, .ref tk3, .ref tk4, .int 1, .int 0, .int 260, .int 1, .int 0])), (tk2, .inl (y 0, 401, .inl (upd (fun _ => 0) 0 0)))] sz) := by
  refine Met.ofW (cc := cX8_fail) (maxL := 2) (ret := none) (by decide) rfl ?_
  intro p e s m args below meth c s₁ B hml hv
  obtain ⟨rfl, hsz, hP, hK, hD0⟩ := hv
  have hx := B.exec
  have hb := B.bytes
  have hr := B.returns
  have hts := atoms_spec (ws := wsX8_fail) B.pre
  have hown : s.vm.findClass RX8 = some m.cls := findClass_of_methodNamed B.named
  have hlocks := B.notSynchronized
  subst hsz
  have hD := hD0.self (sz := s.heap.size)
  generalize hAe : va_A [(tk, .inr (8, [.ref tk1, .ref tk2, .ref tk3, .ref tk4, .int 1, .int 0, .int 260, .int 1, .int 0])), (tk2, .inl (y 0, 401, .inl (upd (fun _ => 0) 0 0)))] s.heap.size = A at hD ⊢
  have hA : ∀ q : Nat, s.heap.size ≤ q → A q := fun q h => by rw [← hAe]; exact Or.inr h
  have hS : va_S A s.heap s.heap [] := va_S.rf
  have hP : va_P G vwCl [(tk, .inr (8, [.ref tk1, .ref tk2, .ref tk3, .ref tk4, .int 1, .int 0, .int 260, .int 1, .int 0])), (tk2, .inl (y 0, 401, .inl (upd (fun _ => 0) 0 0)))] s.heap := hP
  have inX8 : ∀ w ∈ wsX80, w ∈ wsX8_fail := by decide +kernel
  have hl := lv_entry ([.ref tk, .int 1]) (n := 2) (Nat.le_of_ble_eq_true rfl)
  rw [lg_entry_eq]
  generalize (lg_sl ([.ref tk, .int 1]) ++ List.replicate (2 - (lg_sl ([.ref tk, .int 1])).length) Slot.unset).toArray = ls at hl ⊢
  have hl : lv_has ls 2 [(0, .ref tk), (1, .int 1)] := hl
  refine lv_aload_n hx hb dX8_fail_0 rfl (lv_at hl 0 rfl) ?_
  refine va_get (D := G) (ci := 8) (v := .int 1) (C := RX8) (T := TX8) (N := 9) hx hb hts inX8 hown hK.1 hP 0 rfl rfl 7 (by decide) (hts (.fieldLink RX8 58 "NestQuery$Tokens" "fault" "I") (by decide +kernel)) (fun _ h9 => h9) rfl dX8_fail_1 ?_
  refine lv_if_ne (tgt := 42) hx hb dX8_fail_4 (by decide) (fun _ => ?_) (fun c_1 => absurd c_1 (by decide))
  refine lv_aload_n hx hb dX8_fail_42 rfl (lv_at hl 0 rfl) ?_
  refine lv_sipush (v := 260) hx hb dX8_fail_43 (by decide) ?_
  refine va_put (D := G) (ci := 8) (v := .int 260) (ty := .int) (C := RX8) (T := TX8) (N := 9) hx hb hts inX8 tyX8 tyX8_ok nmX8 hown hK.1 hP hD hS 0 rfl rfl 6 (by decide) (hts (.fieldLink RX8 64 "NestQuery$Tokens" "kind" "I") (by decide +kernel)) (fun _ h9 => h9) rfl (by decide +kernel) rfl rfl (Nat.le_of_ble_eq_true rfl) dX8_fail_46 (fun H locs hP hD hS => ?_)
  have hP : va_P G vwCl [(tk, .inr (8, [.ref tk1, .ref tk2, .ref tk3, .ref tk4, .int 1, .int 0, .int 260, .int 1, .int 0])), (tk2, .inl (y 0, 401, .inl (upd (fun _ => 0) 0 0)))] H := hP
  have hD : va_D A [(tk, .inr (8, [.ref tk1, .ref tk2, .ref tk3, .ref tk4, .int 1, .int 0, .int 260, .int 1, .int 0])), (tk2, .inl (y 0, 401, .inl (upd (fun _ => 0) 0 0)))] := hD
  have hP9 := hP.sub (ws' := [(tk, .inr (8, [.ref tk1, .ref tk2, .ref tk3, .ref tk4, .int 1, .int 0, .int 260, .int 1, .int 0]))]) [0] rfl
  have hD9 := hD.sub (ws' := [(tk, .inr (8, [.ref tk1, .ref tk2, .ref tk3, .ref tk4, .int 1, .int 0, .int 260, .int 1, .int 0]))]) [0] (by decide) rfl
  refine W.widen (k := 0) (n := 0) (Nat.le_of_ble_eq_true rfl) (Nat.le_of_ble_eq_true rfl) ?_
  exact W.vret hx hb hr (fun t ht hW => ⟨⟨(), rfl, trivial, by rw [ht]; exact hP9, by first | exact hD9 | (rw [hAe]; exact hD9)⟩, hS.F ht⟩) hS.2.2 dX8_fail_49

set_option maxHeartbeats 400000 in
set_option maxRecDepth 100000 in
theorem c_Tree_clear (l : Launch) (G : va_G) (y : Nat → ClassId) (sz : Nat) (da : Nat) (dak : Nat) (dav : Nat) (dae : Nat) (dad : Nat)  : Met l yX9_clear wsX9_clear ({ frames := 0, cells := 0, slots := 0, locals := 0 }) (nq_P G y sz [.ref da] [(da, .inr (9, [.ref dak, .ref dav, .ref dae, .ref dad, .int 0]))]) (va_Qv (fun (_ : Unit) => True) (fun (u : Unit) t9 => va_P G vwCl ([(da, .inr (9, [.ref dak, .ref dav, .ref dae, .ref dad, .int 0]))]) t9.heap ∧ va_D (va_A [(da, .inr (9, [.ref dak, .ref dav, .ref dae, .ref dad, .int 0]))] sz) ([(da, .inr (9, [.ref dak, .ref dav, .ref dae, .ref dad, .int 0]))])) (va_A [(da, .inr (9, [.ref dak, .ref dav, .ref dae, .ref dad, .int 0]))] sz)) 0 0 (va_A [(da, .inr (9, [.ref dak, .ref dav, .ref dae, .ref dad, .int 0]))] sz) := by
  refine Met.ofW (cc := cX9_clear) (maxL := 1) (ret := none) (by decide) rfl ?_
  intro p e s m args below meth c s₁ B hml hv
  obtain ⟨rfl, hsz, hP, hK, hD0⟩ := hv
  have hx := B.exec
  have hb := B.bytes
  have hr := B.returns
  have hts := atoms_spec (ws := wsX9_clear) B.pre
  have hown : s.vm.findClass RX9 = some m.cls := findClass_of_methodNamed B.named
  have hlocks := B.notSynchronized
  subst hsz
  have hD := hD0.self (sz := s.heap.size)
  generalize hAe : va_A [(da, .inr (9, [.ref dak, .ref dav, .ref dae, .ref dad, .int 0]))] s.heap.size = A at hD ⊢
  have hA : ∀ q : Nat, s.heap.size ≤ q → A q := fun q h => by rw [← hAe]; exact Or.inr h
  have hS : va_S A s.heap s.heap [] := va_S.rf
  have hP : va_P G vwCl [(da, .inr (9, [.ref dak, .ref dav, .ref dae, .ref dad, .int 0]))] s.heap := hP
  have inX9 : ∀ w ∈ wsX90, w ∈ wsX9_clear := by decide +kernel
  have hl := lv_entry ([.ref da]) (n := 1) (Nat.le_of_ble_eq_true rfl)
  rw [lg_entry_eq]
  generalize (lg_sl ([.ref da]) ++ List.replicate (1 - (lg_sl ([.ref da])).length) Slot.unset).toArray = ls at hl ⊢
  have hl : lv_has ls 1 [(0, .ref da)] := hl
  refine lv_aload_n hx hb dX9_clear_0 rfl (lv_at hl 0 rfl) ?_
  refine lv_iconst (v := 0) hx hb dX9_clear_1 (by decide) ?_
  refine va_put (D := G) (ci := 9) (v := .int 0) (ty := .int) (C := RX9) (T := TX9) (N := 5) hx hb hts inX9 tyX9 tyX9_ok nmX9 hown hK.1 hP hD hS 0 rfl rfl 4 (by decide) (hts (.fieldLink RX9 24 "NestQuery$Tree" "size" "I") (by decide +kernel)) (fun _ h9 => h9) rfl (by decide +kernel) rfl rfl (Nat.le_of_ble_eq_true rfl) dX9_clear_2 (fun H locs hP hD hS => ?_)
  have hP : va_P G vwCl [(da, .inr (9, [.ref dak, .ref dav, .ref dae, .ref dad, .int 0]))] H := hP
  have hD : va_D A [(da, .inr (9, [.ref dak, .ref dav, .ref dae, .ref dad, .int 0]))] := hD
  have hP9 := hP.sub (ws' := [(da, .inr (9, [.ref dak, .ref dav, .ref dae, .ref dad, .int 0]))]) [0] rfl
  have hD9 := hD.sub (ws' := [(da, .inr (9, [.ref dak, .ref dav, .ref dae, .ref dad, .int 0]))]) [0] (by decide) rfl
  refine W.widen (k := 0) (n := 0) (Nat.le_of_ble_eq_true rfl) (Nat.le_of_ble_eq_true rfl) ?_
  exact W.vret hx hb hr (fun t ht hW => ⟨⟨(), rfl, trivial, by rw [ht]; exact hP9, by first | exact hD9 | (rw [hAe]; exact hD9)⟩, hS.F ht⟩) hS.2.2 dX9_clear_5

set_option maxHeartbeats 400000 in
set_option maxRecDepth 100000 in
theorem c_readThing (l : Launch) (G : va_G) (y : Nat → ClassId) (sz : Nat) (dr : Nat) (tk : Nat) (tk1 : Nat) (tk2 : Nat) (tk3 : Nat) (tk4 : Nat) (da : Nat) (dak : Nat) (dav : Nat) (dae : Nat) (dad : Nat)  : Met l yX1_readThing wsX1_readThing ({ frames := 1, cells := 0, slots := 0, locals := 21 }) (nq_P G y sz [.ref dr, .ref da, .int 0, .int 0] [(dr, .inr (1, [.ref tk])), (tk, .inr (8, [.ref tk1, .ref tk2, .ref tk3, .ref tk4, .int 1, .int 0, .int 259, .int 0, .int (-1)])), (tk2, .inl (y 0, 401, .inl (upd (fun _ => 0) 0 0))), (da, .inr (9, [.ref dak, .ref dav, .ref dae, .ref dad, .int 0]))]) (va_Qv (fun (_ : Unit) => True) (fun (u : Unit) t9 => va_P G vwCl ([(dr, .inr (1, [.ref tk])), (tk, .inr (8, [.ref tk1, .ref tk2, .ref tk3, .ref tk4, .int 1, .int 0, .int 260, .int 1, .int 0])), (tk2, .inl (y 0, 401, .inl (upd (fun _ => 0) 0 0)))]) t9.heap ∧ va_D (va_A [(dr, .inr (1, [.ref tk])), (tk, .inr (8, [.ref tk1, .ref tk2, .ref tk3, .ref tk4, .int 1, .int 0, .int 259, .int 0, .int (-1)])), (tk2, .inl (y 0, 401, .inl (upd (fun _ => 0) 0 0))), (da, .inr (9, [.ref dak, .ref dav, .ref dae, .ref dad, .int 0]))] sz) ([(dr, .inr (1, [.ref tk])), (tk, .inr (8, [.ref tk1, .ref tk2, .ref tk3, .ref tk4, .int 1, .int 0, .int 260, .int 1, .int 0])), (tk2, .inl (y 0, 401, .inl (upd (fun _ => 0) 0 0)))])) (va_A [(dr, .inr (1, [.ref tk])), (tk, .inr (8, [.ref tk1, .ref tk2, .ref tk3, .ref tk4, .int 1, .int 0, .int 259, .int 0, .int (-1)])), (tk2, .inl (y 0, 401, .inl (upd (fun _ => 0) 0 0))), (da, .inr (9, [.ref dak, .ref dav, .ref dae, .ref dad, .int 0]))] sz)) 0 0 (va_A [(dr, .inr (1, [.ref tk])), (tk, .inr (8, [.ref tk1, .ref tk2, .ref tk3, .ref tk4, .int 1, .int 0, .int 259, .int 0, .int (-1)])), (tk2, .inl (y 0, 401, .inl (upd (fun _ => 0) 0 0))), (da, .inr (9, [.ref dak, .ref dav, .ref dae, .ref dad, .int 0]))] sz) := by
  refine Met.ofW (cc := cX1_readThing) (maxL := 4) (ret := none) (by decide) rfl ?_
  intro p e s m args below meth c s₁ B hml hv
  obtain ⟨rfl, hsz, hP, hK, hD0⟩ := hv
  have hx := B.exec
  have hb := B.bytes
  have hr := B.returns
  have hts := atoms_spec (ws := wsX1_readThing) B.pre
  have hown : s.vm.findClass RX1 = some m.cls := findClass_of_methodNamed B.named
  have hlocks := B.notSynchronized
  subst hsz
  have hD := hD0.self (sz := s.heap.size)
  generalize hAe : va_A [(dr, .inr (1, [.ref tk])), (tk, .inr (8, [.ref tk1, .ref tk2, .ref tk3, .ref tk4, .int 1, .int 0, .int 259, .int 0, .int (-1)])), (tk2, .inl (y 0, 401, .inl (upd (fun _ => 0) 0 0))), (da, .inr (9, [.ref dak, .ref dav, .ref dae, .ref dad, .int 0]))] s.heap.size = A at hD ⊢
  have hA : ∀ q : Nat, s.heap.size ≤ q → A q := fun q h => by rw [← hAe]; exact Or.inr h
  have hS : va_S A s.heap s.heap [] := va_S.rf
  have hP : va_P G vwCl [(dr, .inr (1, [.ref tk])), (tk, .inr (8, [.ref tk1, .ref tk2, .ref tk3, .ref tk4, .int 1, .int 0, .int 259, .int 0, .int (-1)])), (tk2, .inl (y 0, 401, .inl (upd (fun _ => 0) 0 0))), (da, .inr (9, [.ref dak, .ref dav, .ref dae, .ref dad, .int 0]))] s.heap := hP
  have inX1 : ∀ w ∈ wsX10, w ∈ wsX1_readThing := by decide +kernel
  have inX8 : ∀ w ∈ wsX80, w ∈ wsX1_readThing := by decide +kernel
  have hl := lv_entry ([.ref dr, .ref da, .int 0, .int 0]) (n := 4) (Nat.le_of_ble_eq_true rfl)
  rw [lg_entry_eq]
  generalize (lg_sl ([.ref dr, .ref da, .int 0, .int 0]) ++ List.replicate (4 - (lg_sl ([.ref dr, .ref da, .int 0, .int 0])).length) Slot.unset).toArray = ls at hl ⊢
  have hl : lv_has ls 4 [(0, .ref dr), (1, .ref da), (2, .int 0), (3, .int 0)] := hl
  refine lv_aload_n hx hb dX1_readThing_0 rfl (lv_at hl 0 rfl) ?_
  refine va_get (D := G) (ci := 1) (v := .ref tk) (C := RX1) (T := TX1) (N := 1) hx hb hts inX1 hown hK.1 hP 0 rfl rfl 0 (by decide) (hts (.fieldLink RX1 9 "NestQuery$DataReader" "tokens" "LNestQuery$Tokens;") (by decide +kernel)) (fun _ h9 => h9) rfl dX1_readThing_1 ?_
  refine va_getN (D := G) (ci := 8) (v := .int 259) (C := RX8) (T := TX8) (N := 9) hx hb hts inX8 hown hK.1 hP 1 rfl rfl 6 (by decide) (nl_4 hK) (fun _ h9 => h9) rfl dX1_readThing_4 ?_
  refine nq_rdi (va_runS (As := [.int 259]) (rest := []) ⟨hx, hb, hml, hown, hts⟩ (c_canBegin l G y s.heap.size  ) (va_cwS 1 hts gX1_readThing_X1_canBegin rfl rfl rfl (by decide +kernel) ⟨Nat.le_of_ble_eq_true rfl, Nat.le_of_ble_eq_true rfl⟩) (nq_PS hK hP hD [] rfl rfl) rfl rfl hl.1 rfl (lv_room (Nat.le_of_ble_eq_true rfl)) dX1_readThing_7 ⟨Nat.le_of_ble_eq_true rfl, Nat.le_of_ble_eq_true rfl⟩) hP hS hA (fun r_1 H locs hw_2 hP hS => ?_)
  subst hw_2
  refine lv_if_ne (tgt := 24) hx hb dX1_readThing_10 (by decide) (fun c_3 => absurd c_3 (by decide)) (fun _ => ?_)
  refine lv_aload_n hx hb dX1_readThing_13 rfl (lv_at hl 0 rfl) ?_
  refine va_get (D := G) (ci := 1) (v := .ref tk) (C := RX1) (T := TX1) (N := 1) hx hb hts inX1 hown hK.1 hP 0 rfl rfl 0 (by decide) (hts (.fieldLink RX1 9 "NestQuery$DataReader" "tokens" "LNestQuery$Tokens;") (by decide +kernel)) (fun _ h9 => h9) rfl dX1_readThing_14 ?_
  refine lv_iconst (v := 1) hx hb dX1_readThing_17 (by decide) ?_
  refine nq_wrv (wr := [(dr, .inr (1, [.ref tk])), (da, .inr (9, [.ref dak, .ref dav, .ref dae, .ref dad, .int 0]))]) (va_runV (As := [.int 1]) (rest := []) ⟨hx, hb, hml, hown, hts⟩ (c_fail_a l G y H.size tk tk1 tk2 tk3 tk4 ) (cwV 1 hts gX1_readThing_X8_fail rfl rfl rfl (by decide +kernel) ⟨Nat.le_of_ble_eq_true rfl, Nat.le_of_ble_eq_true rfl⟩) (nq_PV hK hP hD [1, 2] rfl rfl 1 rfl rfl) rfl rfl hl.1 rfl (lv_room (Nat.le_of_ble_eq_true rfl)) dX1_readThing_18 ⟨Nat.le_of_ble_eq_true rfl, Nat.le_of_ble_eq_true rfl⟩) hP hD hS hA [1, 2] [0, 3] rfl rfl (by decide) (by decide) (fun u_4 H locs hw_5 hP hD hS => ?_)
  have hP : va_P G vwCl [(dr, .inr (1, [.ref tk])), (da, .inr (9, [.ref dak, .ref dav, .ref dae, .ref dad, .int 0])), (tk, .inr (8, [.ref tk1, .ref tk2, .ref tk3, .ref tk4, .int 1, .int 0, .int 260, .int 1, .int 0])), (tk2, .inl (y 0, 401, .inl (upd (fun _ => 0) 0 0)))] H := hP
  have hD : va_D A [(dr, .inr (1, [.ref tk])), (da, .inr (9, [.ref dak, .ref dav, .ref dae, .ref dad, .int 0])), (tk, .inr (8, [.ref tk1, .ref tk2, .ref tk3, .ref tk4, .int 1, .int 0, .int 260, .int 1, .int 0])), (tk2, .inl (y 0, 401, .inl (upd (fun _ => 0) 0 0)))] := hD
  refine lv_goto (tgt := 143) hx hb dX1_readThing_21 (by decide) ?_
  have hP9 := hP.sub (ws' := [(dr, .inr (1, [.ref tk])), (tk, .inr (8, [.ref tk1, .ref tk2, .ref tk3, .ref tk4, .int 1, .int 0, .int 260, .int 1, .int 0])), (tk2, .inl (y 0, 401, .inl (upd (fun _ => 0) 0 0)))]) [0, 2, 3] rfl
  have hD9 := hD.sub (ws' := [(dr, .inr (1, [.ref tk])), (tk, .inr (8, [.ref tk1, .ref tk2, .ref tk3, .ref tk4, .int 1, .int 0, .int 260, .int 1, .int 0])), (tk2, .inl (y 0, 401, .inl (upd (fun _ => 0) 0 0)))]) [0, 2, 3] (by decide) rfl
  refine W.widen (k := 0) (n := 0) (Nat.le_of_ble_eq_true rfl) (Nat.le_of_ble_eq_true rfl) ?_
  exact W.vret hx hb hr (fun t ht hW => ⟨⟨(), rfl, trivial, by rw [ht]; exact hP9, by first | exact hD9 | (rw [hAe]; exact hD9)⟩, hS.F ht⟩) hS.2.2 dX1_readThing_143

set_option maxHeartbeats 400000 in
set_option maxRecDepth 100000 in
theorem c_DataReader_read (l : Launch) (G : va_G) (y : Nat → ClassId) (sz : Nat) (dr : Nat) (tk : Nat) (tk1 : Nat) (tk2 : Nat) (tk3 : Nat) (tk4 : Nat) (tp : Nat) (da : Nat) (dak : Nat) (dav : Nat) (dae : Nat) (dad : Nat) (f : Nat → Int32)  : Met l yX1_read wsX1_read ({ frames := 2, cells := 0, slots := 0, locals := 67 }) (nq_P G y sz [.ref dr, .ref tp, .int 0, .ref da] [(dr, .inr (1, [.ref tk])), (tk, .inr (8, [.ref tk1, .ref tk2, .ref tk3, .ref tk4, .int 0, .int 0, .int 0, .int 0, .int (-1)])), (tk1, .inl (y 0, 401, .inl (fun _ => 0))), (tk2, .inl (y 0, 401, .inl (fun _ => 0))), (tk3, .inl (y 0, 401, .inl (fun _ => 0))), (tk4, .inl (y 0, 401, .inl (fun _ => 0))), (tp, .inl (y 0, 400, .inl f)), (da, .inr (9, [.ref dak, .ref dav, .ref dae, .ref dad, .int 0]))]) (va_Qi (fun (r : Int32) (_ : Unit) => r = 1) (fun (u : Unit) t9 => va_P G vwCl ([(tk, .inr (8, [.ref tk1, .ref tk2, .ref tk3, .ref tk4, .int 1, .int 0, .int 260, .int 1, .int 0]))]) t9.heap ∧ va_D (va_A [(dr, .inr (1, [.ref tk])), (tk, .inr (8, [.ref tk1, .ref tk2, .ref tk3, .ref tk4, .int 0, .int 0, .int 0, .int 0, .int (-1)])), (tk1, .inl (y 0, 401, .inl (fun _ => 0))), (tk2, .inl (y 0, 401, .inl (fun _ => 0))), (tk3, .inl (y 0, 401, .inl (fun _ => 0))), (tk4, .inl (y 0, 401, .inl (fun _ => 0))), (tp, .inl (y 0, 400, .inl f)), (da, .inr (9, [.ref dak, .ref dav, .ref dae, .ref dad, .int 0]))] sz) ([(tk, .inr (8, [.ref tk1, .ref tk2, .ref tk3, .ref tk4, .int 1, .int 0, .int 260, .int 1, .int 0]))])) (va_A [(dr, .inr (1, [.ref tk])), (tk, .inr (8, [.ref tk1, .ref tk2, .ref tk3, .ref tk4, .int 0, .int 0, .int 0, .int 0, .int (-1)])), (tk1, .inl (y 0, 401, .inl (fun _ => 0))), (tk2, .inl (y 0, 401, .inl (fun _ => 0))), (tk3, .inl (y 0, 401, .inl (fun _ => 0))), (tk4, .inl (y 0, 401, .inl (fun _ => 0))), (tp, .inl (y 0, 400, .inl f)), (da, .inr (9, [.ref dak, .ref dav, .ref dae, .ref dad, .int 0]))] sz)) 0 0 (va_A [(dr, .inr (1, [.ref tk])), (tk, .inr (8, [.ref tk1, .ref tk2, .ref tk3, .ref tk4, .int 0, .int 0, .int 0, .int 0, .int (-1)])), (tk1, .inl (y 0, 401, .inl (fun _ => 0))), (tk2, .inl (y 0, 401, .inl (fun _ => 0))), (tk3, .inl (y 0, 401, .inl (fun _ => 0))), (tk4, .inl (y 0, 401, .inl (fun _ => 0))), (tp, .inl (y 0, 400, .inl f)), (da, .inr (9, [.ref dak, .ref dav, .ref dae, .ref dad, .int 0]))] sz) := by
  refine Met.ofW (cc := cX1_read) (maxL := 4) (ret := (some .int)) (by decide) rfl ?_
  intro p e s m args below meth c s₁ B hml hv
  obtain ⟨rfl, hsz, hP, hK, hD0⟩ := hv
  have hx := B.exec
  have hb := B.bytes
  have hr := B.returns
  have hts := atoms_spec (ws := wsX1_read) B.pre
  have hown : s.vm.findClass RX1 = some m.cls := findClass_of_methodNamed B.named
  have hlocks := B.notSynchronized
  subst hsz
  have hD := hD0.self (sz := s.heap.size)
  generalize hAe : va_A [(dr, .inr (1, [.ref tk])), (tk, .inr (8, [.ref tk1, .ref tk2, .ref tk3, .ref tk4, .int 0, .int 0, .int 0, .int 0, .int (-1)])), (tk1, .inl (y 0, 401, .inl (fun _ => 0))), (tk2, .inl (y 0, 401, .inl (fun _ => 0))), (tk3, .inl (y 0, 401, .inl (fun _ => 0))), (tk4, .inl (y 0, 401, .inl (fun _ => 0))), (tp, .inl (y 0, 400, .inl f)), (da, .inr (9, [.ref dak, .ref dav, .ref dae, .ref dad, .int 0]))] s.heap.size = A at hD ⊢
  have hA : ∀ q : Nat, s.heap.size ≤ q → A q := fun q h => by rw [← hAe]; exact Or.inr h
  have hS : va_S A s.heap s.heap [] := va_S.rf
  have hP : va_P G vwCl [(dr, .inr (1, [.ref tk])), (tk, .inr (8, [.ref tk1, .ref tk2, .ref tk3, .ref tk4, .int 0, .int 0, .int 0, .int 0, .int (-1)])), (tk1, .inl (y 0, 401, .inl (fun _ => 0))), (tk2, .inl (y 0, 401, .inl (fun _ => 0))), (tk3, .inl (y 0, 401, .inl (fun _ => 0))), (tk4, .inl (y 0, 401, .inl (fun _ => 0))), (tp, .inl (y 0, 400, .inl f)), (da, .inr (9, [.ref dak, .ref dav, .ref dae, .ref dad, .int 0]))] s.heap := hP
  have inX1 : ∀ w ∈ wsX10, w ∈ wsX1_read := by decide +kernel
  have inX8 : ∀ w ∈ wsX80, w ∈ wsX1_read := by decide +kernel
  have hl := lv_entry ([.ref dr, .ref tp, .int 0, .ref da]) (n := 4) (Nat.le_of_ble_eq_true rfl)
  rw [lg_entry_eq]
  generalize (lg_sl ([.ref dr, .ref tp, .int 0, .ref da]) ++ List.replicate (4 - (lg_sl ([.ref dr, .ref tp, .int 0, .ref da])).length) Slot.unset).toArray = ls at hl ⊢
  have hl : lv_has ls 4 [(0, .ref dr), (1, .ref tp), (2, .int 0), (3, .ref da)] := hl
  refine lv_aload_n hx hb dX1_read_0 rfl (lv_at hl 0 rfl) ?_
  refine va_get (D := G) (ci := 1) (v := .ref tk) (C := RX1) (T := TX1) (N := 1) hx hb hts inX1 hown hK.1 hP 0 rfl rfl 0 (by decide) (hts (.fieldLink RX1 9 "NestQuery$DataReader" "tokens" "LNestQuery$Tokens;") (by decide +kernel)) (fun _ h9 => h9) rfl dX1_read_1 ?_
  refine lv_aload_n hx hb dX1_read_4 rfl (lv_at hl 1 rfl) ?_
  refine lv_iload_n hx hb dX1_read_5 rfl (lv_at hl 2 rfl) ?_
  refine nq_wrv (wr := [(dr, .inr (1, [.ref tk])), (da, .inr (9, [.ref dak, .ref dav, .ref dae, .ref dad, .int 0]))]) (va_runV (As := [.ref tp, .int 0]) (rest := []) ⟨hx, hb, hml, hown, hts⟩ (c_begin l G y s.heap.size tk tk1 tk2 tk3 tk4 tp f ) (cwV 2 hts gX1_read_X8_begin rfl rfl rfl (by decide +kernel) ⟨Nat.le_of_ble_eq_true rfl, Nat.le_of_ble_eq_true rfl⟩) (nq_PV hK hP hD [1, 2, 3, 4, 5, 6] rfl rfl 1 rfl rfl) rfl rfl hl.1 rfl (lv_room (Nat.le_of_ble_eq_true rfl)) dX1_read_6 ⟨Nat.le_of_ble_eq_true rfl, Nat.le_of_ble_eq_true rfl⟩) hP hD hS hA [1, 2, 3, 4, 5, 6] [0, 7] rfl rfl (by decide) (by decide) (fun u_1 H locs hw_2 hP hD hS => ?_)
  have hP : va_P G vwCl [(dr, .inr (1, [.ref tk])), (da, .inr (9, [.ref dak, .ref dav, .ref dae, .ref dad, .int 0])), (tk, .inr (8, [.ref tk1, .ref tk2, .ref tk3, .ref tk4, .int 1, .int 0, .int 259, .int 0, .int (-1)])), (tk2, .inl (y 0, 401, .inl (upd (fun _ => 0) 0 0)))] H := hP
  have hD : va_D A [(dr, .inr (1, [.ref tk])), (da, .inr (9, [.ref dak, .ref dav, .ref dae, .ref dad, .int 0])), (tk, .inr (8, [.ref tk1, .ref tk2, .ref tk3, .ref tk4, .int 1, .int 0, .int 259, .int 0, .int (-1)])), (tk2, .inl (y 0, 401, .inl (upd (fun _ => 0) 0 0)))] := hD
  refine lv_aload_n hx hb dX1_read_9 rfl (lv_at hl 3 rfl) ?_
  refine nq_wrv (wr := [(dr, .inr (1, [.ref tk])), (tk, .inr (8, [.ref tk1, .ref tk2, .ref tk3, .ref tk4, .int 1, .int 0, .int 259, .int 0, .int (-1)])), (tk2, .inl (y 0, 401, .inl (upd (fun _ => 0) 0 0)))]) (va_runV (As := []) (rest := []) ⟨hx, hb, hml, hown, hts⟩ (c_Tree_clear l G y H.size da dak dav dae dad ) (cwV 0 hts gX1_read_X9_clear rfl rfl rfl (by decide +kernel) ⟨Nat.le_of_ble_eq_true rfl, Nat.le_of_ble_eq_true rfl⟩) (nq_PV hK hP hD [1] rfl rfl 1 rfl rfl) rfl rfl hl.1 rfl (lv_room (Nat.le_of_ble_eq_true rfl)) dX1_read_10 ⟨Nat.le_of_ble_eq_true rfl, Nat.le_of_ble_eq_true rfl⟩) hP hD hS hA [1] [0, 2, 3] rfl rfl (by decide) (by decide) (fun u_4 H locs hw_5 hP hD hS => ?_)
  have hP : va_P G vwCl [(dr, .inr (1, [.ref tk])), (tk, .inr (8, [.ref tk1, .ref tk2, .ref tk3, .ref tk4, .int 1, .int 0, .int 259, .int 0, .int (-1)])), (tk2, .inl (y 0, 401, .inl (upd (fun _ => 0) 0 0))), (da, .inr (9, [.ref dak, .ref dav, .ref dae, .ref dad, .int 0]))] H := hP
  have hD : va_D A [(dr, .inr (1, [.ref tk])), (tk, .inr (8, [.ref tk1, .ref tk2, .ref tk3, .ref tk4, .int 1, .int 0, .int 259, .int 0, .int (-1)])), (tk2, .inl (y 0, 401, .inl (upd (fun _ => 0) 0 0))), (da, .inr (9, [.ref dak, .ref dav, .ref dae, .ref dad, .int 0]))] := hD
  refine lv_aload_n hx hb dX1_read_13 rfl (lv_at hl 0 rfl) ?_
  refine lv_aload_n hx hb dX1_read_14 rfl (lv_at hl 3 rfl) ?_
  refine lv_iconst (v := 0) hx hb dX1_read_15 (by decide) ?_
  refine lv_iconst (v := 0) hx hb dX1_read_16 (by decide) ?_
  refine nq_wrv (wr := []) (va_runV (As := [.ref da, .int 0, .int 0]) (rest := []) ⟨hx, hb, hml, hown, hts⟩ (c_readThing l G y H.size dr tk tk1 tk2 tk3 tk4 da dak dav dae dad ) (cwV 3 hts gX1_read_X1_readThing rfl rfl rfl (by decide +kernel) ⟨Nat.le_of_ble_eq_true rfl, Nat.le_of_ble_eq_true rfl⟩) (nq_PV hK hP hD [0, 1, 2, 3] rfl rfl 0 rfl rfl) rfl rfl hl.1 rfl (lv_room (Nat.le_of_ble_eq_true rfl)) dX1_read_17 ⟨Nat.le_of_ble_eq_true rfl, Nat.le_of_ble_eq_true rfl⟩) hP hD hS hA [0, 1, 2, 3] [] rfl rfl (by decide) (by decide) (fun u_7 H locs hw_8 hP hD hS => ?_)
  have hP : va_P G vwCl [(dr, .inr (1, [.ref tk])), (tk, .inr (8, [.ref tk1, .ref tk2, .ref tk3, .ref tk4, .int 1, .int 0, .int 260, .int 1, .int 0])), (tk2, .inl (y 0, 401, .inl (upd (fun _ => 0) 0 0)))] H := hP
  have hD : va_D A [(dr, .inr (1, [.ref tk])), (tk, .inr (8, [.ref tk1, .ref tk2, .ref tk3, .ref tk4, .int 1, .int 0, .int 260, .int 1, .int 0])), (tk2, .inl (y 0, 401, .inl (upd (fun _ => 0) 0 0)))] := hD
  refine lv_aload_n hx hb dX1_read_20 rfl (lv_at hl 0 rfl) ?_
  refine va_get (D := G) (ci := 1) (v := .ref tk) (C := RX1) (T := TX1) (N := 1) hx hb hts inX1 hown hK.1 hP 0 rfl rfl 0 (by decide) (hts (.fieldLink RX1 9 "NestQuery$DataReader" "tokens" "LNestQuery$Tokens;") (by decide +kernel)) (fun _ h9 => h9) rfl dX1_read_21 ?_
  refine va_getN (D := G) (ci := 8) (v := .int 260) (C := RX8) (T := TX8) (N := 9) hx hb hts inX8 hown hK.1 hP 1 rfl rfl 6 (by decide) (nl_4 hK) (fun _ h9 => h9) rfl dX1_read_24 ?_
  refine lv_sipush (v := 259) hx hb dX1_read_27 (by decide) ?_
  refine lv_icmp_eq (tgt := 41) hx hb dX1_read_30 (by decide) (fun c_10 => absurd c_10 (by decide)) (fun _ => ?_)
  refine lv_aload_n hx hb dX1_read_33 rfl (lv_at hl 0 rfl) ?_
  refine va_get (D := G) (ci := 1) (v := .ref tk) (C := RX1) (T := TX1) (N := 1) hx hb hts inX1 hown hK.1 hP 0 rfl rfl 0 (by decide) (hts (.fieldLink RX1 9 "NestQuery$DataReader" "tokens" "LNestQuery$Tokens;") (by decide +kernel)) (fun _ h9 => h9) rfl dX1_read_34 ?_
  refine lv_iconst (v := 1) hx hb dX1_read_37 (by decide) ?_
  refine nq_wrv (wr := [(dr, .inr (1, [.ref tk]))]) (va_runV (As := [.int 1]) (rest := []) ⟨hx, hb, hml, hown, hts⟩ (c_fail_b l G y H.size tk tk1 tk2 tk3 tk4 ) (cwV 1 hts gX1_read_X8_fail rfl rfl rfl (by decide +kernel) ⟨Nat.le_of_ble_eq_true rfl, Nat.le_of_ble_eq_true rfl⟩) (nq_PV hK hP hD [1, 2] rfl rfl 1 rfl rfl) rfl rfl hl.1 rfl (lv_room (Nat.le_of_ble_eq_true rfl)) dX1_read_38 ⟨Nat.le_of_ble_eq_true rfl, Nat.le_of_ble_eq_true rfl⟩) hP hD hS hA [1, 2] [0] rfl rfl (by decide) (by decide) (fun u_11 H locs hw_12 hP hD hS => ?_)
  have hP : va_P G vwCl [(dr, .inr (1, [.ref tk])), (tk, .inr (8, [.ref tk1, .ref tk2, .ref tk3, .ref tk4, .int 1, .int 0, .int 260, .int 1, .int 0]))] H := hP
  have hD : va_D A [(dr, .inr (1, [.ref tk])), (tk, .inr (8, [.ref tk1, .ref tk2, .ref tk3, .ref tk4, .int 1, .int 0, .int 260, .int 1, .int 0]))] := hD
  refine lv_aload_n hx hb dX1_read_41 rfl (lv_at hl 0 rfl) ?_
  refine va_get (D := G) (ci := 1) (v := .ref tk) (C := RX1) (T := TX1) (N := 1) hx hb hts inX1 hown hK.1 hP 0 rfl rfl 0 (by decide) (hts (.fieldLink RX1 9 "NestQuery$DataReader" "tokens" "LNestQuery$Tokens;") (by decide +kernel)) (fun _ h9 => h9) rfl dX1_read_42 ?_
  refine va_getN (D := G) (ci := 8) (v := .int 1) (C := RX8) (T := TX8) (N := 9) hx hb hts inX8 hown hK.1 hP 1 rfl rfl 7 (by decide) (nl_7 hK) (fun _ h9 => h9) rfl dX1_read_45 ?_
  have hP9 := hP.sub (ws' := [(tk, .inr (8, [.ref tk1, .ref tk2, .ref tk3, .ref tk4, .int 1, .int 0, .int 260, .int 1, .int 0]))]) [1] rfl
  have hD9 := hD.sub (ws' := [(tk, .inr (8, [.ref tk1, .ref tk2, .ref tk3, .ref tk4, .int 1, .int 0, .int 260, .int 1, .int 0]))]) [1] (by decide) rfl
  refine W.widen (k := 0) (n := 0) (Nat.le_of_ble_eq_true rfl) (Nat.le_of_ble_eq_true rfl) ?_
  exact W.iret (v := 1) hx hb hr (fun t ht hW => ⟨⟨1, (), rfl, rfl, by rw [ht]; exact hP9, by first | exact hD9 | (rw [hAe]; exact hD9)⟩, hS.F ht⟩) hS.2.2 dX1_read_48

set_option maxHeartbeats 400000 in
set_option maxRecDepth 100000 in
theorem c_textWasRead1 (l : Launch) (G : va_G) (y : Nat → ClassId) (sz : Nat) (h0 : Nat) (tp : Nat) (ps : Nat) (sp : Nat) (tk : Nat) (dr : Nat) (pr : Nat) (da : Nat) (nw : Nat) (im : Nat) (ac : Nat) (ke : Nat) (si : Nat) (tx : Nat) (an : Nat) (dw : Nat) (tk1 : Nat) (tk2 : Nat) (tk3 : Nat) (tk4 : Nat) (nwt : Nat) (nwb : Nat) (nwn : Nat) (nwi : Nat) (nwr : Nat)  : Met l yX10_textWasRead wsX10_textWasRead ({ frames := 1, cells := 0, slots := 0, locals := 21 }) (nq_P G y sz [.ref h0, .int 1] [(h0, .inr (10, [.ref tp, .int 0, .int (-1), .ref ps, .ref sp, .ref tk, .ref dr, .ref pr, .ref da, .ref nw, .ref im, .int 0, .ref ac, .ref ke, .ref si, .ref tx, .ref an, .ref dw])), (tk, .inr (8, [.ref tk1, .ref tk2, .ref tk3, .ref tk4, .int 1, .int 0, .int 260, .int 1, .int 0])), (nw, .inr (6, [.ref nwt, .ref nwb, .int 0, .ref nwn, .ref nwi, .int 0, .ref nwr])), (nwr, .inl (y 0, 3, .inl (fun _ => 0)))]) (va_Qv (fun (_ : Unit) => True) (fun (u : Unit) t9 => va_P G vwCl ([]) t9.heap ∧ va_D (va_A [(h0, .inr (10, [.ref tp, .int 0, .int (-1), .ref ps, .ref sp, .ref tk, .ref dr, .ref pr, .ref da, .ref nw, .ref im, .int 0, .ref ac, .ref ke, .ref si, .ref tx, .ref an, .ref dw])), (tk, .inr (8, [.ref tk1, .ref tk2, .ref tk3, .ref tk4, .int 1, .int 0, .int 260, .int 1, .int 0])), (nw, .inr (6, [.ref nwt, .ref nwb, .int 0, .ref nwn, .ref nwi, .int 0, .ref nwr])), (nwr, .inl (y 0, 3, .inl (fun _ => 0)))] sz) ([])) (va_A [(h0, .inr (10, [.ref tp, .int 0, .int (-1), .ref ps, .ref sp, .ref tk, .ref dr, .ref pr, .ref da, .ref nw, .ref im, .int 0, .ref ac, .ref ke, .ref si, .ref tx, .ref an, .ref dw])), (tk, .inr (8, [.ref tk1, .ref tk2, .ref tk3, .ref tk4, .int 1, .int 0, .int 260, .int 1, .int 0])), (nw, .inr (6, [.ref nwt, .ref nwb, .int 0, .ref nwn, .ref nwi, .int 0, .ref nwr])), (nwr, .inl (y 0, 3, .inl (fun _ => 0)))] sz)) 0 0 (va_A [(h0, .inr (10, [.ref tp, .int 0, .int (-1), .ref ps, .ref sp, .ref tk, .ref dr, .ref pr, .ref da, .ref nw, .ref im, .int 0, .ref ac, .ref ke, .ref si, .ref tx, .ref an, .ref dw])), (tk, .inr (8, [.ref tk1, .ref tk2, .ref tk3, .ref tk4, .int 1, .int 0, .int 260, .int 1, .int 0])), (nw, .inr (6, [.ref nwt, .ref nwb, .int 0, .ref nwn, .ref nwi, .int 0, .ref nwr])), (nwr, .inl (y 0, 3, .inl (fun _ => 0)))] sz) := by
  refine Met.ofW (cc := cX10_textWasRead) (maxL := 2) (ret := none) (by decide) rfl ?_
  intro p e s m args below meth c s₁ B hml hv
  obtain ⟨rfl, hsz, hP, hK, hD0⟩ := hv
  have hx := B.exec
  have hb := B.bytes
  have hr := B.returns
  have hts := atoms_spec (ws := wsX10_textWasRead) B.pre
  have hown : s.vm.findClass RX10 = some m.cls := findClass_of_methodNamed B.named
  have hlocks := B.notSynchronized
  subst hsz
  have hD := hD0.self (sz := s.heap.size)
  generalize hAe : va_A [(h0, .inr (10, [.ref tp, .int 0, .int (-1), .ref ps, .ref sp, .ref tk, .ref dr, .ref pr, .ref da, .ref nw, .ref im, .int 0, .ref ac, .ref ke, .ref si, .ref tx, .ref an, .ref dw])), (tk, .inr (8, [.ref tk1, .ref tk2, .ref tk3, .ref tk4, .int 1, .int 0, .int 260, .int 1, .int 0])), (nw, .inr (6, [.ref nwt, .ref nwb, .int 0, .ref nwn, .ref nwi, .int 0, .ref nwr])), (nwr, .inl (y 0, 3, .inl (fun _ => 0)))] s.heap.size = A at hD ⊢
  have hA : ∀ q : Nat, s.heap.size ≤ q → A q := fun q h => by rw [← hAe]; exact Or.inr h
  have hS : va_S A s.heap s.heap [] := va_S.rf
  have hP : va_P G vwCl [(h0, .inr (10, [.ref tp, .int 0, .int (-1), .ref ps, .ref sp, .ref tk, .ref dr, .ref pr, .ref da, .ref nw, .ref im, .int 0, .ref ac, .ref ke, .ref si, .ref tx, .ref an, .ref dw])), (tk, .inr (8, [.ref tk1, .ref tk2, .ref tk3, .ref tk4, .int 1, .int 0, .int 260, .int 1, .int 0])), (nw, .inr (6, [.ref nwt, .ref nwb, .int 0, .ref nwn, .ref nwi, .int 0, .ref nwr])), (nwr, .inl (y 0, 3, .inl (fun _ => 0)))] s.heap := hP
  have inX10 : ∀ w ∈ wsX100, w ∈ wsX10_textWasRead := by decide +kernel
  have inX8 : ∀ w ∈ wsX80, w ∈ wsX10_textWasRead := by decide +kernel
  have hl := lv_entry ([.ref h0, .int 1]) (n := 2) (Nat.le_of_ble_eq_true rfl)
  rw [lg_entry_eq]
  generalize (lg_sl ([.ref h0, .int 1]) ++ List.replicate (2 - (lg_sl ([.ref h0, .int 1])).length) Slot.unset).toArray = ls at hl ⊢
  have hl : lv_has ls 2 [(0, .ref h0), (1, .int 1)] := hl
  refine lv_aload_n hx hb dX10_textWasRead_0 rfl (lv_at hl 0 rfl) ?_
  refine lv_iconst (v := 0) hx hb dX10_textWasRead_1 (by decide) ?_
  refine va_put (D := G) (ci := 10) (v := .int 0) (ty := .int) (C := RX10) (T := TX10) (N := 18) hx hb hts inX10 tyX10 tyX10_ok nmX10 hown hK.1 hP hD hS 0 rfl rfl 1 (by decide) (hts (.fieldLink RX10 114 "NestQuery" "tapeCount" "I") (by decide +kernel)) (fun _ h9 => h9) rfl (by decide +kernel) rfl rfl (Nat.le_of_ble_eq_true rfl) dX10_textWasRead_2 (fun H locs hP hD hS => ?_)
  have hP : va_P G vwCl [(h0, .inr (10, [.ref tp, .int 0, .int (-1), .ref ps, .ref sp, .ref tk, .ref dr, .ref pr, .ref da, .ref nw, .ref im, .int 0, .ref ac, .ref ke, .ref si, .ref tx, .ref an, .ref dw])), (tk, .inr (8, [.ref tk1, .ref tk2, .ref tk3, .ref tk4, .int 1, .int 0, .int 260, .int 1, .int 0])), (nw, .inr (6, [.ref nwt, .ref nwb, .int 0, .ref nwn, .ref nwi, .int 0, .ref nwr])), (nwr, .inl (y 0, 3, .inl (fun _ => 0)))] H := hP
  have hD : va_D A [(h0, .inr (10, [.ref tp, .int 0, .int (-1), .ref ps, .ref sp, .ref tk, .ref dr, .ref pr, .ref da, .ref nw, .ref im, .int 0, .ref ac, .ref ke, .ref si, .ref tx, .ref an, .ref dw])), (tk, .inr (8, [.ref tk1, .ref tk2, .ref tk3, .ref tk4, .int 1, .int 0, .int 260, .int 1, .int 0])), (nw, .inr (6, [.ref nwt, .ref nwb, .int 0, .ref nwn, .ref nwi, .int 0, .ref nwr])), (nwr, .inl (y 0, 3, .inl (fun _ => 0)))] := hD
  refine lv_aload_n hx hb dX10_textWasRead_5 rfl (lv_at hl 0 rfl) ?_
  refine lv_aload_n hx hb dX10_textWasRead_6 rfl (lv_at hl 0 rfl) ?_
  refine va_get (D := G) (ci := 10) (v := .ref tk) (C := RX10) (T := TX10) (N := 18) hx hb hts inX10 hown hK.1 hP 0 rfl rfl 5 (by decide) (hts (.fieldLink RX10 31 "NestQuery" "tokens" "LNestQuery$Tokens;") (by decide +kernel)) (fun _ h9 => h9) rfl dX10_textWasRead_7 ?_
  refine va_getN (D := G) (ci := 8) (v := .int 0) (C := RX8) (T := TX8) (N := 9) hx hb hts inX8 hown hK.1 hP 1 rfl rfl 8 (by decide) (nl_8 hK) (fun _ h9 => h9) rfl dX10_textWasRead_10 ?_
  refine va_put (D := G) (ci := 10) (v := .int 0) (ty := .int) (C := RX10) (T := TX10) (N := 18) hx hb hts inX10 tyX10 tyX10_ok nmX10 hown hK.1 hP hD hS 0 rfl rfl 2 (by decide) (hts (.fieldLink RX10 13 "NestQuery" "faultPlace" "I") (by decide +kernel)) (fun _ h9 => h9) rfl (by decide +kernel) rfl rfl (Nat.le_of_ble_eq_true rfl) dX10_textWasRead_13 (fun H locs hP hD hS => ?_)
  have hP : va_P G vwCl [(h0, .inr (10, [.ref tp, .int 0, .int 0, .ref ps, .ref sp, .ref tk, .ref dr, .ref pr, .ref da, .ref nw, .ref im, .int 0, .ref ac, .ref ke, .ref si, .ref tx, .ref an, .ref dw])), (tk, .inr (8, [.ref tk1, .ref tk2, .ref tk3, .ref tk4, .int 1, .int 0, .int 260, .int 1, .int 0])), (nw, .inr (6, [.ref nwt, .ref nwb, .int 0, .ref nwn, .ref nwi, .int 0, .ref nwr])), (nwr, .inl (y 0, 3, .inl (fun _ => 0)))] H := hP
  have hD : va_D A [(h0, .inr (10, [.ref tp, .int 0, .int 0, .ref ps, .ref sp, .ref tk, .ref dr, .ref pr, .ref da, .ref nw, .ref im, .int 0, .ref ac, .ref ke, .ref si, .ref tx, .ref an, .ref dw])), (tk, .inr (8, [.ref tk1, .ref tk2, .ref tk3, .ref tk4, .int 1, .int 0, .int 260, .int 1, .int 0])), (nw, .inr (6, [.ref nwt, .ref nwb, .int 0, .ref nwn, .ref nwi, .int 0, .ref nwr])), (nwr, .inl (y 0, 3, .inl (fun _ => 0)))] := hD
  refine lv_iload_n hx hb dX10_textWasRead_16 rfl (lv_at hl 1 rfl) ?_
  refine lv_if_eq (tgt := 28) hx hb dX10_textWasRead_17 (by decide) (fun c_1 => absurd c_1 (by decide)) (fun _ => ?_)
  refine lv_aload_n hx hb dX10_textWasRead_20 rfl (lv_at hl 0 rfl) ?_
  refine va_get (D := G) (ci := 10) (v := .ref nw) (C := RX10) (T := TX10) (N := 18) hx hb hts inX10 hown hK.1 hP 0 rfl rfl 9 (by decide) (hts (.fieldLink RX10 63 "NestQuery" "now" "LNestQuery$State;") (by decide +kernel)) (fun _ h9 => h9) rfl dX10_textWasRead_21 ?_
  refine lv_iconst (v := 0) hx hb dX10_textWasRead_24 (by decide) ?_
  refine nq_wrv (wr := [(h0, .inr (10, [.ref tp, .int 0, .int 0, .ref ps, .ref sp, .ref tk, .ref dr, .ref pr, .ref da, .ref nw, .ref im, .int 0, .ref ac, .ref ke, .ref si, .ref tx, .ref an, .ref dw])), (tk, .inr (8, [.ref tk1, .ref tk2, .ref tk3, .ref tk4, .int 1, .int 0, .int 260, .int 1, .int 0]))]) (va_runV (As := [.int 0]) (rest := []) ⟨hx, hb, hml, hown, hts⟩ (c_refuse0 l G y H.size nw nwt nwb nwn nwi nwr ) (cwV 1 hts gX10_textWasRead_X6_refuse rfl rfl rfl (by decide +kernel) ⟨Nat.le_of_ble_eq_true rfl, Nat.le_of_ble_eq_true rfl⟩) (nq_PV hK hP hD [2, 3] rfl rfl 2 rfl rfl) rfl rfl hl.1 rfl (lv_room (Nat.le_of_ble_eq_true rfl)) dX10_textWasRead_25 ⟨Nat.le_of_ble_eq_true rfl, Nat.le_of_ble_eq_true rfl⟩) hP hD hS hA [2, 3] [0, 1] rfl rfl (by decide) (by decide) (fun u_2 H locs hw_3 hP hD hS => ?_)
  have hP : va_P G vwCl [(h0, .inr (10, [.ref tp, .int 0, .int 0, .ref ps, .ref sp, .ref tk, .ref dr, .ref pr, .ref da, .ref nw, .ref im, .int 0, .ref ac, .ref ke, .ref si, .ref tx, .ref an, .ref dw])), (tk, .inr (8, [.ref tk1, .ref tk2, .ref tk3, .ref tk4, .int 1, .int 0, .int 260, .int 1, .int 0]))] H := hP
  have hD : va_D A [(h0, .inr (10, [.ref tp, .int 0, .int 0, .ref ps, .ref sp, .ref tk, .ref dr, .ref pr, .ref da, .ref nw, .ref im, .int 0, .ref ac, .ref ke, .ref si, .ref tx, .ref an, .ref dw])), (tk, .inr (8, [.ref tk1, .ref tk2, .ref tk3, .ref tk4, .int 1, .int 0, .int 260, .int 1, .int 0]))] := hD
  have hP9 := hP.sub (ws' := []) [] rfl
  have hD9 := hD.sub (ws' := []) [] (by decide) rfl
  refine W.widen (k := 0) (n := 0) (Nat.le_of_ble_eq_true rfl) (Nat.le_of_ble_eq_true rfl) ?_
  exact W.vret hx hb hr (fun t ht hW => ⟨⟨(), rfl, trivial, by rw [ht]; exact hP9, by first | exact hD9 | (rw [hAe]; exact hD9)⟩, hS.F ht⟩) hS.2.2 dX10_textWasRead_28

set_option maxHeartbeats 400000 in
set_option maxRecDepth 100000 in
theorem c_readData (l : Launch) (G : va_G) (y : Nat → ClassId) (sz : Nat) (h0 : Nat) (tp : Nat) (ps : Nat) (sp : Nat) (tk : Nat) (dr : Nat) (pr : Nat) (da : Nat) (nw : Nat) (im : Nat) (ac : Nat) (ke : Nat) (si : Nat) (tx : Nat) (an : Nat) (dw : Nat) (tk1 : Nat) (tk2 : Nat) (tk3 : Nat) (tk4 : Nat) (dak : Nat) (dav : Nat) (dae : Nat) (dad : Nat) (nwt : Nat) (nwb : Nat) (nwn : Nat) (nwi : Nat) (nwr : Nat) (f : Nat → Int32)  : Met l yX10_readData wsX10_readData ({ frames := 3, cells := 0, slots := 0, locals := 90 }) (nq_P G y sz [.ref h0, .int 0] [(h0, .inr (10, [.ref tp, .int 0, .int (-1), .ref ps, .ref sp, .ref tk, .ref dr, .ref pr, .ref da, .ref nw, .ref im, .int 0, .ref ac, .ref ke, .ref si, .ref tx, .ref an, .ref dw])), (dr, .inr (1, [.ref tk])), (tk, .inr (8, [.ref tk1, .ref tk2, .ref tk3, .ref tk4, .int 0, .int 0, .int 0, .int 0, .int (-1)])), (tk1, .inl (y 0, 401, .inl (fun _ => 0))), (tk2, .inl (y 0, 401, .inl (fun _ => 0))), (tk3, .inl (y 0, 401, .inl (fun _ => 0))), (tk4, .inl (y 0, 401, .inl (fun _ => 0))), (tp, .inl (y 0, 400, .inl f)), (da, .inr (9, [.ref dak, .ref dav, .ref dae, .ref dad, .int 0])), (nw, .inr (6, [.ref nwt, .ref nwb, .int 0, .ref nwn, .ref nwi, .int 0, .ref nwr])), (nwr, .inl (y 0, 3, .inl (fun _ => 0)))]) (va_Qi (fun (r : Int32) (_ : Unit) => r = 1) (fun (u : Unit) t9 => va_P G vwCl ([]) t9.heap ∧ va_D (va_A [(h0, .inr (10, [.ref tp, .int 0, .int (-1), .ref ps, .ref sp, .ref tk, .ref dr, .ref pr, .ref da, .ref nw, .ref im, .int 0, .ref ac, .ref ke, .ref si, .ref tx, .ref an, .ref dw])), (dr, .inr (1, [.ref tk])), (tk, .inr (8, [.ref tk1, .ref tk2, .ref tk3, .ref tk4, .int 0, .int 0, .int 0, .int 0, .int (-1)])), (tk1, .inl (y 0, 401, .inl (fun _ => 0))), (tk2, .inl (y 0, 401, .inl (fun _ => 0))), (tk3, .inl (y 0, 401, .inl (fun _ => 0))), (tk4, .inl (y 0, 401, .inl (fun _ => 0))), (tp, .inl (y 0, 400, .inl f)), (da, .inr (9, [.ref dak, .ref dav, .ref dae, .ref dad, .int 0])), (nw, .inr (6, [.ref nwt, .ref nwb, .int 0, .ref nwn, .ref nwi, .int 0, .ref nwr])), (nwr, .inl (y 0, 3, .inl (fun _ => 0)))] sz) ([])) (va_A [(h0, .inr (10, [.ref tp, .int 0, .int (-1), .ref ps, .ref sp, .ref tk, .ref dr, .ref pr, .ref da, .ref nw, .ref im, .int 0, .ref ac, .ref ke, .ref si, .ref tx, .ref an, .ref dw])), (dr, .inr (1, [.ref tk])), (tk, .inr (8, [.ref tk1, .ref tk2, .ref tk3, .ref tk4, .int 0, .int 0, .int 0, .int 0, .int (-1)])), (tk1, .inl (y 0, 401, .inl (fun _ => 0))), (tk2, .inl (y 0, 401, .inl (fun _ => 0))), (tk3, .inl (y 0, 401, .inl (fun _ => 0))), (tk4, .inl (y 0, 401, .inl (fun _ => 0))), (tp, .inl (y 0, 400, .inl f)), (da, .inr (9, [.ref dak, .ref dav, .ref dae, .ref dad, .int 0])), (nw, .inr (6, [.ref nwt, .ref nwb, .int 0, .ref nwn, .ref nwi, .int 0, .ref nwr])), (nwr, .inl (y 0, 3, .inl (fun _ => 0)))] sz)) 0 0 (va_A [(h0, .inr (10, [.ref tp, .int 0, .int (-1), .ref ps, .ref sp, .ref tk, .ref dr, .ref pr, .ref da, .ref nw, .ref im, .int 0, .ref ac, .ref ke, .ref si, .ref tx, .ref an, .ref dw])), (dr, .inr (1, [.ref tk])), (tk, .inr (8, [.ref tk1, .ref tk2, .ref tk3, .ref tk4, .int 0, .int 0, .int 0, .int 0, .int (-1)])), (tk1, .inl (y 0, 401, .inl (fun _ => 0))), (tk2, .inl (y 0, 401, .inl (fun _ => 0))), (tk3, .inl (y 0, 401, .inl (fun _ => 0))), (tk4, .inl (y 0, 401, .inl (fun _ => 0))), (tp, .inl (y 0, 400, .inl f)), (da, .inr (9, [.ref dak, .ref dav, .ref dae, .ref dad, .int 0])), (nw, .inr (6, [.ref nwt, .ref nwb, .int 0, .ref nwn, .ref nwi, .int 0, .ref nwr])), (nwr, .inl (y 0, 3, .inl (fun _ => 0)))] sz) := by
  refine Met.ofW (cc := cX10_readData) (maxL := 3) (ret := (some .int)) (by decide) rfl ?_
  intro p e s m args below meth c s₁ B hml hv
  obtain ⟨rfl, hsz, hP, hK, hD0⟩ := hv
  have hx := B.exec
  have hb := B.bytes
  have hr := B.returns
  have hts := atoms_spec (ws := wsX10_readData) B.pre
  have hown : s.vm.findClass RX10 = some m.cls := findClass_of_methodNamed B.named
  have hlocks := B.notSynchronized
  subst hsz
  have hD := hD0.self (sz := s.heap.size)
  generalize hAe : va_A [(h0, .inr (10, [.ref tp, .int 0, .int (-1), .ref ps, .ref sp, .ref tk, .ref dr, .ref pr, .ref da, .ref nw, .ref im, .int 0, .ref ac, .ref ke, .ref si, .ref tx, .ref an, .ref dw])), (dr, .inr (1, [.ref tk])), (tk, .inr (8, [.ref tk1, .ref tk2, .ref tk3, .ref tk4, .int 0, .int 0, .int 0, .int 0, .int (-1)])), (tk1, .inl (y 0, 401, .inl (fun _ => 0))), (tk2, .inl (y 0, 401, .inl (fun _ => 0))), (tk3, .inl (y 0, 401, .inl (fun _ => 0))), (tk4, .inl (y 0, 401, .inl (fun _ => 0))), (tp, .inl (y 0, 400, .inl f)), (da, .inr (9, [.ref dak, .ref dav, .ref dae, .ref dad, .int 0])), (nw, .inr (6, [.ref nwt, .ref nwb, .int 0, .ref nwn, .ref nwi, .int 0, .ref nwr])), (nwr, .inl (y 0, 3, .inl (fun _ => 0)))] s.heap.size = A at hD ⊢
  have hA : ∀ q : Nat, s.heap.size ≤ q → A q := fun q h => by rw [← hAe]; exact Or.inr h
  have hS : va_S A s.heap s.heap [] := va_S.rf
  have hP : va_P G vwCl [(h0, .inr (10, [.ref tp, .int 0, .int (-1), .ref ps, .ref sp, .ref tk, .ref dr, .ref pr, .ref da, .ref nw, .ref im, .int 0, .ref ac, .ref ke, .ref si, .ref tx, .ref an, .ref dw])), (dr, .inr (1, [.ref tk])), (tk, .inr (8, [.ref tk1, .ref tk2, .ref tk3, .ref tk4, .int 0, .int 0, .int 0, .int 0, .int (-1)])), (tk1, .inl (y 0, 401, .inl (fun _ => 0))), (tk2, .inl (y 0, 401, .inl (fun _ => 0))), (tk3, .inl (y 0, 401, .inl (fun _ => 0))), (tk4, .inl (y 0, 401, .inl (fun _ => 0))), (tp, .inl (y 0, 400, .inl f)), (da, .inr (9, [.ref dak, .ref dav, .ref dae, .ref dad, .int 0])), (nw, .inr (6, [.ref nwt, .ref nwb, .int 0, .ref nwn, .ref nwi, .int 0, .ref nwr])), (nwr, .inl (y 0, 3, .inl (fun _ => 0)))] s.heap := hP
  have inX10 : ∀ w ∈ wsX100, w ∈ wsX10_readData := by decide +kernel
  have hl := lv_entry ([.ref h0, .int 0]) (n := 3) (Nat.le_of_ble_eq_true rfl)
  rw [lg_entry_eq]
  generalize (lg_sl ([.ref h0, .int 0]) ++ List.replicate (3 - (lg_sl ([.ref h0, .int 0])).length) Slot.unset).toArray = ls at hl ⊢
  have hl : lv_has ls 3 [(0, .ref h0), (1, .int 0)] := hl
  refine lv_aload_n hx hb dX10_readData_0 rfl (lv_at hl 0 rfl) ?_
  refine va_get (D := G) (ci := 10) (v := .ref dr) (C := RX10) (T := TX10) (N := 18) hx hb hts inX10 hown hK.1 hP 0 rfl rfl 6 (by decide) (hts (.fieldLink RX10 40 "NestQuery" "dataReader" "LNestQuery$DataReader;") (by decide +kernel)) (fun _ h9 => h9) rfl dX10_readData_1 ?_
  refine lv_aload_n hx hb dX10_readData_4 rfl (lv_at hl 0 rfl) ?_
  refine va_get (D := G) (ci := 10) (v := .ref tp) (C := RX10) (T := TX10) (N := 18) hx hb hts inX10 hown hK.1 hP 0 rfl rfl 0 (by decide) (hts (.fieldLink RX10 9 "NestQuery" "tape" "[I") (by decide +kernel)) (fun _ h9 => h9) rfl dX10_readData_5 ?_
  refine lv_iload_n hx hb dX10_readData_8 rfl (lv_at hl 1 rfl) ?_
  refine lv_aload_n hx hb dX10_readData_9 rfl (lv_at hl 0 rfl) ?_
  refine va_get (D := G) (ci := 10) (v := .ref da) (C := RX10) (T := TX10) (N := 18) hx hb hts inX10 hown hK.1 hP 0 rfl rfl 8 (by decide) (hts (.fieldLink RX10 56 "NestQuery" "data" "LNestQuery$Tree;") (by decide +kernel)) (fun _ h9 => h9) rfl dX10_readData_10 ?_
  refine nq_wri (wr := [(h0, .inr (10, [.ref tp, .int 0, .int (-1), .ref ps, .ref sp, .ref tk, .ref dr, .ref pr, .ref da, .ref nw, .ref im, .int 0, .ref ac, .ref ke, .ref si, .ref tx, .ref an, .ref dw])), (nw, .inr (6, [.ref nwt, .ref nwb, .int 0, .ref nwn, .ref nwi, .int 0, .ref nwr])), (nwr, .inl (y 0, 3, .inl (fun _ => 0)))]) (va_runV (As := [.ref tp, .int 0, .ref da]) (rest := []) ⟨hx, hb, hml, hown, hts⟩ (c_DataReader_read l G y s.heap.size dr tk tk1 tk2 tk3 tk4 tp da dak dav dae dad f ) (cwV 3 hts gX10_readData_X1_read rfl rfl rfl (by decide +kernel) ⟨Nat.le_of_ble_eq_true rfl, Nat.le_of_ble_eq_true rfl⟩) (nq_PV hK hP hD [1, 2, 3, 4, 5, 6, 7, 8] rfl rfl 1 rfl rfl) rfl rfl hl.1 rfl (lv_room (Nat.le_of_ble_eq_true rfl)) dX10_readData_13 ⟨Nat.le_of_ble_eq_true rfl, Nat.le_of_ble_eq_true rfl⟩) hP hD hS hA [1, 2, 3, 4, 5, 6, 7, 8] [0, 9, 10] rfl rfl (by decide) (by decide) (fun r_3 u_1 H locs hw_2 hP hD hS => ?_)
  have hP : va_P G vwCl [(h0, .inr (10, [.ref tp, .int 0, .int (-1), .ref ps, .ref sp, .ref tk, .ref dr, .ref pr, .ref da, .ref nw, .ref im, .int 0, .ref ac, .ref ke, .ref si, .ref tx, .ref an, .ref dw])), (nw, .inr (6, [.ref nwt, .ref nwb, .int 0, .ref nwn, .ref nwi, .int 0, .ref nwr])), (nwr, .inl (y 0, 3, .inl (fun _ => 0))), (tk, .inr (8, [.ref tk1, .ref tk2, .ref tk3, .ref tk4, .int 1, .int 0, .int 260, .int 1, .int 0]))] H := hP
  have hD : va_D A [(h0, .inr (10, [.ref tp, .int 0, .int (-1), .ref ps, .ref sp, .ref tk, .ref dr, .ref pr, .ref da, .ref nw, .ref im, .int 0, .ref ac, .ref ke, .ref si, .ref tx, .ref an, .ref dw])), (nw, .inr (6, [.ref nwt, .ref nwb, .int 0, .ref nwn, .ref nwi, .int 0, .ref nwr])), (nwr, .inl (y 0, 3, .inl (fun _ => 0))), (tk, .inr (8, [.ref tk1, .ref tk2, .ref tk3, .ref tk4, .int 1, .int 0, .int 260, .int 1, .int 0]))] := hD
  subst hw_2
  refine lv_istore_n (lv' := [(2, .int 1), (0, .ref h0), (1, .int 0)]) hx hb dX10_readData_16 rfl hl (by decide) rfl (fun ls hl => ?_)
  refine lv_aload_n hx hb dX10_readData_17 rfl (lv_at hl 1 rfl) ?_
  refine lv_iload_n hx hb dX10_readData_18 rfl (lv_at hl 0 rfl) ?_
  refine nq_wrv (wr := []) (va_runV (As := [.int 1]) (rest := []) ⟨hx, hb, hml, hown, hts⟩ (c_textWasRead1 l G y H.size h0 tp ps sp tk dr pr da nw im ac ke si tx an dw tk1 tk2 tk3 tk4 nwt nwb nwn nwi nwr ) (cwV 1 hts gX10_readData_X10_textWasRead rfl rfl rfl (by decide +kernel) ⟨Nat.le_of_ble_eq_true rfl, Nat.le_of_ble_eq_true rfl⟩) (nq_PV hK hP hD [0, 3, 1, 2] rfl rfl 0 rfl rfl) rfl rfl hl.1 rfl (lv_room (Nat.le_of_ble_eq_true rfl)) dX10_readData_19 ⟨Nat.le_of_ble_eq_true rfl, Nat.le_of_ble_eq_true rfl⟩) hP hD hS hA [0, 3, 1, 2] [] rfl rfl (by decide) (by decide) (fun u_4 H locs hw_5 hP hD hS => ?_)
  have hP : va_P G vwCl [] H := hP
  have hD : va_D A [] := hD
  refine lv_iload_n hx hb dX10_readData_22 rfl (lv_at hl 0 rfl) ?_
  have hP9 := hP.sub (ws' := []) [] rfl
  have hD9 := hD.sub (ws' := []) [] (by decide) rfl
  refine W.widen (k := 0) (n := 0) (Nat.le_of_ble_eq_true rfl) (Nat.le_of_ble_eq_true rfl) ?_
  exact W.iret (v := 1) hx hb hr (fun t ht hW => ⟨⟨1, (), rfl, rfl, by rw [ht]; exact hP9, by first | exact hD9 | (rw [hAe]; exact hD9)⟩, hS.F ht⟩) hS.2.2 dX10_readData_23

set_option maxHeartbeats 400000 in
set_option maxRecDepth 100000 in
theorem c_textWasRead0 (l : Launch) (G : va_G) (y : Nat → ClassId) (sz : Nat) (h0 : Nat) (tp : Nat) (ps : Nat) (sp : Nat) (tk : Nat) (dr : Nat) (pr : Nat) (da : Nat) (nw : Nat) (im : Nat) (ac : Nat) (ke : Nat) (si : Nat) (tx : Nat) (an : Nat) (dw : Nat) (tk1 : Nat) (tk2 : Nat) (tk3 : Nat) (tk4 : Nat)  : Met l yX10_textWasRead wsX10_textWasRead ({ frames := 0, cells := 0, slots := 0, locals := 0 }) (nq_P G y sz [.ref h0, .int 0] [(h0, .inr (10, [.ref tp, .int 0, .int (-1), .ref ps, .ref sp, .ref tk, .ref dr, .ref pr, .ref da, .ref nw, .ref im, .int 0, .ref ac, .ref ke, .ref si, .ref tx, .ref an, .ref dw])), (tk, .inr (8, [.ref tk1, .ref tk2, .ref tk3, .ref tk4, .int 1, .int 0, .int 259, .int 0, .int (-1)]))]) (va_Qv (fun (_ : Unit) => True) (fun (u : Unit) t9 => va_P G vwCl ([(h0, .inr (10, [.ref tp, .int 0, .int (-1), .ref ps, .ref sp, .ref tk, .ref dr, .ref pr, .ref da, .ref nw, .ref im, .int 0, .ref ac, .ref ke, .ref si, .ref tx, .ref an, .ref dw]))]) t9.heap ∧ va_D (va_A [(h0, .inr (10, [.ref tp, .int 0, .int (-1), .ref ps, .ref sp, .ref tk, .ref dr, .ref pr, .ref da, .ref nw, .ref im, .int 0, .ref ac, .ref ke, .ref si, .ref tx, .ref an, .ref dw])), (tk, .inr (8, [.ref tk1, .ref tk2, .ref tk3, .ref tk4, .int 1, .int 0, .int 259, .int 0, .int (-1)]))] sz) ([(h0, .inr (10, [.ref tp, .int 0, .int (-1), .ref ps, .ref sp, .ref tk, .ref dr, .ref pr, .ref da, .ref nw, .ref im, .int 0, .ref ac, .ref ke, .ref si, .ref tx, .ref an, .ref dw]))])) (va_A [(h0, .inr (10, [.ref tp, .int 0, .int (-1), .ref ps, .ref sp, .ref tk, .ref dr, .ref pr, .ref da, .ref nw, .ref im, .int 0, .ref ac, .ref ke, .ref si, .ref tx, .ref an, .ref dw])), (tk, .inr (8, [.ref tk1, .ref tk2, .ref tk3, .ref tk4, .int 1, .int 0, .int 259, .int 0, .int (-1)]))] sz)) 0 0 (va_A [(h0, .inr (10, [.ref tp, .int 0, .int (-1), .ref ps, .ref sp, .ref tk, .ref dr, .ref pr, .ref da, .ref nw, .ref im, .int 0, .ref ac, .ref ke, .ref si, .ref tx, .ref an, .ref dw])), (tk, .inr (8, [.ref tk1, .ref tk2, .ref tk3, .ref tk4, .int 1, .int 0, .int 259, .int 0, .int (-1)]))] sz) := by
  refine Met.ofW (cc := cX10_textWasRead) (maxL := 2) (ret := none) (by decide) rfl ?_
  intro p e s m args below meth c s₁ B hml hv
  obtain ⟨rfl, hsz, hP, hK, hD0⟩ := hv
  have hx := B.exec
  have hb := B.bytes
  have hr := B.returns
  have hts := atoms_spec (ws := wsX10_textWasRead) B.pre
  have hown : s.vm.findClass RX10 = some m.cls := findClass_of_methodNamed B.named
  have hlocks := B.notSynchronized
  subst hsz
  have hD := hD0.self (sz := s.heap.size)
  generalize hAe : va_A [(h0, .inr (10, [.ref tp, .int 0, .int (-1), .ref ps, .ref sp, .ref tk, .ref dr, .ref pr, .ref da, .ref nw, .ref im, .int 0, .ref ac, .ref ke, .ref si, .ref tx, .ref an, .ref dw])), (tk, .inr (8, [.ref tk1, .ref tk2, .ref tk3, .ref tk4, .int 1, .int 0, .int 259, .int 0, .int (-1)]))] s.heap.size = A at hD ⊢
  have hA : ∀ q : Nat, s.heap.size ≤ q → A q := fun q h => by rw [← hAe]; exact Or.inr h
  have hS : va_S A s.heap s.heap [] := va_S.rf
  have hP : va_P G vwCl [(h0, .inr (10, [.ref tp, .int 0, .int (-1), .ref ps, .ref sp, .ref tk, .ref dr, .ref pr, .ref da, .ref nw, .ref im, .int 0, .ref ac, .ref ke, .ref si, .ref tx, .ref an, .ref dw])), (tk, .inr (8, [.ref tk1, .ref tk2, .ref tk3, .ref tk4, .int 1, .int 0, .int 259, .int 0, .int (-1)]))] s.heap := hP
  have inX10 : ∀ w ∈ wsX100, w ∈ wsX10_textWasRead := by decide +kernel
  have inX8 : ∀ w ∈ wsX80, w ∈ wsX10_textWasRead := by decide +kernel
  have hl := lv_entry ([.ref h0, .int 0]) (n := 2) (Nat.le_of_ble_eq_true rfl)
  rw [lg_entry_eq]
  generalize (lg_sl ([.ref h0, .int 0]) ++ List.replicate (2 - (lg_sl ([.ref h0, .int 0])).length) Slot.unset).toArray = ls at hl ⊢
  have hl : lv_has ls 2 [(0, .ref h0), (1, .int 0)] := hl
  refine lv_aload_n hx hb dX10_textWasRead_0 rfl (lv_at hl 0 rfl) ?_
  refine lv_iconst (v := 0) hx hb dX10_textWasRead_1 (by decide) ?_
  refine va_put (D := G) (ci := 10) (v := .int 0) (ty := .int) (C := RX10) (T := TX10) (N := 18) hx hb hts inX10 tyX10 tyX10_ok nmX10 hown hK.1 hP hD hS 0 rfl rfl 1 (by decide) (hts (.fieldLink RX10 114 "NestQuery" "tapeCount" "I") (by decide +kernel)) (fun _ h9 => h9) rfl (by decide +kernel) rfl rfl (Nat.le_of_ble_eq_true rfl) dX10_textWasRead_2 (fun H locs hP hD hS => ?_)
  have hP : va_P G vwCl [(h0, .inr (10, [.ref tp, .int 0, .int (-1), .ref ps, .ref sp, .ref tk, .ref dr, .ref pr, .ref da, .ref nw, .ref im, .int 0, .ref ac, .ref ke, .ref si, .ref tx, .ref an, .ref dw])), (tk, .inr (8, [.ref tk1, .ref tk2, .ref tk3, .ref tk4, .int 1, .int 0, .int 259, .int 0, .int (-1)]))] H := hP
  have hD : va_D A [(h0, .inr (10, [.ref tp, .int 0, .int (-1), .ref ps, .ref sp, .ref tk, .ref dr, .ref pr, .ref da, .ref nw, .ref im, .int 0, .ref ac, .ref ke, .ref si, .ref tx, .ref an, .ref dw])), (tk, .inr (8, [.ref tk1, .ref tk2, .ref tk3, .ref tk4, .int 1, .int 0, .int 259, .int 0, .int (-1)]))] := hD
  refine lv_aload_n hx hb dX10_textWasRead_5 rfl (lv_at hl 0 rfl) ?_
  refine lv_aload_n hx hb dX10_textWasRead_6 rfl (lv_at hl 0 rfl) ?_
  refine va_get (D := G) (ci := 10) (v := .ref tk) (C := RX10) (T := TX10) (N := 18) hx hb hts inX10 hown hK.1 hP 0 rfl rfl 5 (by decide) (hts (.fieldLink RX10 31 "NestQuery" "tokens" "LNestQuery$Tokens;") (by decide +kernel)) (fun _ h9 => h9) rfl dX10_textWasRead_7 ?_
  refine va_getN (D := G) (ci := 8) (v := .int (-1)) (C := RX8) (T := TX8) (N := 9) hx hb hts inX8 hown hK.1 hP 1 rfl rfl 8 (by decide) (nl_8 hK) (fun _ h9 => h9) rfl dX10_textWasRead_10 ?_
  refine va_put (D := G) (ci := 10) (v := .int (-1)) (ty := .int) (C := RX10) (T := TX10) (N := 18) hx hb hts inX10 tyX10 tyX10_ok nmX10 hown hK.1 hP hD hS 0 rfl rfl 2 (by decide) (hts (.fieldLink RX10 13 "NestQuery" "faultPlace" "I") (by decide +kernel)) (fun _ h9 => h9) rfl (by decide +kernel) rfl rfl (Nat.le_of_ble_eq_true rfl) dX10_textWasRead_13 (fun H locs hP hD hS => ?_)
  have hP : va_P G vwCl [(h0, .inr (10, [.ref tp, .int 0, .int (-1), .ref ps, .ref sp, .ref tk, .ref dr, .ref pr, .ref da, .ref nw, .ref im, .int 0, .ref ac, .ref ke, .ref si, .ref tx, .ref an, .ref dw])), (tk, .inr (8, [.ref tk1, .ref tk2, .ref tk3, .ref tk4, .int 1, .int 0, .int 259, .int 0, .int (-1)]))] H := hP
  have hD : va_D A [(h0, .inr (10, [.ref tp, .int 0, .int (-1), .ref ps, .ref sp, .ref tk, .ref dr, .ref pr, .ref da, .ref nw, .ref im, .int 0, .ref ac, .ref ke, .ref si, .ref tx, .ref an, .ref dw])), (tk, .inr (8, [.ref tk1, .ref tk2, .ref tk3, .ref tk4, .int 1, .int 0, .int 259, .int 0, .int (-1)]))] := hD
  refine lv_iload_n hx hb dX10_textWasRead_16 rfl (lv_at hl 1 rfl) ?_
  refine lv_if_eq (tgt := 28) hx hb dX10_textWasRead_17 (by decide) (fun _ => ?_) (fun c_1 => absurd c_1 (by decide))
  have hP9 := hP.sub (ws' := [(h0, .inr (10, [.ref tp, .int 0, .int (-1), .ref ps, .ref sp, .ref tk, .ref dr, .ref pr, .ref da, .ref nw, .ref im, .int 0, .ref ac, .ref ke, .ref si, .ref tx, .ref an, .ref dw]))]) [0] rfl
  have hD9 := hD.sub (ws' := [(h0, .inr (10, [.ref tp, .int 0, .int (-1), .ref ps, .ref sp, .ref tk, .ref dr, .ref pr, .ref da, .ref nw, .ref im, .int 0, .ref ac, .ref ke, .ref si, .ref tx, .ref an, .ref dw]))]) [0] (by decide) rfl
  refine W.widen (k := 0) (n := 0) (Nat.le_of_ble_eq_true rfl) (Nat.le_of_ble_eq_true rfl) ?_
  exact W.vret hx hb hr (fun t ht hW => ⟨⟨(), rfl, trivial, by rw [ht]; exact hP9, by first | exact hD9 | (rw [hAe]; exact hD9)⟩, hS.F ht⟩) hS.2.2 dX10_textWasRead_28

set_option maxHeartbeats 400000 in
set_option maxRecDepth 100000 in
theorem c_Path_clear (l : Launch) (G : va_G) (y : Nat → ClassId) (sz : Nat) (sp : Nat) (sp1 : Nat) (sp2 : Nat) (sp3 : Nat) (sp4 : Nat) (sp5 : Nat) (sp6 : Nat) (sp7 : Nat) (sp8 : Nat) (sp9 : Nat) (sp10 : Nat)  : Met l yX4_clear wsX4_clear ({ frames := 0, cells := 0, slots := 0, locals := 0 }) (nq_P G y sz [.ref sp] [(sp, .inr (4, [.ref sp1, .ref sp2, .ref sp3, .int 0, .ref sp4, .int 0, .ref sp5, .ref sp6, .int 0, .ref sp7, .ref sp8, .ref sp9, .ref sp10, .int 0]))]) (va_Qv (fun (_ : Unit) => True) (fun (u : Unit) t9 => va_P G vwCl ([(sp, .inr (4, [.ref sp1, .ref sp2, .ref sp3, .int 0, .ref sp4, .int 0, .ref sp5, .ref sp6, .int 0, .ref sp7, .ref sp8, .ref sp9, .ref sp10, .int 0]))]) t9.heap ∧ va_D (va_A [(sp, .inr (4, [.ref sp1, .ref sp2, .ref sp3, .int 0, .ref sp4, .int 0, .ref sp5, .ref sp6, .int 0, .ref sp7, .ref sp8, .ref sp9, .ref sp10, .int 0]))] sz) ([(sp, .inr (4, [.ref sp1, .ref sp2, .ref sp3, .int 0, .ref sp4, .int 0, .ref sp5, .ref sp6, .int 0, .ref sp7, .ref sp8, .ref sp9, .ref sp10, .int 0]))])) (va_A [(sp, .inr (4, [.ref sp1, .ref sp2, .ref sp3, .int 0, .ref sp4, .int 0, .ref sp5, .ref sp6, .int 0, .ref sp7, .ref sp8, .ref sp9, .ref sp10, .int 0]))] sz)) 0 0 (va_A [(sp, .inr (4, [.ref sp1, .ref sp2, .ref sp3, .int 0, .ref sp4, .int 0, .ref sp5, .ref sp6, .int 0, .ref sp7, .ref sp8, .ref sp9, .ref sp10, .int 0]))] sz) := by
  refine Met.ofW (cc := cX4_clear) (maxL := 1) (ret := none) (by decide) rfl ?_
  intro p e s m args below meth c s₁ B hml hv
  obtain ⟨rfl, hsz, hP, hK, hD0⟩ := hv
  have hx := B.exec
  have hb := B.bytes
  have hr := B.returns
  have hts := atoms_spec (ws := wsX4_clear) B.pre
  have hown : s.vm.findClass RX4 = some m.cls := findClass_of_methodNamed B.named
  have hlocks := B.notSynchronized
  subst hsz
  have hD := hD0.self (sz := s.heap.size)
  generalize hAe : va_A [(sp, .inr (4, [.ref sp1, .ref sp2, .ref sp3, .int 0, .ref sp4, .int 0, .ref sp5, .ref sp6, .int 0, .ref sp7, .ref sp8, .ref sp9, .ref sp10, .int 0]))] s.heap.size = A at hD ⊢
  have hA : ∀ q : Nat, s.heap.size ≤ q → A q := fun q h => by rw [← hAe]; exact Or.inr h
  have hS : va_S A s.heap s.heap [] := va_S.rf
  have hP : va_P G vwCl [(sp, .inr (4, [.ref sp1, .ref sp2, .ref sp3, .int 0, .ref sp4, .int 0, .ref sp5, .ref sp6, .int 0, .ref sp7, .ref sp8, .ref sp9, .ref sp10, .int 0]))] s.heap := hP
  have inX4 : ∀ w ∈ wsX40, w ∈ wsX4_clear := by decide +kernel
  have hl := lv_entry ([.ref sp]) (n := 1) (Nat.le_of_ble_eq_true rfl)
  rw [lg_entry_eq]
  generalize (lg_sl ([.ref sp]) ++ List.replicate (1 - (lg_sl ([.ref sp])).length) Slot.unset).toArray = ls at hl ⊢
  have hl : lv_has ls 1 [(0, .ref sp)] := hl
  refine lv_aload_n hx hb dX4_clear_0 rfl (lv_at hl 0 rfl) ?_
  refine lv_iconst (v := 0) hx hb dX4_clear_1 (by decide) ?_
  refine va_put (D := G) (ci := 4) (v := .int 0) (ty := .int) (C := RX4) (T := TX4) (N := 14) hx hb hts inX4 tyX4 tyX4_ok nmX4 hown hK.1 hP hD hS 0 rfl rfl 3 (by decide) (hts (.fieldLink RX4 43 "NestQuery$Path" "stepCount" "I") (by decide +kernel)) (fun _ h9 => h9) rfl (by decide +kernel) rfl rfl (Nat.le_of_ble_eq_true rfl) dX4_clear_2 (fun H locs hP hD hS => ?_)
  have hP : va_P G vwCl [(sp, .inr (4, [.ref sp1, .ref sp2, .ref sp3, .int 0, .ref sp4, .int 0, .ref sp5, .ref sp6, .int 0, .ref sp7, .ref sp8, .ref sp9, .ref sp10, .int 0]))] H := hP
  have hD : va_D A [(sp, .inr (4, [.ref sp1, .ref sp2, .ref sp3, .int 0, .ref sp4, .int 0, .ref sp5, .ref sp6, .int 0, .ref sp7, .ref sp8, .ref sp9, .ref sp10, .int 0]))] := hD
  refine lv_aload_n hx hb dX4_clear_5 rfl (lv_at hl 0 rfl) ?_
  refine lv_iconst (v := 0) hx hb dX4_clear_6 (by decide) ?_
  refine va_put (D := G) (ci := 4) (v := .int 0) (ty := .int) (C := RX4) (T := TX4) (N := 14) hx hb hts inX4 tyX4 tyX4_ok nmX4 hown hK.1 hP hD hS 0 rfl rfl 5 (by decide) (hts (.fieldLink RX4 47 "NestQuery$Path" "codeCount" "I") (by decide +kernel)) (fun _ h9 => h9) rfl (by decide +kernel) rfl rfl (Nat.le_of_ble_eq_true rfl) dX4_clear_7 (fun H locs hP hD hS => ?_)
  have hP : va_P G vwCl [(sp, .inr (4, [.ref sp1, .ref sp2, .ref sp3, .int 0, .ref sp4, .int 0, .ref sp5, .ref sp6, .int 0, .ref sp7, .ref sp8, .ref sp9, .ref sp10, .int 0]))] H := hP
  have hD : va_D A [(sp, .inr (4, [.ref sp1, .ref sp2, .ref sp3, .int 0, .ref sp4, .int 0, .ref sp5, .ref sp6, .int 0, .ref sp7, .ref sp8, .ref sp9, .ref sp10, .int 0]))] := hD
  refine lv_aload_n hx hb dX4_clear_10 rfl (lv_at hl 0 rfl) ?_
  refine lv_iconst (v := 0) hx hb dX4_clear_11 (by decide) ?_
  refine va_put (D := G) (ci := 4) (v := .int 0) (ty := .int) (C := RX4) (T := TX4) (N := 14) hx hb hts inX4 tyX4 tyX4_ok nmX4 hown hK.1 hP hD hS 0 rfl rfl 8 (by decide) (hts (.fieldLink RX4 50 "NestQuery$Path" "littleCount" "I") (by decide +kernel)) (fun _ h9 => h9) rfl (by decide +kernel) rfl rfl (Nat.le_of_ble_eq_true rfl) dX4_clear_12 (fun H locs hP hD hS => ?_)
  have hP : va_P G vwCl [(sp, .inr (4, [.ref sp1, .ref sp2, .ref sp3, .int 0, .ref sp4, .int 0, .ref sp5, .ref sp6, .int 0, .ref sp7, .ref sp8, .ref sp9, .ref sp10, .int 0]))] H := hP
  have hD : va_D A [(sp, .inr (4, [.ref sp1, .ref sp2, .ref sp3, .int 0, .ref sp4, .int 0, .ref sp5, .ref sp6, .int 0, .ref sp7, .ref sp8, .ref sp9, .ref sp10, .int 0]))] := hD
  refine lv_aload_n hx hb dX4_clear_15 rfl (lv_at hl 0 rfl) ?_
  refine lv_iconst (v := 0) hx hb dX4_clear_16 (by decide) ?_
  refine va_put (D := G) (ci := 4) (v := .int 0) (ty := .int) (C := RX4) (T := TX4) (N := 14) hx hb hts inX4 tyX4 tyX4_ok nmX4 hown hK.1 hP hD hS 0 rfl rfl 13 (by decide) (hts (.fieldLink RX4 53 "NestQuery$Path" "testCount" "I") (by decide +kernel)) (fun _ h9 => h9) rfl (by decide +kernel) rfl rfl (Nat.le_of_ble_eq_true rfl) dX4_clear_17 (fun H locs hP hD hS => ?_)
  have hP : va_P G vwCl [(sp, .inr (4, [.ref sp1, .ref sp2, .ref sp3, .int 0, .ref sp4, .int 0, .ref sp5, .ref sp6, .int 0, .ref sp7, .ref sp8, .ref sp9, .ref sp10, .int 0]))] H := hP
  have hD : va_D A [(sp, .inr (4, [.ref sp1, .ref sp2, .ref sp3, .int 0, .ref sp4, .int 0, .ref sp5, .ref sp6, .int 0, .ref sp7, .ref sp8, .ref sp9, .ref sp10, .int 0]))] := hD
  have hP9 := hP.sub (ws' := [(sp, .inr (4, [.ref sp1, .ref sp2, .ref sp3, .int 0, .ref sp4, .int 0, .ref sp5, .ref sp6, .int 0, .ref sp7, .ref sp8, .ref sp9, .ref sp10, .int 0]))]) [0] rfl
  have hD9 := hD.sub (ws' := [(sp, .inr (4, [.ref sp1, .ref sp2, .ref sp3, .int 0, .ref sp4, .int 0, .ref sp5, .ref sp6, .int 0, .ref sp7, .ref sp8, .ref sp9, .ref sp10, .int 0]))]) [0] (by decide) rfl
  refine W.widen (k := 0) (n := 0) (Nat.le_of_ble_eq_true rfl) (Nat.le_of_ble_eq_true rfl) ?_
  exact W.vret hx hb hr (fun t ht hW => ⟨⟨(), rfl, trivial, by rw [ht]; exact hP9, by first | exact hD9 | (rw [hAe]; exact hD9)⟩, hS.F ht⟩) hS.2.2 dX4_clear_20

set_option maxHeartbeats 400000 in
set_option maxRecDepth 100000 in
theorem c_PathReader_read (l : Launch) (G : va_G) (y : Nat → ClassId) (sz : Nat) (pr : Nat) (tk : Nat) (tk1 : Nat) (tk2 : Nat) (tk3 : Nat) (tk4 : Nat) (tp : Nat) (sp : Nat) (sp1 : Nat) (sp2 : Nat) (sp3 : Nat) (sp4 : Nat) (sp5 : Nat) (sp6 : Nat) (sp7 : Nat) (sp8 : Nat) (sp9 : Nat) (sp10 : Nat) (f : Nat → Int32)  : Met l yX5_read wsX5_read ({ frames := 2, cells := 0, slots := 0, locals := 67 }) (nq_P G y sz [.ref pr, .ref tp, .int 0, .ref sp] [(pr, .inr (5, [.ref tk])), (tk, .inr (8, [.ref tk1, .ref tk2, .ref tk3, .ref tk4, .int 0, .int 0, .int 0, .int 0, .int (-1)])), (tk1, .inl (y 0, 401, .inl (fun _ => 0))), (tk2, .inl (y 0, 401, .inl (fun _ => 0))), (tk3, .inl (y 0, 401, .inl (fun _ => 0))), (tk4, .inl (y 0, 401, .inl (fun _ => 0))), (tp, .inl (y 0, 400, .inl f)), (sp, .inr (4, [.ref sp1, .ref sp2, .ref sp3, .int 0, .ref sp4, .int 0, .ref sp5, .ref sp6, .int 0, .ref sp7, .ref sp8, .ref sp9, .ref sp10, .int 0]))]) (va_Qi (fun (r : Int32) (_ : Unit) => r = 0) (fun (u : Unit) t9 => va_P G vwCl ([(tk, .inr (8, [.ref tk1, .ref tk2, .ref tk3, .ref tk4, .int 1, .int 0, .int 259, .int 0, .int (-1)])), (sp, .inr (4, [.ref sp1, .ref sp2, .ref sp3, .int 0, .ref sp4, .int 0, .ref sp5, .ref sp6, .int 0, .ref sp7, .ref sp8, .ref sp9, .ref sp10, .int 0]))]) t9.heap ∧ va_D (va_A [(pr, .inr (5, [.ref tk])), (tk, .inr (8, [.ref tk1, .ref tk2, .ref tk3, .ref tk4, .int 0, .int 0, .int 0, .int 0, .int (-1)])), (tk1, .inl (y 0, 401, .inl (fun _ => 0))), (tk2, .inl (y 0, 401, .inl (fun _ => 0))), (tk3, .inl (y 0, 401, .inl (fun _ => 0))), (tk4, .inl (y 0, 401, .inl (fun _ => 0))), (tp, .inl (y 0, 400, .inl f)), (sp, .inr (4, [.ref sp1, .ref sp2, .ref sp3, .int 0, .ref sp4, .int 0, .ref sp5, .ref sp6, .int 0, .ref sp7, .ref sp8, .ref sp9, .ref sp10, .int 0]))] sz) ([(tk, .inr (8, [.ref tk1, .ref tk2, .ref tk3, .ref tk4, .int 1, .int 0, .int 259, .int 0, .int (-1)])), (sp, .inr (4, [.ref sp1, .ref sp2, .ref sp3, .int 0, .ref sp4, .int 0, .ref sp5, .ref sp6, .int 0, .ref sp7, .ref sp8, .ref sp9, .ref sp10, .int 0]))])) (va_A [(pr, .inr (5, [.ref tk])), (tk, .inr (8, [.ref tk1, .ref tk2, .ref tk3, .ref tk4, .int 0, .int 0, .int 0, .int 0, .int (-1)])), (tk1, .inl (y 0, 401, .inl (fun _ => 0))), (tk2, .inl (y 0, 401, .inl (fun _ => 0))), (tk3, .inl (y 0, 401, .inl (fun _ => 0))), (tk4, .inl (y 0, 401, .inl (fun _ => 0))), (tp, .inl (y 0, 400, .inl f)), (sp, .inr (4, [.ref sp1, .ref sp2, .ref sp3, .int 0, .ref sp4, .int 0, .ref sp5, .ref sp6, .int 0, .ref sp7, .ref sp8, .ref sp9, .ref sp10, .int 0]))] sz)) 0 0 (va_A [(pr, .inr (5, [.ref tk])), (tk, .inr (8, [.ref tk1, .ref tk2, .ref tk3, .ref tk4, .int 0, .int 0, .int 0, .int 0, .int (-1)])), (tk1, .inl (y 0, 401, .inl (fun _ => 0))), (tk2, .inl (y 0, 401, .inl (fun _ => 0))), (tk3, .inl (y 0, 401, .inl (fun _ => 0))), (tk4, .inl (y 0, 401, .inl (fun _ => 0))), (tp, .inl (y 0, 400, .inl f)), (sp, .inr (4, [.ref sp1, .ref sp2, .ref sp3, .int 0, .ref sp4, .int 0, .ref sp5, .ref sp6, .int 0, .ref sp7, .ref sp8, .ref sp9, .ref sp10, .int 0]))] sz) := by
  refine Met.ofW (cc := cX5_read) (maxL := 5) (ret := (some .int)) (by decide) rfl ?_
  intro p e s m args below meth c s₁ B hml hv
  obtain ⟨rfl, hsz, hP, hK, hD0⟩ := hv
  have hx := B.exec
  have hb := B.bytes
  have hr := B.returns
  have hts := atoms_spec (ws := wsX5_read) B.pre
  have hown : s.vm.findClass RX5 = some m.cls := findClass_of_methodNamed B.named
  have hlocks := B.notSynchronized
  subst hsz
  have hD := hD0.self (sz := s.heap.size)
  generalize hAe : va_A [(pr, .inr (5, [.ref tk])), (tk, .inr (8, [.ref tk1, .ref tk2, .ref tk3, .ref tk4, .int 0, .int 0, .int 0, .int 0, .int (-1)])), (tk1, .inl (y 0, 401, .inl (fun _ => 0))), (tk2, .inl (y 0, 401, .inl (fun _ => 0))), (tk3, .inl (y 0, 401, .inl (fun _ => 0))), (tk4, .inl (y 0, 401, .inl (fun _ => 0))), (tp, .inl (y 0, 400, .inl f)), (sp, .inr (4, [.ref sp1, .ref sp2, .ref sp3, .int 0, .ref sp4, .int 0, .ref sp5, .ref sp6, .int 0, .ref sp7, .ref sp8, .ref sp9, .ref sp10, .int 0]))] s.heap.size = A at hD ⊢
  have hA : ∀ q : Nat, s.heap.size ≤ q → A q := fun q h => by rw [← hAe]; exact Or.inr h
  have hS : va_S A s.heap s.heap [] := va_S.rf
  have hP : va_P G vwCl [(pr, .inr (5, [.ref tk])), (tk, .inr (8, [.ref tk1, .ref tk2, .ref tk3, .ref tk4, .int 0, .int 0, .int 0, .int 0, .int (-1)])), (tk1, .inl (y 0, 401, .inl (fun _ => 0))), (tk2, .inl (y 0, 401, .inl (fun _ => 0))), (tk3, .inl (y 0, 401, .inl (fun _ => 0))), (tk4, .inl (y 0, 401, .inl (fun _ => 0))), (tp, .inl (y 0, 400, .inl f)), (sp, .inr (4, [.ref sp1, .ref sp2, .ref sp3, .int 0, .ref sp4, .int 0, .ref sp5, .ref sp6, .int 0, .ref sp7, .ref sp8, .ref sp9, .ref sp10, .int 0]))] s.heap := hP
  have inX5 : ∀ w ∈ wsX50, w ∈ wsX5_read := by decide +kernel
  have inX8 : ∀ w ∈ wsX80, w ∈ wsX5_read := by decide +kernel
  have hl := lv_entry ([.ref pr, .ref tp, .int 0, .ref sp]) (n := 5) (Nat.le_of_ble_eq_true rfl)
  rw [lg_entry_eq]
  generalize (lg_sl ([.ref pr, .ref tp, .int 0, .ref sp]) ++ List.replicate (5 - (lg_sl ([.ref pr, .ref tp, .int 0, .ref sp])).length) Slot.unset).toArray = ls at hl ⊢
  have hl : lv_has ls 5 [(0, .ref pr), (1, .ref tp), (2, .int 0), (3, .ref sp)] := hl
  refine lv_aload_n hx hb dX5_read_0 rfl (lv_at hl 0 rfl) ?_
  refine va_get (D := G) (ci := 5) (v := .ref tk) (C := RX5) (T := TX5) (N := 1) hx hb hts inX5 hown hK.1 hP 0 rfl rfl 0 (by decide) (hts (.fieldLink RX5 9 "NestQuery$PathReader" "tokens" "LNestQuery$Tokens;") (by decide +kernel)) (fun _ h9 => h9) rfl dX5_read_1 ?_
  refine lv_aload_n hx hb dX5_read_4 rfl (lv_at hl 1 rfl) ?_
  refine lv_iload_n hx hb dX5_read_5 rfl (lv_at hl 2 rfl) ?_
  refine nq_wrv (wr := [(pr, .inr (5, [.ref tk])), (sp, .inr (4, [.ref sp1, .ref sp2, .ref sp3, .int 0, .ref sp4, .int 0, .ref sp5, .ref sp6, .int 0, .ref sp7, .ref sp8, .ref sp9, .ref sp10, .int 0]))]) (va_runV (As := [.ref tp, .int 0]) (rest := []) ⟨hx, hb, hml, hown, hts⟩ (c_begin l G y s.heap.size tk tk1 tk2 tk3 tk4 tp f ) (cwV 2 hts gX5_read_X8_begin rfl rfl rfl (by decide +kernel) ⟨Nat.le_of_ble_eq_true rfl, Nat.le_of_ble_eq_true rfl⟩) (nq_PV hK hP hD [1, 2, 3, 4, 5, 6] rfl rfl 1 rfl rfl) rfl rfl hl.1 rfl (lv_room (Nat.le_of_ble_eq_true rfl)) dX5_read_6 ⟨Nat.le_of_ble_eq_true rfl, Nat.le_of_ble_eq_true rfl⟩) hP hD hS hA [1, 2, 3, 4, 5, 6] [0, 7] rfl rfl (by decide) (by decide) (fun u_1 H locs hw_2 hP hD hS => ?_)
  have hP : va_P G vwCl [(pr, .inr (5, [.ref tk])), (sp, .inr (4, [.ref sp1, .ref sp2, .ref sp3, .int 0, .ref sp4, .int 0, .ref sp5, .ref sp6, .int 0, .ref sp7, .ref sp8, .ref sp9, .ref sp10, .int 0])), (tk, .inr (8, [.ref tk1, .ref tk2, .ref tk3, .ref tk4, .int 1, .int 0, .int 259, .int 0, .int (-1)])), (tk2, .inl (y 0, 401, .inl (upd (fun _ => 0) 0 0)))] H := hP
  have hD : va_D A [(pr, .inr (5, [.ref tk])), (sp, .inr (4, [.ref sp1, .ref sp2, .ref sp3, .int 0, .ref sp4, .int 0, .ref sp5, .ref sp6, .int 0, .ref sp7, .ref sp8, .ref sp9, .ref sp10, .int 0])), (tk, .inr (8, [.ref tk1, .ref tk2, .ref tk3, .ref tk4, .int 1, .int 0, .int 259, .int 0, .int (-1)])), (tk2, .inl (y 0, 401, .inl (upd (fun _ => 0) 0 0)))] := hD
  refine lv_aload_n hx hb dX5_read_9 rfl (lv_at hl 3 rfl) ?_
  refine nq_wrv (wr := [(pr, .inr (5, [.ref tk])), (tk, .inr (8, [.ref tk1, .ref tk2, .ref tk3, .ref tk4, .int 1, .int 0, .int 259, .int 0, .int (-1)])), (tk2, .inl (y 0, 401, .inl (upd (fun _ => 0) 0 0)))]) (va_runV (As := []) (rest := []) ⟨hx, hb, hml, hown, hts⟩ (c_Path_clear l G y H.size sp sp1 sp2 sp3 sp4 sp5 sp6 sp7 sp8 sp9 sp10 ) (cwV 0 hts gX5_read_X4_clear rfl rfl rfl (by decide +kernel) ⟨Nat.le_of_ble_eq_true rfl, Nat.le_of_ble_eq_true rfl⟩) (nq_PV hK hP hD [1] rfl rfl 1 rfl rfl) rfl rfl hl.1 rfl (lv_room (Nat.le_of_ble_eq_true rfl)) dX5_read_10 ⟨Nat.le_of_ble_eq_true rfl, Nat.le_of_ble_eq_true rfl⟩) hP hD hS hA [1] [0, 2, 3] rfl rfl (by decide) (by decide) (fun u_4 H locs hw_5 hP hD hS => ?_)
  have hP : va_P G vwCl [(pr, .inr (5, [.ref tk])), (tk, .inr (8, [.ref tk1, .ref tk2, .ref tk3, .ref tk4, .int 1, .int 0, .int 259, .int 0, .int (-1)])), (tk2, .inl (y 0, 401, .inl (upd (fun _ => 0) 0 0))), (sp, .inr (4, [.ref sp1, .ref sp2, .ref sp3, .int 0, .ref sp4, .int 0, .ref sp5, .ref sp6, .int 0, .ref sp7, .ref sp8, .ref sp9, .ref sp10, .int 0]))] H := hP
  have hD : va_D A [(pr, .inr (5, [.ref tk])), (tk, .inr (8, [.ref tk1, .ref tk2, .ref tk3, .ref tk4, .int 1, .int 0, .int 259, .int 0, .int (-1)])), (tk2, .inl (y 0, 401, .inl (upd (fun _ => 0) 0 0))), (sp, .inr (4, [.ref sp1, .ref sp2, .ref sp3, .int 0, .ref sp4, .int 0, .ref sp5, .ref sp6, .int 0, .ref sp7, .ref sp8, .ref sp9, .ref sp10, .int 0]))] := hD
  refine lv_iconst (v := 0) hx hb dX5_read_13 (by decide) ?_
  refine lv_istore (lv' := [(4, .int 0), (0, .ref pr), (1, .ref tp), (2, .int 0), (3, .ref sp)]) hx hb dX5_read_14 hl (by decide) rfl (fun ls hl => ?_)
  refine lv_aload_n hx hb dX5_read_16 rfl (lv_at hl 1 rfl) ?_
  refine va_get (D := G) (ci := 5) (v := .ref tk) (C := RX5) (T := TX5) (N := 1) hx hb hts inX5 hown hK.1 hP 0 rfl rfl 0 (by decide) (hts (.fieldLink RX5 9 "NestQuery$PathReader" "tokens" "LNestQuery$Tokens;") (by decide +kernel)) (fun _ h9 => h9) rfl dX5_read_17 ?_
  refine va_getN (D := G) (ci := 8) (v := .int 0) (C := RX8) (T := TX8) (N := 9) hx hb hts inX8 hown hK.1 hP 1 rfl rfl 7 (by decide) (nl_6 hK) (fun _ h9 => h9) rfl dX5_read_20 ?_
  refine lv_if_ne (tgt := 58) hx hb dX5_read_23 (by decide) (fun c_7 => absurd c_7 (by decide)) (fun _ => ?_)
  refine lv_aload_n hx hb dX5_read_26 rfl (lv_at hl 1 rfl) ?_
  refine va_get (D := G) (ci := 5) (v := .ref tk) (C := RX5) (T := TX5) (N := 1) hx hb hts inX5 hown hK.1 hP 0 rfl rfl 0 (by decide) (hts (.fieldLink RX5 9 "NestQuery$PathReader" "tokens" "LNestQuery$Tokens;") (by decide +kernel)) (fun _ h9 => h9) rfl dX5_read_27 ?_
  refine va_getN (D := G) (ci := 8) (v := .int 259) (C := RX8) (T := TX8) (N := 9) hx hb hts inX8 hown hK.1 hP 1 rfl rfl 6 (by decide) (nl_5 hK) (fun _ h9 => h9) rfl dX5_read_30 ?_
  refine lv_sipush (v := 259) hx hb dX5_read_33 (by decide) ?_
  refine lv_icmp_eq (tgt := 58) hx hb dX5_read_36 (by decide) (fun _ => ?_) (fun c_8 => absurd c_8 (by decide))
  refine lv_aload_n hx hb dX5_read_58 rfl (lv_at hl 1 rfl) ?_
  refine va_get (D := G) (ci := 5) (v := .ref tk) (C := RX5) (T := TX5) (N := 1) hx hb hts inX5 hown hK.1 hP 0 rfl rfl 0 (by decide) (hts (.fieldLink RX5 9 "NestQuery$PathReader" "tokens" "LNestQuery$Tokens;") (by decide +kernel)) (fun _ h9 => h9) rfl dX5_read_59 ?_
  refine va_getN (D := G) (ci := 8) (v := .int 0) (C := RX8) (T := TX8) (N := 9) hx hb hts inX8 hown hK.1 hP 1 rfl rfl 7 (by decide) (nl_6 hK) (fun _ h9 => h9) rfl dX5_read_62 ?_
  have hP9 := hP.sub (ws' := [(tk, .inr (8, [.ref tk1, .ref tk2, .ref tk3, .ref tk4, .int 1, .int 0, .int 259, .int 0, .int (-1)])), (sp, .inr (4, [.ref sp1, .ref sp2, .ref sp3, .int 0, .ref sp4, .int 0, .ref sp5, .ref sp6, .int 0, .ref sp7, .ref sp8, .ref sp9, .ref sp10, .int 0]))]) [1, 3] rfl
  have hD9 := hD.sub (ws' := [(tk, .inr (8, [.ref tk1, .ref tk2, .ref tk3, .ref tk4, .int 1, .int 0, .int 259, .int 0, .int (-1)])), (sp, .inr (4, [.ref sp1, .ref sp2, .ref sp3, .int 0, .ref sp4, .int 0, .ref sp5, .ref sp6, .int 0, .ref sp7, .ref sp8, .ref sp9, .ref sp10, .int 0]))]) [1, 3] (by decide) rfl
  refine W.widen (k := 0) (n := 0) (Nat.le_of_ble_eq_true rfl) (Nat.le_of_ble_eq_true rfl) ?_
  exact W.iret (v := 0) hx hb hr (fun t ht hW => ⟨⟨0, (), rfl, rfl, by rw [ht]; exact hP9, by first | exact hD9 | (rw [hAe]; exact hD9)⟩, hS.F ht⟩) hS.2.2 dX5_read_65

set_option maxHeartbeats 400000 in
set_option maxRecDepth 100000 in
theorem c_refusedUnread (l : Launch) (G : va_G) (y : Nat → ClassId) (sz : Nat) (h0 : Nat) (tp : Nat) (ps : Nat) (sp : Nat) (tk : Nat) (dr : Nat) (pr : Nat) (da : Nat) (nw : Nat) (im : Nat) (ac : Nat) (ke : Nat) (si : Nat) (tx : Nat) (an : Nat) (dw : Nat) (nwt : Nat) (nwb : Nat) (nwn : Nat) (nwi : Nat) (nwr : Nat)  : Met l yX10_refusedUnread wsX10_refusedUnread ({ frames := 1, cells := 0, slots := 0, locals := 21 }) (nq_P G y sz [.ref h0] [(h0, .inr (10, [.ref tp, .int 0, .int (-1), .ref ps, .ref sp, .ref tk, .ref dr, .ref pr, .ref da, .ref nw, .ref im, .int 0, .ref ac, .ref ke, .ref si, .ref tx, .ref an, .ref dw])), (nw, .inr (6, [.ref nwt, .ref nwb, .int 0, .ref nwn, .ref nwi, .int 0, .ref nwr])), (nwr, .inl (y 0, 3, .inl (fun _ => 0)))]) (va_Qi (fun (r : Int32) (_ : Unit) => r = (-1)) (fun (u : Unit) t9 => va_P G vwCl ([]) t9.heap ∧ va_D (va_A [(h0, .inr (10, [.ref tp, .int 0, .int (-1), .ref ps, .ref sp, .ref tk, .ref dr, .ref pr, .ref da, .ref nw, .ref im, .int 0, .ref ac, .ref ke, .ref si, .ref tx, .ref an, .ref dw])), (nw, .inr (6, [.ref nwt, .ref nwb, .int 0, .ref nwn, .ref nwi, .int 0, .ref nwr])), (nwr, .inl (y 0, 3, .inl (fun _ => 0)))] sz) ([])) (va_A [(h0, .inr (10, [.ref tp, .int 0, .int (-1), .ref ps, .ref sp, .ref tk, .ref dr, .ref pr, .ref da, .ref nw, .ref im, .int 0, .ref ac, .ref ke, .ref si, .ref tx, .ref an, .ref dw])), (nw, .inr (6, [.ref nwt, .ref nwb, .int 0, .ref nwn, .ref nwi, .int 0, .ref nwr])), (nwr, .inl (y 0, 3, .inl (fun _ => 0)))] sz)) 0 0 (va_A [(h0, .inr (10, [.ref tp, .int 0, .int (-1), .ref ps, .ref sp, .ref tk, .ref dr, .ref pr, .ref da, .ref nw, .ref im, .int 0, .ref ac, .ref ke, .ref si, .ref tx, .ref an, .ref dw])), (nw, .inr (6, [.ref nwt, .ref nwb, .int 0, .ref nwn, .ref nwi, .int 0, .ref nwr])), (nwr, .inl (y 0, 3, .inl (fun _ => 0)))] sz) := by
  refine Met.ofW (cc := cX10_refusedUnread) (maxL := 1) (ret := (some .int)) (by decide) rfl ?_
  intro p e s m args below meth c s₁ B hml hv
  obtain ⟨rfl, hsz, hP, hK, hD0⟩ := hv
  have hx := B.exec
  have hb := B.bytes
  have hr := B.returns
  have hts := atoms_spec (ws := wsX10_refusedUnread) B.pre
  have hown : s.vm.findClass RX10 = some m.cls := findClass_of_methodNamed B.named
  have hlocks := B.notSynchronized
  subst hsz
  have hD := hD0.self (sz := s.heap.size)
  generalize hAe : va_A [(h0, .inr (10, [.ref tp, .int 0, .int (-1), .ref ps, .ref sp, .ref tk, .ref dr, .ref pr, .ref da, .ref nw, .ref im, .int 0, .ref ac, .ref ke, .ref si, .ref tx, .ref an, .ref dw])), (nw, .inr (6, [.ref nwt, .ref nwb, .int 0, .ref nwn, .ref nwi, .int 0, .ref nwr])), (nwr, .inl (y 0, 3, .inl (fun _ => 0)))] s.heap.size = A at hD ⊢
  have hA : ∀ q : Nat, s.heap.size ≤ q → A q := fun q h => by rw [← hAe]; exact Or.inr h
  have hS : va_S A s.heap s.heap [] := va_S.rf
  have hP : va_P G vwCl [(h0, .inr (10, [.ref tp, .int 0, .int (-1), .ref ps, .ref sp, .ref tk, .ref dr, .ref pr, .ref da, .ref nw, .ref im, .int 0, .ref ac, .ref ke, .ref si, .ref tx, .ref an, .ref dw])), (nw, .inr (6, [.ref nwt, .ref nwb, .int 0, .ref nwn, .ref nwi, .int 0, .ref nwr])), (nwr, .inl (y 0, 3, .inl (fun _ => 0)))] s.heap := hP
  have inX10 : ∀ w ∈ wsX100, w ∈ wsX10_refusedUnread := by decide +kernel
  have hl := lv_entry ([.ref h0]) (n := 1) (Nat.le_of_ble_eq_true rfl)
  rw [lg_entry_eq]
  generalize (lg_sl ([.ref h0]) ++ List.replicate (1 - (lg_sl ([.ref h0])).length) Slot.unset).toArray = ls at hl ⊢
  have hl : lv_has ls 1 [(0, .ref h0)] := hl
  refine lv_aload_n hx hb dX10_refusedUnread_0 rfl (lv_at hl 0 rfl) ?_
  refine lv_iconst (v := 0) hx hb dX10_refusedUnread_1 (by decide) ?_
  refine va_put (D := G) (ci := 10) (v := .int 0) (ty := .int) (C := RX10) (T := TX10) (N := 18) hx hb hts inX10 tyX10 tyX10_ok nmX10 hown hK.1 hP hD hS 0 rfl rfl 1 (by decide) (hts (.fieldLink RX10 114 "NestQuery" "tapeCount" "I") (by decide +kernel)) (fun _ h9 => h9) rfl (by decide +kernel) rfl rfl (Nat.le_of_ble_eq_true rfl) dX10_refusedUnread_2 (fun H locs hP hD hS => ?_)
  have hP : va_P G vwCl [(h0, .inr (10, [.ref tp, .int 0, .int (-1), .ref ps, .ref sp, .ref tk, .ref dr, .ref pr, .ref da, .ref nw, .ref im, .int 0, .ref ac, .ref ke, .ref si, .ref tx, .ref an, .ref dw])), (nw, .inr (6, [.ref nwt, .ref nwb, .int 0, .ref nwn, .ref nwi, .int 0, .ref nwr])), (nwr, .inl (y 0, 3, .inl (fun _ => 0)))] H := hP
  have hD : va_D A [(h0, .inr (10, [.ref tp, .int 0, .int (-1), .ref ps, .ref sp, .ref tk, .ref dr, .ref pr, .ref da, .ref nw, .ref im, .int 0, .ref ac, .ref ke, .ref si, .ref tx, .ref an, .ref dw])), (nw, .inr (6, [.ref nwt, .ref nwb, .int 0, .ref nwn, .ref nwi, .int 0, .ref nwr])), (nwr, .inl (y 0, 3, .inl (fun _ => 0)))] := hD
  refine lv_aload_n hx hb dX10_refusedUnread_5 rfl (lv_at hl 0 rfl) ?_
  refine va_get (D := G) (ci := 10) (v := .ref nw) (C := RX10) (T := TX10) (N := 18) hx hb hts inX10 hown hK.1 hP 0 rfl rfl 9 (by decide) (hts (.fieldLink RX10 63 "NestQuery" "now" "LNestQuery$State;") (by decide +kernel)) (fun _ h9 => h9) rfl dX10_refusedUnread_6 ?_
  refine lv_iconst (v := 1) hx hb dX10_refusedUnread_9 (by decide) ?_
  refine nq_wrv (wr := [(h0, .inr (10, [.ref tp, .int 0, .int (-1), .ref ps, .ref sp, .ref tk, .ref dr, .ref pr, .ref da, .ref nw, .ref im, .int 0, .ref ac, .ref ke, .ref si, .ref tx, .ref an, .ref dw]))]) (va_runV (As := [.int 1]) (rest := []) ⟨hx, hb, hml, hown, hts⟩ (c_refuse1 l G y H.size nw nwt nwb nwn nwi nwr ) (cwV 1 hts gX10_refusedUnread_X6_refuse rfl rfl rfl (by decide +kernel) ⟨Nat.le_of_ble_eq_true rfl, Nat.le_of_ble_eq_true rfl⟩) (nq_PV hK hP hD [1, 2] rfl rfl 1 rfl rfl) rfl rfl hl.1 rfl (lv_room (Nat.le_of_ble_eq_true rfl)) dX10_refusedUnread_10 ⟨Nat.le_of_ble_eq_true rfl, Nat.le_of_ble_eq_true rfl⟩) hP hD hS hA [1, 2] [0] rfl rfl (by decide) (by decide) (fun u_1 H locs hw_2 hP hD hS => ?_)
  have hP : va_P G vwCl [(h0, .inr (10, [.ref tp, .int 0, .int (-1), .ref ps, .ref sp, .ref tk, .ref dr, .ref pr, .ref da, .ref nw, .ref im, .int 0, .ref ac, .ref ke, .ref si, .ref tx, .ref an, .ref dw]))] H := hP
  have hD : va_D A [(h0, .inr (10, [.ref tp, .int 0, .int (-1), .ref ps, .ref sp, .ref tk, .ref dr, .ref pr, .ref da, .ref nw, .ref im, .int 0, .ref ac, .ref ke, .ref si, .ref tx, .ref an, .ref dw]))] := hD
  refine lv_iconst (v := (-1)) hx hb dX10_refusedUnread_13 (by decide) ?_
  have hP9 := hP.sub (ws' := []) [] rfl
  have hD9 := hD.sub (ws' := []) [] (by decide) rfl
  refine W.widen (k := 0) (n := 0) (Nat.le_of_ble_eq_true rfl) (Nat.le_of_ble_eq_true rfl) ?_
  exact W.iret (v := (-1)) hx hb hr (fun t ht hW => ⟨⟨(-1), (), rfl, rfl, by rw [ht]; exact hP9, by first | exact hD9 | (rw [hAe]; exact hD9)⟩, hS.F ht⟩) hS.2.2 dX10_refusedUnread_14

set_option maxHeartbeats 400000 in
set_option maxRecDepth 100000 in
theorem c_Text_clear (l : Launch) (G : va_G) (y : Nat → ClassId) (sz : Nat) (tx : Nat) (txb : Nat)  : Met l yX7_clear wsX7_clear ({ frames := 0, cells := 0, slots := 0, locals := 0 }) (nq_P G y sz [.ref tx] [(tx, .inr (7, [.ref txb, .int 0]))]) (va_Qv (fun (_ : Unit) => True) (fun (u : Unit) t9 => va_P G vwCl ([(tx, .inr (7, [.ref txb, .int 0]))]) t9.heap ∧ va_D (va_A [(tx, .inr (7, [.ref txb, .int 0]))] sz) ([(tx, .inr (7, [.ref txb, .int 0]))])) (va_A [(tx, .inr (7, [.ref txb, .int 0]))] sz)) 0 0 (va_A [(tx, .inr (7, [.ref txb, .int 0]))] sz) := by
  refine Met.ofW (cc := cX7_clear) (maxL := 1) (ret := none) (by decide) rfl ?_
  intro p e s m args below meth c s₁ B hml hv
  obtain ⟨rfl, hsz, hP, hK, hD0⟩ := hv
  have hx := B.exec
  have hb := B.bytes
  have hr := B.returns
  have hts := atoms_spec (ws := wsX7_clear) B.pre
  have hown : s.vm.findClass RX7 = some m.cls := findClass_of_methodNamed B.named
  have hlocks := B.notSynchronized
  subst hsz
  have hD := hD0.self (sz := s.heap.size)
  generalize hAe : va_A [(tx, .inr (7, [.ref txb, .int 0]))] s.heap.size = A at hD ⊢
  have hA : ∀ q : Nat, s.heap.size ≤ q → A q := fun q h => by rw [← hAe]; exact Or.inr h
  have hS : va_S A s.heap s.heap [] := va_S.rf
  have hP : va_P G vwCl [(tx, .inr (7, [.ref txb, .int 0]))] s.heap := hP
  have inX7 : ∀ w ∈ wsX70, w ∈ wsX7_clear := by decide +kernel
  have hl := lv_entry ([.ref tx]) (n := 1) (Nat.le_of_ble_eq_true rfl)
  rw [lg_entry_eq]
  generalize (lg_sl ([.ref tx]) ++ List.replicate (1 - (lg_sl ([.ref tx])).length) Slot.unset).toArray = ls at hl ⊢
  have hl : lv_has ls 1 [(0, .ref tx)] := hl
  refine lv_aload_n hx hb dX7_clear_0 rfl (lv_at hl 0 rfl) ?_
  refine lv_iconst (v := 0) hx hb dX7_clear_1 (by decide) ?_
  refine va_put (D := G) (ci := 7) (v := .int 0) (ty := .int) (C := RX7) (T := TX7) (N := 2) hx hb hts inX7 tyX7 tyX7_ok nmX7 hown hK.1 hP hD hS 0 rfl rfl 1 (by decide) (hts (.fieldLink RX7 15 "NestQuery$TextOut" "length" "I") (by decide +kernel)) (fun _ h9 => h9) rfl (by decide +kernel) rfl rfl (Nat.le_of_ble_eq_true rfl) dX7_clear_2 (fun H locs hP hD hS => ?_)
  have hP : va_P G vwCl [(tx, .inr (7, [.ref txb, .int 0]))] H := hP
  have hD : va_D A [(tx, .inr (7, [.ref txb, .int 0]))] := hD
  have hP9 := hP.sub (ws' := [(tx, .inr (7, [.ref txb, .int 0]))]) [0] rfl
  have hD9 := hD.sub (ws' := [(tx, .inr (7, [.ref txb, .int 0]))]) [0] (by decide) rfl
  refine W.widen (k := 0) (n := 0) (Nat.le_of_ble_eq_true rfl) (Nat.le_of_ble_eq_true rfl) ?_
  exact W.vret hx hb hr (fun t ht hW => ⟨⟨(), rfl, trivial, by rw [ht]; exact hP9, by first | exact hD9 | (rw [hAe]; exact hD9)⟩, hS.F ht⟩) hS.2.2 dX7_clear_5

set_option maxHeartbeats 400000 in
set_option maxRecDepth 100000 in
theorem c_write0 (l : Launch) (G : va_G) (y : Nat → ClassId) (sz : Nat) (tx : Nat) (txb : Nat)  : Met l yX7_write wsX7_write ({ frames := 0, cells := 0, slots := 0, locals := 0 }) (nq_P G y sz [.ref tx, .int 123] [(tx, .inr (7, [.ref txb, .int 0])), (txb, .inl (y 0, 1024, .inl (fun _ => 0)))]) (va_Qv (fun (_ : Unit) => True) (fun (u : Unit) t9 => va_P G vwCl ([(tx, .inr (7, [.ref txb, .int 1])), (txb, .inl (y 0, 1024, .inl (upd (fun _ => 0) 0 123)))]) t9.heap ∧ va_D (va_A [(tx, .inr (7, [.ref txb, .int 0])), (txb, .inl (y 0, 1024, .inl (fun _ => 0)))] sz) ([(tx, .inr (7, [.ref txb, .int 1])), (txb, .inl (y 0, 1024, .inl (upd (fun _ => 0) 0 123)))])) (va_A [(tx, .inr (7, [.ref txb, .int 0])), (txb, .inl (y 0, 1024, .inl (fun _ => 0)))] sz)) 0 0 (va_A [(tx, .inr (7, [.ref txb, .int 0])), (txb, .inl (y 0, 1024, .inl (fun _ => 0)))] sz) := by
  refine Met.ofW (cc := cX7_write) (maxL := 2) (ret := none) (by decide) rfl ?_
  intro p e s m args below meth c s₁ B hml hv
  obtain ⟨rfl, hsz, hP, hK, hD0⟩ := hv
  have hx := B.exec
  have hb := B.bytes
  have hr := B.returns
  have hts := atoms_spec (ws := wsX7_write) B.pre
  have hown : s.vm.findClass RX7 = some m.cls := findClass_of_methodNamed B.named
  have hlocks := B.notSynchronized
  subst hsz
  have hD := hD0.self (sz := s.heap.size)
  generalize hAe : va_A [(tx, .inr (7, [.ref txb, .int 0])), (txb, .inl (y 0, 1024, .inl (fun _ => 0)))] s.heap.size = A at hD ⊢
  have hA : ∀ q : Nat, s.heap.size ≤ q → A q := fun q h => by rw [← hAe]; exact Or.inr h
  have hS : va_S A s.heap s.heap [] := va_S.rf
  have hP : va_P G vwCl [(tx, .inr (7, [.ref txb, .int 0])), (txb, .inl (y 0, 1024, .inl (fun _ => 0)))] s.heap := hP
  have inX7 : ∀ w ∈ wsX70, w ∈ wsX7_write := by decide +kernel
  have hl := lv_entry ([.ref tx, .int 123]) (n := 2) (Nat.le_of_ble_eq_true rfl)
  rw [lg_entry_eq]
  generalize (lg_sl ([.ref tx, .int 123]) ++ List.replicate (2 - (lg_sl ([.ref tx, .int 123])).length) Slot.unset).toArray = ls at hl ⊢
  have hl : lv_has ls 2 [(0, .ref tx), (1, .int 123)] := hl
  refine lv_aload_n hx hb dX7_write_0 rfl (lv_at hl 0 rfl) ?_
  refine va_get (D := G) (ci := 7) (v := .int 0) (C := RX7) (T := TX7) (N := 2) hx hb hts inX7 hown hK.1 hP 0 rfl rfl 1 (by decide) (hts (.fieldLink RX7 15 "NestQuery$TextOut" "length" "I") (by decide +kernel)) (fun _ h9 => h9) rfl dX7_write_1 ?_
  refine lv_if_lt (tgt := 37) hx hb dX7_write_4 (by decide) (fun c_1 => absurd c_1 (by decide)) (fun _ => ?_)
  refine lv_aload_n hx hb dX7_write_7 rfl (lv_at hl 0 rfl) ?_
  refine va_get (D := G) (ci := 7) (v := .int 0) (C := RX7) (T := TX7) (N := 2) hx hb hts inX7 hown hK.1 hP 0 rfl rfl 1 (by decide) (hts (.fieldLink RX7 15 "NestQuery$TextOut" "length" "I") (by decide +kernel)) (fun _ h9 => h9) rfl dX7_write_8 ?_
  refine lv_sipush (v := 1024) hx hb dX7_write_11 (by decide) ?_
  refine lv_icmp_ge (tgt := 37) hx hb dX7_write_14 (by decide) (fun c_2 => absurd c_2 (by decide)) (fun _ => ?_)
  refine lv_aload_n hx hb dX7_write_17 rfl (lv_at hl 0 rfl) ?_
  refine va_get (D := G) (ci := 7) (v := .ref txb) (C := RX7) (T := TX7) (N := 2) hx hb hts inX7 hown hK.1 hP 0 rfl rfl 0 (by decide) (hts (.fieldLink RX7 11 "NestQuery$TextOut" "bytes" "[I") (by decide +kernel)) (fun _ h9 => h9) rfl dX7_write_18 ?_
  refine lv_aload_n hx hb dX7_write_21 rfl (lv_at hl 0 rfl) ?_
  refine va_get (D := G) (ci := 7) (v := .int 0) (C := RX7) (T := TX7) (N := 2) hx hb hts inX7 hown hK.1 hP 0 rfl rfl 1 (by decide) (hts (.fieldLink RX7 15 "NestQuery$TextOut" "length" "I") (by decide +kernel)) (fun _ h9 => h9) rfl dX7_write_22 ?_
  refine lv_iload_n hx hb dX7_write_25 rfl (lv_at hl 1 rfl) ?_
  refine va_iast hx hb hK.1 hP hD hS 1 0 rfl rfl (i := 0) (nq_in (by decide)) dX7_write_26 (fun H locs hP hD hS => ?_)
  have hP : va_P G vwCl [(tx, .inr (7, [.ref txb, .int 0])), (txb, .inl (y 0, 1024, .inl (upd (fun _ => 0) 0 123)))] H := hP
  have hD : va_D A [(tx, .inr (7, [.ref txb, .int 0])), (txb, .inl (y 0, 1024, .inl (upd (fun _ => 0) 0 123)))] := hD
  refine lv_aload_n hx hb dX7_write_27 rfl (lv_at hl 0 rfl) ?_
  refine lv_dup hx hb dX7_write_28 rfl ?_
  refine va_get (D := G) (ci := 7) (v := .int 0) (C := RX7) (T := TX7) (N := 2) hx hb hts inX7 hown hK.1 hP 0 rfl rfl 1 (by decide) (hts (.fieldLink RX7 15 "NestQuery$TextOut" "length" "I") (by decide +kernel)) (fun _ h9 => h9) rfl dX7_write_29 ?_
  refine lv_iconst (v := 1) hx hb dX7_write_32 (by decide) ?_
  refine lv_iadd hx hb dX7_write_33 ?_
  refine nq_top (z := 1) (by decide) ?_
  refine va_put (D := G) (ci := 7) (v := .int 1) (ty := .int) (C := RX7) (T := TX7) (N := 2) hx hb hts inX7 tyX7 tyX7_ok nmX7 hown hK.1 hP hD hS 0 rfl rfl 1 (by decide) (hts (.fieldLink RX7 15 "NestQuery$TextOut" "length" "I") (by decide +kernel)) (fun _ h9 => h9) rfl (by decide +kernel) rfl rfl (Nat.le_of_ble_eq_true rfl) dX7_write_34 (fun H locs hP hD hS => ?_)
  have hP : va_P G vwCl [(tx, .inr (7, [.ref txb, .int 1])), (txb, .inl (y 0, 1024, .inl (upd (fun _ => 0) 0 123)))] H := hP
  have hD : va_D A [(tx, .inr (7, [.ref txb, .int 1])), (txb, .inl (y 0, 1024, .inl (upd (fun _ => 0) 0 123)))] := hD
  have hP9 := hP.sub (ws' := [(tx, .inr (7, [.ref txb, .int 1])), (txb, .inl (y 0, 1024, .inl (upd (fun _ => 0) 0 123)))]) [0, 1] rfl
  have hD9 := hD.sub (ws' := [(tx, .inr (7, [.ref txb, .int 1])), (txb, .inl (y 0, 1024, .inl (upd (fun _ => 0) 0 123)))]) [0, 1] (by decide) rfl
  refine W.widen (k := 0) (n := 0) (Nat.le_of_ble_eq_true rfl) (Nat.le_of_ble_eq_true rfl) ?_
  exact W.vret hx hb hr (fun t ht hW => ⟨⟨(), rfl, trivial, by rw [ht]; exact hP9, by first | exact hD9 | (rw [hAe]; exact hD9)⟩, hS.F ht⟩) hS.2.2 dX7_write_37

set_option maxHeartbeats 400000 in
set_option maxRecDepth 100000 in
theorem c_write1 (l : Launch) (G : va_G) (y : Nat → ClassId) (sz : Nat) (tx : Nat) (txb : Nat)  : Met l yX7_write wsX7_write ({ frames := 0, cells := 0, slots := 0, locals := 0 }) (nq_P G y sz [.ref tx, .int 125] [(tx, .inr (7, [.ref txb, .int 1])), (txb, .inl (y 0, 1024, .inl (upd (fun _ => 0) 0 123)))]) (va_Qv (fun (_ : Unit) => True) (fun (u : Unit) t9 => va_P G vwCl ([(tx, .inr (7, [.ref txb, .int 2])), (txb, .inl (y 0, 1024, .inl (upd (upd (fun _ => 0) 0 123) 1 125)))]) t9.heap ∧ va_D (va_A [(tx, .inr (7, [.ref txb, .int 1])), (txb, .inl (y 0, 1024, .inl (upd (fun _ => 0) 0 123)))] sz) ([(tx, .inr (7, [.ref txb, .int 2])), (txb, .inl (y 0, 1024, .inl (upd (upd (fun _ => 0) 0 123) 1 125)))])) (va_A [(tx, .inr (7, [.ref txb, .int 1])), (txb, .inl (y 0, 1024, .inl (upd (fun _ => 0) 0 123)))] sz)) 0 0 (va_A [(tx, .inr (7, [.ref txb, .int 1])), (txb, .inl (y 0, 1024, .inl (upd (fun _ => 0) 0 123)))] sz) := by
  refine Met.ofW (cc := cX7_write) (maxL := 2) (ret := none) (by decide) rfl ?_
  intro p e s m args below meth c s₁ B hml hv
  obtain ⟨rfl, hsz, hP, hK, hD0⟩ := hv
  have hx := B.exec
  have hb := B.bytes
  have hr := B.returns
  have hts := atoms_spec (ws := wsX7_write) B.pre
  have hown : s.vm.findClass RX7 = some m.cls := findClass_of_methodNamed B.named
  have hlocks := B.notSynchronized
  subst hsz
  have hD := hD0.self (sz := s.heap.size)
  generalize hAe : va_A [(tx, .inr (7, [.ref txb, .int 1])), (txb, .inl (y 0, 1024, .inl (upd (fun _ => 0) 0 123)))] s.heap.size = A at hD ⊢
  have hA : ∀ q : Nat, s.heap.size ≤ q → A q := fun q h => by rw [← hAe]; exact Or.inr h
  have hS : va_S A s.heap s.heap [] := va_S.rf
  have hP : va_P G vwCl [(tx, .inr (7, [.ref txb, .int 1])), (txb, .inl (y 0, 1024, .inl (upd (fun _ => 0) 0 123)))] s.heap := hP
  have inX7 : ∀ w ∈ wsX70, w ∈ wsX7_write := by decide +kernel
  have hl := lv_entry ([.ref tx, .int 125]) (n := 2) (Nat.le_of_ble_eq_true rfl)
  rw [lg_entry_eq]
  generalize (lg_sl ([.ref tx, .int 125]) ++ List.replicate (2 - (lg_sl ([.ref tx, .int 125])).length) Slot.unset).toArray = ls at hl ⊢
  have hl : lv_has ls 2 [(0, .ref tx), (1, .int 125)] := hl
  refine lv_aload_n hx hb dX7_write_0 rfl (lv_at hl 0 rfl) ?_
  refine va_get (D := G) (ci := 7) (v := .int 1) (C := RX7) (T := TX7) (N := 2) hx hb hts inX7 hown hK.1 hP 0 rfl rfl 1 (by decide) (hts (.fieldLink RX7 15 "NestQuery$TextOut" "length" "I") (by decide +kernel)) (fun _ h9 => h9) rfl dX7_write_1 ?_
  refine lv_if_lt (tgt := 37) hx hb dX7_write_4 (by decide) (fun c_1 => absurd c_1 (by decide)) (fun _ => ?_)
  refine lv_aload_n hx hb dX7_write_7 rfl (lv_at hl 0 rfl) ?_
  refine va_get (D := G) (ci := 7) (v := .int 1) (C := RX7) (T := TX7) (N := 2) hx hb hts inX7 hown hK.1 hP 0 rfl rfl 1 (by decide) (hts (.fieldLink RX7 15 "NestQuery$TextOut" "length" "I") (by decide +kernel)) (fun _ h9 => h9) rfl dX7_write_8 ?_
  refine lv_sipush (v := 1024) hx hb dX7_write_11 (by decide) ?_
  refine lv_icmp_ge (tgt := 37) hx hb dX7_write_14 (by decide) (fun c_2 => absurd c_2 (by decide)) (fun _ => ?_)
  refine lv_aload_n hx hb dX7_write_17 rfl (lv_at hl 0 rfl) ?_
  refine va_get (D := G) (ci := 7) (v := .ref txb) (C := RX7) (T := TX7) (N := 2) hx hb hts inX7 hown hK.1 hP 0 rfl rfl 0 (by decide) (hts (.fieldLink RX7 11 "NestQuery$TextOut" "bytes" "[I") (by decide +kernel)) (fun _ h9 => h9) rfl dX7_write_18 ?_
  refine lv_aload_n hx hb dX7_write_21 rfl (lv_at hl 0 rfl) ?_
  refine va_get (D := G) (ci := 7) (v := .int 1) (C := RX7) (T := TX7) (N := 2) hx hb hts inX7 hown hK.1 hP 0 rfl rfl 1 (by decide) (hts (.fieldLink RX7 15 "NestQuery$TextOut" "length" "I") (by decide +kernel)) (fun _ h9 => h9) rfl dX7_write_22 ?_
  refine lv_iload_n hx hb dX7_write_25 rfl (lv_at hl 1 rfl) ?_
  refine va_iast hx hb hK.1 hP hD hS 1 0 rfl rfl (i := 1) (nq_in (by decide)) dX7_write_26 (fun H locs hP hD hS => ?_)
  have hP : va_P G vwCl [(tx, .inr (7, [.ref txb, .int 1])), (txb, .inl (y 0, 1024, .inl (upd (upd (fun _ => 0) 0 123) 1 125)))] H := hP
  have hD : va_D A [(tx, .inr (7, [.ref txb, .int 1])), (txb, .inl (y 0, 1024, .inl (upd (upd (fun _ => 0) 0 123) 1 125)))] := hD
  refine lv_aload_n hx hb dX7_write_27 rfl (lv_at hl 0 rfl) ?_
  refine lv_dup hx hb dX7_write_28 rfl ?_
  refine va_get (D := G) (ci := 7) (v := .int 1) (C := RX7) (T := TX7) (N := 2) hx hb hts inX7 hown hK.1 hP 0 rfl rfl 1 (by decide) (hts (.fieldLink RX7 15 "NestQuery$TextOut" "length" "I") (by decide +kernel)) (fun _ h9 => h9) rfl dX7_write_29 ?_
  refine lv_iconst (v := 1) hx hb dX7_write_32 (by decide) ?_
  refine lv_iadd hx hb dX7_write_33 ?_
  refine nq_top (z := 2) (by decide) ?_
  refine va_put (D := G) (ci := 7) (v := .int 2) (ty := .int) (C := RX7) (T := TX7) (N := 2) hx hb hts inX7 tyX7 tyX7_ok nmX7 hown hK.1 hP hD hS 0 rfl rfl 1 (by decide) (hts (.fieldLink RX7 15 "NestQuery$TextOut" "length" "I") (by decide +kernel)) (fun _ h9 => h9) rfl (by decide +kernel) rfl rfl (Nat.le_of_ble_eq_true rfl) dX7_write_34 (fun H locs hP hD hS => ?_)
  have hP : va_P G vwCl [(tx, .inr (7, [.ref txb, .int 2])), (txb, .inl (y 0, 1024, .inl (upd (upd (fun _ => 0) 0 123) 1 125)))] H := hP
  have hD : va_D A [(tx, .inr (7, [.ref txb, .int 2])), (txb, .inl (y 0, 1024, .inl (upd (upd (fun _ => 0) 0 123) 1 125)))] := hD
  have hP9 := hP.sub (ws' := [(tx, .inr (7, [.ref txb, .int 2])), (txb, .inl (y 0, 1024, .inl (upd (upd (fun _ => 0) 0 123) 1 125)))]) [0, 1] rfl
  have hD9 := hD.sub (ws' := [(tx, .inr (7, [.ref txb, .int 2])), (txb, .inl (y 0, 1024, .inl (upd (upd (fun _ => 0) 0 123) 1 125)))]) [0, 1] (by decide) rfl
  refine W.widen (k := 0) (n := 0) (Nat.le_of_ble_eq_true rfl) (Nat.le_of_ble_eq_true rfl) ?_
  exact W.vret hx hb hr (fun t ht hW => ⟨⟨(), rfl, trivial, by rw [ht]; exact hP9, by first | exact hD9 | (rw [hAe]; exact hD9)⟩, hS.F ht⟩) hS.2.2 dX7_write_37

set_option maxHeartbeats 400000 in
set_option maxRecDepth 100000 in
theorem c_writePath (l : Launch) (G : va_G) (y : Nat → ClassId) (sz : Nat) (tx : Nat) (txb : Nat) (nwt : Nat) (nwtk : Nat) (nwtv : Nat) (nwte : Nat) (nwtd : Nat)  : Met l yX7_writePath wsX7_writePath ({ frames := 1, cells := 0, slots := 0, locals := 21 }) (nq_P G y sz [.ref tx, .ref nwt, .int 0] [(tx, .inr (7, [.ref txb, .int 0])), (nwt, .inr (9, [.ref nwtk, .ref nwtv, .ref nwte, .ref nwtd, .int 1])), (nwtd, .inl (y 0, 60, .inl (upd (fun _ => 0) 0 0)))]) (va_Qv (fun (_ : Unit) => True) (fun (u : Unit) t9 => va_P G vwCl ([(tx, .inr (7, [.ref txb, .int 0]))]) t9.heap ∧ va_D (va_A [(tx, .inr (7, [.ref txb, .int 0])), (nwt, .inr (9, [.ref nwtk, .ref nwtv, .ref nwte, .ref nwtd, .int 1])), (nwtd, .inl (y 0, 60, .inl (upd (fun _ => 0) 0 0)))] sz) ([(tx, .inr (7, [.ref txb, .int 0]))])) (va_A [(tx, .inr (7, [.ref txb, .int 0])), (nwt, .inr (9, [.ref nwtk, .ref nwtv, .ref nwte, .ref nwtd, .int 1])), (nwtd, .inl (y 0, 60, .inl (upd (fun _ => 0) 0 0)))] sz)) 0 0 (va_A [(tx, .inr (7, [.ref txb, .int 0])), (nwt, .inr (9, [.ref nwtk, .ref nwtv, .ref nwte, .ref nwtd, .int 1])), (nwtd, .inl (y 0, 60, .inl (upd (fun _ => 0) 0 0)))] sz) := by
  refine Met.ofW (cc := cX7_writePath) (maxL := 6) (ret := none) (by decide) rfl ?_
  intro p e s m args below meth c s₁ B hml hv
  obtain ⟨rfl, hsz, hP, hK, hD0⟩ := hv
  have hx := B.exec
  have hb := B.bytes
  have hr := B.returns
  have hts := atoms_spec (ws := wsX7_writePath) B.pre
  have hown : s.vm.findClass RX7 = some m.cls := findClass_of_methodNamed B.named
  have hlocks := B.notSynchronized
  subst hsz
  have hD := hD0.self (sz := s.heap.size)
  generalize hAe : va_A [(tx, .inr (7, [.ref txb, .int 0])), (nwt, .inr (9, [.ref nwtk, .ref nwtv, .ref nwte, .ref nwtd, .int 1])), (nwtd, .inl (y 0, 60, .inl (upd (fun _ => 0) 0 0)))] s.heap.size = A at hD ⊢
  have hA : ∀ q : Nat, s.heap.size ≤ q → A q := fun q h => by rw [← hAe]; exact Or.inr h
  have hS : va_S A s.heap s.heap [] := va_S.rf
  have hP : va_P G vwCl [(tx, .inr (7, [.ref txb, .int 0])), (nwt, .inr (9, [.ref nwtk, .ref nwtv, .ref nwte, .ref nwtd, .int 1])), (nwtd, .inl (y 0, 60, .inl (upd (fun _ => 0) 0 0)))] s.heap := hP
  have hl := lv_entry ([.ref tx, .ref nwt, .int 0]) (n := 6) (Nat.le_of_ble_eq_true rfl)
  rw [lg_entry_eq]
  generalize (lg_sl ([.ref tx, .ref nwt, .int 0]) ++ List.replicate (6 - (lg_sl ([.ref tx, .ref nwt, .int 0])).length) Slot.unset).toArray = ls at hl ⊢
  have hl : lv_has ls 6 [(0, .ref tx), (1, .ref nwt), (2, .int 0)] := hl
  refine lv_aload_n hx hb dX7_writePath_0 rfl (lv_at hl 1 rfl) ?_
  refine lv_iload_n hx hb dX7_writePath_1 rfl (lv_at hl 2 rfl) ?_
  refine nq_rdi (va_runV (As := [.int 0]) (rest := []) ⟨hx, hb, hml, hown, hts⟩ (c_depthAt l G y s.heap.size nwt nwtk nwtv nwte nwtd (upd (fun _ => 0) 0 0) (pk_us)) (cwV 1 hts gX7_writePath_X9_depthAt rfl rfl rfl (by decide +kernel) ⟨Nat.le_of_ble_eq_true rfl, Nat.le_of_ble_eq_true rfl⟩) (nq_PV hK hP hD [1, 2] rfl rfl 1 rfl rfl) rfl rfl hl.1 rfl (lv_room (Nat.le_of_ble_eq_true rfl)) dX7_writePath_2 ⟨Nat.le_of_ble_eq_true rfl, Nat.le_of_ble_eq_true rfl⟩) hP hS hA (fun r_1 H locs hw_2 hP hS => ?_)
  subst hw_2
  refine lv_istore_n (lv' := [(3, .int 0), (0, .ref tx), (1, .ref nwt), (2, .int 0)]) hx hb dX7_writePath_5 rfl hl (by decide) rfl (fun ls hl => ?_)
  refine lv_iconst (v := 1) hx hb dX7_writePath_6 (by decide) ?_
  refine lv_istore (lv' := [(4, .int 1), (3, .int 0), (0, .ref tx), (1, .ref nwt), (2, .int 0)]) hx hb dX7_writePath_7 hl (by decide) rfl (fun ls hl => ?_)
  refine lv_iload hx hb dX7_writePath_9 (lv_at hl 0 rfl) ?_
  refine lv_iload_n hx hb dX7_writePath_11 rfl (lv_at hl 1 rfl) ?_
  refine lv_icmp_gt (tgt := 85) hx hb dX7_writePath_12 (by decide) (fun _ => ?_) (fun c_3 => absurd c_3 (by decide))
  have hP9 := hP.sub (ws' := [(tx, .inr (7, [.ref txb, .int 0]))]) [0] rfl
  have hD9 := hD.sub (ws' := [(tx, .inr (7, [.ref txb, .int 0]))]) [0] (by decide) rfl
  refine W.widen (k := 0) (n := 0) (Nat.le_of_ble_eq_true rfl) (Nat.le_of_ble_eq_true rfl) ?_
  exact W.vret hx hb hr (fun t ht hW => ⟨⟨(), rfl, trivial, by rw [ht]; exact hP9, by first | exact hD9 | (rw [hAe]; exact hD9)⟩, hS.F ht⟩) hS.2.2 dX7_writePath_85

set_option maxHeartbeats 400000 in
set_option maxRecDepth 100000 in
theorem c_writeHolder (l : Launch) (G : va_G) (y : Nat → ClassId) (sz : Nat) (tx : Nat) (txb : Nat) (nwt : Nat) (nwtk : Nat) (nwtv : Nat) (nwte : Nat) (nwtd : Nat)  : Met l yX7_writeHolder wsX7_writeHolder ({ frames := 1, cells := 0, slots := 0, locals := 23 }) (nq_P G y sz [.ref tx, .ref nwt, .int 0, .int 0] [(tx, .inr (7, [.ref txb, .int 0])), (txb, .inl (y 0, 1024, .inl (fun _ => 0))), (nwt, .inr (9, [.ref nwtk, .ref nwtv, .ref nwte, .ref nwtd, .int 1])), (nwtk, .inl (y 0, 60, .inl (upd (fun _ => 0) 0 3)))]) (va_Qv (fun (_ : Unit) => True) (fun (u : Unit) t9 => va_P G vwCl ([(tx, .inr (7, [.ref txb, .int 2])), (txb, .inl (y 0, 1024, .inl (upd (upd (fun _ => 0) 0 123) 1 125)))]) t9.heap ∧ va_D (va_A [(tx, .inr (7, [.ref txb, .int 0])), (txb, .inl (y 0, 1024, .inl (fun _ => 0))), (nwt, .inr (9, [.ref nwtk, .ref nwtv, .ref nwte, .ref nwtd, .int 1])), (nwtk, .inl (y 0, 60, .inl (upd (fun _ => 0) 0 3)))] sz) ([(tx, .inr (7, [.ref txb, .int 2])), (txb, .inl (y 0, 1024, .inl (upd (upd (fun _ => 0) 0 123) 1 125)))])) (va_A [(tx, .inr (7, [.ref txb, .int 0])), (txb, .inl (y 0, 1024, .inl (fun _ => 0))), (nwt, .inr (9, [.ref nwtk, .ref nwtv, .ref nwte, .ref nwtd, .int 1])), (nwtk, .inl (y 0, 60, .inl (upd (fun _ => 0) 0 3)))] sz)) 0 0 (va_A [(tx, .inr (7, [.ref txb, .int 0])), (txb, .inl (y 0, 1024, .inl (fun _ => 0))), (nwt, .inr (9, [.ref nwtk, .ref nwtv, .ref nwte, .ref nwtd, .int 1])), (nwtk, .inl (y 0, 60, .inl (upd (fun _ => 0) 0 3)))] sz) := by
  refine Met.ofW (cc := cX7_writeHolder) (maxL := 8) (ret := none) (by decide) rfl ?_
  intro p e s m args below meth c s₁ B hml hv
  obtain ⟨rfl, hsz, hP, hK, hD0⟩ := hv
  have hx := B.exec
  have hb := B.bytes
  have hr := B.returns
  have hts := atoms_spec (ws := wsX7_writeHolder) B.pre
  have hown : s.vm.findClass RX7 = some m.cls := findClass_of_methodNamed B.named
  have hlocks := B.notSynchronized
  subst hsz
  have hD := hD0.self (sz := s.heap.size)
  generalize hAe : va_A [(tx, .inr (7, [.ref txb, .int 0])), (txb, .inl (y 0, 1024, .inl (fun _ => 0))), (nwt, .inr (9, [.ref nwtk, .ref nwtv, .ref nwte, .ref nwtd, .int 1])), (nwtk, .inl (y 0, 60, .inl (upd (fun _ => 0) 0 3)))] s.heap.size = A at hD ⊢
  have hA : ∀ q : Nat, s.heap.size ≤ q → A q := fun q h => by rw [← hAe]; exact Or.inr h
  have hS : va_S A s.heap s.heap [] := va_S.rf
  have hP : va_P G vwCl [(tx, .inr (7, [.ref txb, .int 0])), (txb, .inl (y 0, 1024, .inl (fun _ => 0))), (nwt, .inr (9, [.ref nwtk, .ref nwtv, .ref nwte, .ref nwtd, .int 1])), (nwtk, .inl (y 0, 60, .inl (upd (fun _ => 0) 0 3)))] s.heap := hP
  have hl := lv_entry ([.ref tx, .ref nwt, .int 0, .int 0]) (n := 8) (Nat.le_of_ble_eq_true rfl)
  rw [lg_entry_eq]
  generalize (lg_sl ([.ref tx, .ref nwt, .int 0, .int 0]) ++ List.replicate (8 - (lg_sl ([.ref tx, .ref nwt, .int 0, .int 0])).length) Slot.unset).toArray = ls at hl ⊢
  have hl : lv_has ls 8 [(0, .ref tx), (1, .ref nwt), (2, .int 0), (3, .int 0)] := hl
  refine lv_aload_n hx hb dX7_writeHolder_0 rfl (lv_at hl 1 rfl) ?_
  refine lv_iload_n hx hb dX7_writeHolder_1 rfl (lv_at hl 2 rfl) ?_
  refine nq_rdi (va_runV (As := [.int 0]) (rest := []) ⟨hx, hb, hml, hown, hts⟩ (c_kindAt l G y s.heap.size nwt nwtk nwtv nwte nwtd (upd (fun _ => 0) 0 3) (pk_us)) (cwV 1 hts gX7_writeHolder_X9_kindAt rfl rfl rfl (by decide +kernel) ⟨Nat.le_of_ble_eq_true rfl, Nat.le_of_ble_eq_true rfl⟩) (nq_PV hK hP hD [2, 3] rfl rfl 2 rfl rfl) rfl rfl hl.1 rfl (lv_room (Nat.le_of_ble_eq_true rfl)) dX7_writeHolder_2 ⟨Nat.le_of_ble_eq_true rfl, Nat.le_of_ble_eq_true rfl⟩) hP hS hA (fun r_1 H locs hw_2 hP hS => ?_)
  subst hw_2
  refine lv_iconst (v := 3) hx hb dX7_writeHolder_5 (by decide) ?_
  refine lv_icmp_ne (tgt := 13) hx hb dX7_writeHolder_6 (by decide) (fun c_3 => absurd c_3 (by decide)) (fun _ => ?_)
  refine lv_iconst (v := 1) hx hb dX7_writeHolder_9 (by decide) ?_
  refine lv_goto (tgt := 14) hx hb dX7_writeHolder_10 (by decide) ?_
  refine lv_istore (lv' := [(4, .int 1), (0, .ref tx), (1, .ref nwt), (2, .int 0), (3, .int 0)]) hx hb dX7_writeHolder_14 hl (by decide) rfl (fun ls hl => ?_)
  refine lv_aload_n hx hb dX7_writeHolder_16 rfl (lv_at hl 2 rfl) ?_
  refine lv_iload_n hx hb dX7_writeHolder_17 rfl (lv_at hl 3 rfl) ?_
  refine nq_rdi (va_runV (As := [.int 0]) (rest := []) ⟨hx, hb, hml, hown, hts⟩ (c_childCount l G y H.size nwt nwtk nwtv nwte nwtd ) (cwV 1 hts gX7_writeHolder_X9_childCount rfl rfl rfl (by decide +kernel) ⟨Nat.le_of_ble_eq_true rfl, Nat.le_of_ble_eq_true rfl⟩) (nq_PV hK hP hD [2] rfl rfl 2 rfl rfl) rfl rfl hl.1 rfl (lv_room (Nat.le_of_ble_eq_true rfl)) dX7_writeHolder_18 ⟨Nat.le_of_ble_eq_true rfl, Nat.le_of_ble_eq_true rfl⟩) hP hS hA (fun r_4 H locs hw_5 hP hS => ?_)
  subst hw_5
  refine lv_istore (lv' := [(5, .int 0), (4, .int 1), (0, .ref tx), (1, .ref nwt), (2, .int 0), (3, .int 0)]) hx hb dX7_writeHolder_21 hl (by decide) rfl (fun ls hl => ?_)
  refine lv_iload_n hx hb dX7_writeHolder_23 rfl (lv_at hl 4 rfl) ?_
  refine lv_iconst (v := 1) hx hb dX7_writeHolder_24 (by decide) ?_
  refine lv_iadd hx hb dX7_writeHolder_25 ?_
  refine nq_top (z := 1) (by decide) ?_
  refine lv_istore (lv' := [(6, .int 1), (5, .int 0), (4, .int 1), (0, .ref tx), (1, .ref nwt), (2, .int 0), (3, .int 0)]) hx hb dX7_writeHolder_26 hl (by decide) rfl (fun ls hl => ?_)
  refine lv_aload_n hx hb dX7_writeHolder_28 rfl (lv_at hl 3 rfl) ?_
  refine lv_iload hx hb dX7_writeHolder_29 (lv_at hl 2 rfl) ?_
  refine lv_if_eq (tgt := 39) hx hb dX7_writeHolder_31 (by decide) (fun c_6 => absurd c_6 (by decide)) (fun _ => ?_)
  refine lv_bipush (v := 123) hx hb dX7_writeHolder_34 (by decide) ?_
  refine lv_goto (tgt := 41) hx hb dX7_writeHolder_36 (by decide) ?_
  refine nq_wrv (wr := [(nwt, .inr (9, [.ref nwtk, .ref nwtv, .ref nwte, .ref nwtd, .int 1])), (nwtk, .inl (y 0, 60, .inl (upd (fun _ => 0) 0 3)))]) (va_runV (As := [.int 123]) (rest := []) ⟨hx, hb, hml, hown, hts⟩ (c_write0 l G y H.size tx txb ) (cwV 1 hts gX7_writeHolder_X7_write rfl rfl rfl (by decide +kernel) ⟨Nat.le_of_ble_eq_true rfl, Nat.le_of_ble_eq_true rfl⟩) (nq_PV hK hP hD [0, 1] rfl rfl 0 rfl rfl) rfl rfl hl.1 rfl (lv_room (Nat.le_of_ble_eq_true rfl)) dX7_writeHolder_41 ⟨Nat.le_of_ble_eq_true rfl, Nat.le_of_ble_eq_true rfl⟩) hP hD hS hA [0, 1] [2, 3] rfl rfl (by decide) (by decide) (fun u_7 H locs hw_8 hP hD hS => ?_)
  have hP : va_P G vwCl [(nwt, .inr (9, [.ref nwtk, .ref nwtv, .ref nwte, .ref nwtd, .int 1])), (nwtk, .inl (y 0, 60, .inl (upd (fun _ => 0) 0 3))), (tx, .inr (7, [.ref txb, .int 1])), (txb, .inl (y 0, 1024, .inl (upd (fun _ => 0) 0 123)))] H := hP
  have hD : va_D A [(nwt, .inr (9, [.ref nwtk, .ref nwtv, .ref nwte, .ref nwtd, .int 1])), (nwtk, .inl (y 0, 60, .inl (upd (fun _ => 0) 0 3))), (tx, .inr (7, [.ref txb, .int 1])), (txb, .inl (y 0, 1024, .inl (upd (fun _ => 0) 0 123)))] := hD
  refine lv_iconst (v := 0) hx hb dX7_writeHolder_44 (by decide) ?_
  refine lv_istore (lv' := [(7, .int 0), (6, .int 1), (5, .int 0), (4, .int 1), (0, .ref tx), (1, .ref nwt), (2, .int 0), (3, .int 0)]) hx hb dX7_writeHolder_45 hl (by decide) rfl (fun ls hl => ?_)
  refine lv_iload hx hb dX7_writeHolder_47 (lv_at hl 0 rfl) ?_
  refine lv_iload hx hb dX7_writeHolder_49 (lv_at hl 2 rfl) ?_
  refine lv_icmp_ge (tgt := 112) hx hb dX7_writeHolder_51 (by decide) (fun _ => ?_) (fun c_10 => absurd c_10 (by decide))
  refine lv_aload_n hx hb dX7_writeHolder_112 rfl (lv_at hl 4 rfl) ?_
  refine lv_iload hx hb dX7_writeHolder_113 (lv_at hl 3 rfl) ?_
  refine lv_if_eq (tgt := 123) hx hb dX7_writeHolder_115 (by decide) (fun c_11 => absurd c_11 (by decide)) (fun _ => ?_)
  refine lv_bipush (v := 125) hx hb dX7_writeHolder_118 (by decide) ?_
  refine lv_goto (tgt := 125) hx hb dX7_writeHolder_120 (by decide) ?_
  refine nq_wrv (wr := [(nwt, .inr (9, [.ref nwtk, .ref nwtv, .ref nwte, .ref nwtd, .int 1])), (nwtk, .inl (y 0, 60, .inl (upd (fun _ => 0) 0 3)))]) (va_runV (As := [.int 125]) (rest := []) ⟨hx, hb, hml, hown, hts⟩ (c_write1 l G y H.size tx txb ) (cwV 1 hts gX7_writeHolder_X7_write rfl rfl rfl (by decide +kernel) ⟨Nat.le_of_ble_eq_true rfl, Nat.le_of_ble_eq_true rfl⟩) (nq_PV hK hP hD [2, 3] rfl rfl 2 rfl rfl) rfl rfl hl.1 rfl (lv_room (Nat.le_of_ble_eq_true rfl)) dX7_writeHolder_125 ⟨Nat.le_of_ble_eq_true rfl, Nat.le_of_ble_eq_true rfl⟩) hP hD hS hA [2, 3] [0, 1] rfl rfl (by decide) (by decide) (fun u_12 H locs hw_13 hP hD hS => ?_)
  have hP : va_P G vwCl [(nwt, .inr (9, [.ref nwtk, .ref nwtv, .ref nwte, .ref nwtd, .int 1])), (nwtk, .inl (y 0, 60, .inl (upd (fun _ => 0) 0 3))), (tx, .inr (7, [.ref txb, .int 2])), (txb, .inl (y 0, 1024, .inl (upd (upd (fun _ => 0) 0 123) 1 125)))] H := hP
  have hD : va_D A [(nwt, .inr (9, [.ref nwtk, .ref nwtv, .ref nwte, .ref nwtd, .int 1])), (nwtk, .inl (y 0, 60, .inl (upd (fun _ => 0) 0 3))), (tx, .inr (7, [.ref txb, .int 2])), (txb, .inl (y 0, 1024, .inl (upd (upd (fun _ => 0) 0 123) 1 125)))] := hD
  have hP9 := hP.sub (ws' := [(tx, .inr (7, [.ref txb, .int 2])), (txb, .inl (y 0, 1024, .inl (upd (upd (fun _ => 0) 0 123) 1 125)))]) [2, 3] rfl
  have hD9 := hD.sub (ws' := [(tx, .inr (7, [.ref txb, .int 2])), (txb, .inl (y 0, 1024, .inl (upd (upd (fun _ => 0) 0 123) 1 125)))]) [2, 3] (by decide) rfl
  refine W.widen (k := 0) (n := 0) (Nat.le_of_ble_eq_true rfl) (Nat.le_of_ble_eq_true rfl) ?_
  exact W.vret hx hb hr (fun t ht hW => ⟨⟨(), rfl, trivial, by rw [ht]; exact hP9, by first | exact hD9 | (rw [hAe]; exact hD9)⟩, hS.F ht⟩) hS.2.2 dX7_writeHolder_128

set_option maxHeartbeats 400000 in
set_option maxRecDepth 100000 in
theorem c_writeThing (l : Launch) (G : va_G) (y : Nat → ClassId) (sz : Nat) (tx : Nat) (txb : Nat) (nwt : Nat) (nwtk : Nat) (nwtv : Nat) (nwte : Nat) (nwtd : Nat)  : Met l yX7_writeThing wsX7_writeThing ({ frames := 2, cells := 0, slots := 0, locals := 50 }) (nq_P G y sz [.ref tx, .ref nwt, .int 0, .int 0] [(tx, .inr (7, [.ref txb, .int 0])), (txb, .inl (y 0, 1024, .inl (fun _ => 0))), (nwt, .inr (9, [.ref nwtk, .ref nwtv, .ref nwte, .ref nwtd, .int 1])), (nwtk, .inl (y 0, 60, .inl (upd (fun _ => 0) 0 3)))]) (va_Qv (fun (_ : Unit) => True) (fun (u : Unit) t9 => va_P G vwCl ([(tx, .inr (7, [.ref txb, .int 2])), (txb, .inl (y 0, 1024, .inl (upd (upd (fun _ => 0) 0 123) 1 125)))]) t9.heap ∧ va_D (va_A [(tx, .inr (7, [.ref txb, .int 0])), (txb, .inl (y 0, 1024, .inl (fun _ => 0))), (nwt, .inr (9, [.ref nwtk, .ref nwtv, .ref nwte, .ref nwtd, .int 1])), (nwtk, .inl (y 0, 60, .inl (upd (fun _ => 0) 0 3)))] sz) ([(tx, .inr (7, [.ref txb, .int 2])), (txb, .inl (y 0, 1024, .inl (upd (upd (fun _ => 0) 0 123) 1 125)))])) (va_A [(tx, .inr (7, [.ref txb, .int 0])), (txb, .inl (y 0, 1024, .inl (fun _ => 0))), (nwt, .inr (9, [.ref nwtk, .ref nwtv, .ref nwte, .ref nwtd, .int 1])), (nwtk, .inl (y 0, 60, .inl (upd (fun _ => 0) 0 3)))] sz)) 0 0 (va_A [(tx, .inr (7, [.ref txb, .int 0])), (txb, .inl (y 0, 1024, .inl (fun _ => 0))), (nwt, .inr (9, [.ref nwtk, .ref nwtv, .ref nwte, .ref nwtd, .int 1])), (nwtk, .inl (y 0, 60, .inl (upd (fun _ => 0) 0 3)))] sz) := by
  refine Met.ofW (cc := cX7_writeThing) (maxL := 5) (ret := none) (by decide) rfl ?_
  intro p e s m args below meth c s₁ B hml hv
  obtain ⟨rfl, hsz, hP, hK, hD0⟩ := hv
  have hx := B.exec
  have hb := B.bytes
  have hr := B.returns
  have hts := atoms_spec (ws := wsX7_writeThing) B.pre
  have hown : s.vm.findClass RX7 = some m.cls := findClass_of_methodNamed B.named
  have hlocks := B.notSynchronized
  subst hsz
  have hD := hD0.self (sz := s.heap.size)
  generalize hAe : va_A [(tx, .inr (7, [.ref txb, .int 0])), (txb, .inl (y 0, 1024, .inl (fun _ => 0))), (nwt, .inr (9, [.ref nwtk, .ref nwtv, .ref nwte, .ref nwtd, .int 1])), (nwtk, .inl (y 0, 60, .inl (upd (fun _ => 0) 0 3)))] s.heap.size = A at hD ⊢
  have hA : ∀ q : Nat, s.heap.size ≤ q → A q := fun q h => by rw [← hAe]; exact Or.inr h
  have hS : va_S A s.heap s.heap [] := va_S.rf
  have hP : va_P G vwCl [(tx, .inr (7, [.ref txb, .int 0])), (txb, .inl (y 0, 1024, .inl (fun _ => 0))), (nwt, .inr (9, [.ref nwtk, .ref nwtv, .ref nwte, .ref nwtd, .int 1])), (nwtk, .inl (y 0, 60, .inl (upd (fun _ => 0) 0 3)))] s.heap := hP
  have hl := lv_entry ([.ref tx, .ref nwt, .int 0, .int 0]) (n := 5) (Nat.le_of_ble_eq_true rfl)
  rw [lg_entry_eq]
  generalize (lg_sl ([.ref tx, .ref nwt, .int 0, .int 0]) ++ List.replicate (5 - (lg_sl ([.ref tx, .ref nwt, .int 0, .int 0])).length) Slot.unset).toArray = ls at hl ⊢
  have hl : lv_has ls 5 [(0, .ref tx), (1, .ref nwt), (2, .int 0), (3, .int 0)] := hl
  refine lv_aload_n hx hb dX7_writeThing_0 rfl (lv_at hl 1 rfl) ?_
  refine lv_iload_n hx hb dX7_writeThing_1 rfl (lv_at hl 2 rfl) ?_
  refine nq_rdi (va_runV (As := [.int 0]) (rest := []) ⟨hx, hb, hml, hown, hts⟩ (c_kindAt l G y s.heap.size nwt nwtk nwtv nwte nwtd (upd (fun _ => 0) 0 3) (pk_us)) (cwV 1 hts gX7_writeThing_X9_kindAt rfl rfl rfl (by decide +kernel) ⟨Nat.le_of_ble_eq_true rfl, Nat.le_of_ble_eq_true rfl⟩) (nq_PV hK hP hD [2, 3] rfl rfl 2 rfl rfl) rfl rfl hl.1 rfl (lv_room (Nat.le_of_ble_eq_true rfl)) dX7_writeThing_2 ⟨Nat.le_of_ble_eq_true rfl, Nat.le_of_ble_eq_true rfl⟩) hP hS hA (fun r_1 H locs hw_2 hP hS => ?_)
  subst hw_2
  refine lv_istore (lv' := [(4, .int 3), (0, .ref tx), (1, .ref nwt), (2, .int 0), (3, .int 0)]) hx hb dX7_writeThing_5 hl (by decide) rfl (fun ls hl => ?_)
  refine lv_iload hx hb dX7_writeThing_7 (lv_at hl 0 rfl) ?_
  refine lv_if_ne (tgt := 24) hx hb dX7_writeThing_9 (by decide) (fun _ => ?_) (fun c_3 => absurd c_3 (by decide))
  refine lv_iload hx hb dX7_writeThing_24 (lv_at hl 0 rfl) ?_
  refine lv_iconst (v := 1) hx hb dX7_writeThing_26 (by decide) ?_
  refine lv_icmp_ne (tgt := 42) hx hb dX7_writeThing_27 (by decide) (fun _ => ?_) (fun c_4 => absurd c_4 (by decide))
  refine lv_iload_n hx hb dX7_writeThing_42 rfl (lv_at hl 4 rfl) ?_
  refine lv_bipush (v := 16) hx hb dX7_writeThing_43 (by decide) ?_
  refine lv_icmp_gt (tgt := 55) hx hb dX7_writeThing_45 (by decide) (fun c_5 => absurd c_5 (by decide)) (fun _ => ?_)
  refine lv_aload_n hx hb dX7_writeThing_48 rfl (lv_at hl 1 rfl) ?_
  refine lv_aload_n hx hb dX7_writeThing_49 rfl (lv_at hl 2 rfl) ?_
  refine lv_iload_n hx hb dX7_writeThing_50 rfl (lv_at hl 3 rfl) ?_
  refine lv_iload_n hx hb dX7_writeThing_51 rfl (lv_at hl 4 rfl) ?_
  refine nq_wrv (wr := []) (va_runV (As := [.ref nwt, .int 0, .int 0]) (rest := []) ⟨hx, hb, hml, hown, hts⟩ (c_writeHolder l G y H.size tx txb nwt nwtk nwtv nwte nwtd ) (cwV 3 hts gX7_writeThing_X7_writeHolder rfl rfl rfl (by decide +kernel) ⟨Nat.le_of_ble_eq_true rfl, Nat.le_of_ble_eq_true rfl⟩) (nq_PV hK hP hD [0, 1, 2, 3] rfl rfl 0 rfl rfl) rfl rfl hl.1 rfl (lv_room (Nat.le_of_ble_eq_true rfl)) dX7_writeThing_52 ⟨Nat.le_of_ble_eq_true rfl, Nat.le_of_ble_eq_true rfl⟩) hP hD hS hA [0, 1, 2, 3] [] rfl rfl (by decide) (by decide) (fun u_6 H locs hw_7 hP hD hS => ?_)
  have hP : va_P G vwCl [(tx, .inr (7, [.ref txb, .int 2])), (txb, .inl (y 0, 1024, .inl (upd (upd (fun _ => 0) 0 123) 1 125)))] H := hP
  have hD : va_D A [(tx, .inr (7, [.ref txb, .int 2])), (txb, .inl (y 0, 1024, .inl (upd (upd (fun _ => 0) 0 123) 1 125)))] := hD
  have hP9 := hP.sub (ws' := [(tx, .inr (7, [.ref txb, .int 2])), (txb, .inl (y 0, 1024, .inl (upd (upd (fun _ => 0) 0 123) 1 125)))]) [0, 1] rfl
  have hD9 := hD.sub (ws' := [(tx, .inr (7, [.ref txb, .int 2])), (txb, .inl (y 0, 1024, .inl (upd (upd (fun _ => 0) 0 123) 1 125)))]) [0, 1] (by decide) rfl
  refine W.widen (k := 0) (n := 0) (Nat.le_of_ble_eq_true rfl) (Nat.le_of_ble_eq_true rfl) ?_
  exact W.vret hx hb hr (fun t ht hW => ⟨⟨(), rfl, trivial, by rw [ht]; exact hP9, by first | exact hD9 | (rw [hAe]; exact hD9)⟩, hS.F ht⟩) hS.2.2 dX7_writeThing_55

set_option maxHeartbeats 400000 in
set_option maxRecDepth 100000 in
theorem c_byteAt0 (l : Launch) (G : va_G) (y : Nat → ClassId) (sz : Nat) (tx : Nat) (txb : Nat)  : Met l yX7_byteAt wsX7_byteAt ({ frames := 0, cells := 0, slots := 0, locals := 0 }) (nq_P G y sz [.ref tx, .int 0] [(tx, .inr (7, [.ref txb, .int 2])), (txb, .inl (y 0, 1024, .inl (upd (upd (fun _ => 0) 0 123) 1 125)))]) (va_Qi (fun (r : Int32) (_ : Unit) => r = 123) (fun _ _ => True) (va_A [] sz)) 0 0 (va_A [] sz) := by
  refine Met.ofW (cc := cX7_byteAt) (maxL := 2) (ret := (some .int)) (by decide) rfl ?_
  intro p e s m args below meth c s₁ B hml hv
  obtain ⟨rfl, hsz, hP, hK, hD0⟩ := hv
  have hx := B.exec
  have hb := B.bytes
  have hr := B.returns
  have hts := atoms_spec (ws := wsX7_byteAt) B.pre
  have hown : s.vm.findClass RX7 = some m.cls := findClass_of_methodNamed B.named
  have hlocks := B.notSynchronized
  subst hsz
  have hD := hD0
  have hA : ∀ q : Nat, s.heap.size ≤ q → va_A [] s.heap.size q := fun q h => Or.inr h
  have hS : va_S (va_A [] s.heap.size) s.heap s.heap [] := va_S.rf
  have hP : va_P G vwCl [(tx, .inr (7, [.ref txb, .int 2])), (txb, .inl (y 0, 1024, .inl (upd (upd (fun _ => 0) 0 123) 1 125)))] s.heap := hP
  have inX7 : ∀ w ∈ wsX70, w ∈ wsX7_byteAt := by decide +kernel
  have hl := lv_entry ([.ref tx, .int 0]) (n := 2) (Nat.le_of_ble_eq_true rfl)
  rw [lg_entry_eq]
  generalize (lg_sl ([.ref tx, .int 0]) ++ List.replicate (2 - (lg_sl ([.ref tx, .int 0])).length) Slot.unset).toArray = ls at hl ⊢
  have hl : lv_has ls 2 [(0, .ref tx), (1, .int 0)] := hl
  refine lv_iload_n hx hb dX7_byteAt_0 rfl (lv_at hl 1 rfl) ?_
  refine lv_if_lt (tgt := 12) hx hb dX7_byteAt_1 (by decide) (fun c_1 => absurd c_1 (by decide)) (fun _ => ?_)
  refine lv_iload_n hx hb dX7_byteAt_4 rfl (lv_at hl 1 rfl) ?_
  refine lv_aload_n hx hb dX7_byteAt_5 rfl (lv_at hl 0 rfl) ?_
  refine va_get (D := G) (ci := 7) (v := .int 2) (C := RX7) (T := TX7) (N := 2) hx hb hts inX7 hown hK.1 hP 0 rfl rfl 1 (by decide) (hts (.fieldLink RX7 15 "NestQuery$TextOut" "length" "I") (by decide +kernel)) (fun _ h9 => h9) rfl dX7_byteAt_6 ?_
  refine lv_icmp_lt (tgt := 16) hx hb dX7_byteAt_9 (by decide) (fun _ => ?_) (fun c_2 => absurd c_2 (by decide))
  refine lv_aload_n hx hb dX7_byteAt_16 rfl (lv_at hl 0 rfl) ?_
  refine va_get (D := G) (ci := 7) (v := .ref txb) (C := RX7) (T := TX7) (N := 2) hx hb hts inX7 hown hK.1 hP 0 rfl rfl 0 (by decide) (hts (.fieldLink RX7 11 "NestQuery$TextOut" "bytes" "[I") (by decide +kernel)) (fun _ h9 => h9) rfl dX7_byteAt_17 ?_
  refine lv_iload_n hx hb dX7_byteAt_20 rfl (lv_at hl 1 rfl) ?_
  refine va_iald hx hb hK.1 hP 1 0 rfl rfl (i := 0) (nq_in (by decide)) dX7_byteAt_21 ?_
  refine nq_top (z := 123) ((pk_un (by decide)).trans (pk_us)) ?_
  refine W.widen (k := 0) (n := 0) (Nat.le_of_ble_eq_true rfl) (Nat.le_of_ble_eq_true rfl) ?_
  exact W.iret (v := 123) hx hb hr (fun t ht hW => ⟨⟨123, (), rfl, rfl, trivial⟩, hS.F ht⟩) hS.2.2 dX7_byteAt_22

set_option maxHeartbeats 400000 in
set_option maxRecDepth 100000 in
theorem c_byteAt1 (l : Launch) (G : va_G) (y : Nat → ClassId) (sz : Nat) (tx : Nat) (txb : Nat)  : Met l yX7_byteAt wsX7_byteAt ({ frames := 0, cells := 0, slots := 0, locals := 0 }) (nq_P G y sz [.ref tx, .int 1] [(tx, .inr (7, [.ref txb, .int 2])), (txb, .inl (y 0, 1024, .inl (upd (upd (fun _ => 0) 0 123) 1 125)))]) (va_Qi (fun (r : Int32) (_ : Unit) => r = 125) (fun _ _ => True) (va_A [] sz)) 0 0 (va_A [] sz) := by
  refine Met.ofW (cc := cX7_byteAt) (maxL := 2) (ret := (some .int)) (by decide) rfl ?_
  intro p e s m args below meth c s₁ B hml hv
  obtain ⟨rfl, hsz, hP, hK, hD0⟩ := hv
  have hx := B.exec
  have hb := B.bytes
  have hr := B.returns
  have hts := atoms_spec (ws := wsX7_byteAt) B.pre
  have hown : s.vm.findClass RX7 = some m.cls := findClass_of_methodNamed B.named
  have hlocks := B.notSynchronized
  subst hsz
  have hD := hD0
  have hA : ∀ q : Nat, s.heap.size ≤ q → va_A [] s.heap.size q := fun q h => Or.inr h
  have hS : va_S (va_A [] s.heap.size) s.heap s.heap [] := va_S.rf
  have hP : va_P G vwCl [(tx, .inr (7, [.ref txb, .int 2])), (txb, .inl (y 0, 1024, .inl (upd (upd (fun _ => 0) 0 123) 1 125)))] s.heap := hP
  have inX7 : ∀ w ∈ wsX70, w ∈ wsX7_byteAt := by decide +kernel
  have hl := lv_entry ([.ref tx, .int 1]) (n := 2) (Nat.le_of_ble_eq_true rfl)
  rw [lg_entry_eq]
  generalize (lg_sl ([.ref tx, .int 1]) ++ List.replicate (2 - (lg_sl ([.ref tx, .int 1])).length) Slot.unset).toArray = ls at hl ⊢
  have hl : lv_has ls 2 [(0, .ref tx), (1, .int 1)] := hl
  refine lv_iload_n hx hb dX7_byteAt_0 rfl (lv_at hl 1 rfl) ?_
  refine lv_if_lt (tgt := 12) hx hb dX7_byteAt_1 (by decide) (fun c_1 => absurd c_1 (by decide)) (fun _ => ?_)
  refine lv_iload_n hx hb dX7_byteAt_4 rfl (lv_at hl 1 rfl) ?_
  refine lv_aload_n hx hb dX7_byteAt_5 rfl (lv_at hl 0 rfl) ?_
  refine va_get (D := G) (ci := 7) (v := .int 2) (C := RX7) (T := TX7) (N := 2) hx hb hts inX7 hown hK.1 hP 0 rfl rfl 1 (by decide) (hts (.fieldLink RX7 15 "NestQuery$TextOut" "length" "I") (by decide +kernel)) (fun _ h9 => h9) rfl dX7_byteAt_6 ?_
  refine lv_icmp_lt (tgt := 16) hx hb dX7_byteAt_9 (by decide) (fun _ => ?_) (fun c_2 => absurd c_2 (by decide))
  refine lv_aload_n hx hb dX7_byteAt_16 rfl (lv_at hl 0 rfl) ?_
  refine va_get (D := G) (ci := 7) (v := .ref txb) (C := RX7) (T := TX7) (N := 2) hx hb hts inX7 hown hK.1 hP 0 rfl rfl 0 (by decide) (hts (.fieldLink RX7 11 "NestQuery$TextOut" "bytes" "[I") (by decide +kernel)) (fun _ h9 => h9) rfl dX7_byteAt_17 ?_
  refine lv_iload_n hx hb dX7_byteAt_20 rfl (lv_at hl 1 rfl) ?_
  refine va_iald hx hb hK.1 hP 1 0 rfl rfl (i := 1) (nq_in (by decide)) dX7_byteAt_21 ?_
  refine nq_top (z := 125) (pk_us) ?_
  refine W.widen (k := 0) (n := 0) (Nat.le_of_ble_eq_true rfl) (Nat.le_of_ble_eq_true rfl) ?_
  exact W.iret (v := 125) hx hb hr (fun t ht hW => ⟨⟨125, (), rfl, rfl, trivial⟩, hS.F ht⟩) hS.2.2 dX7_byteAt_22

set_option maxHeartbeats 400000 in
set_option maxRecDepth 100000 in
theorem c_like (l : Launch) (G : va_G) (y : Nat → ClassId) (sz : Nat) (h0 : Nat) (ak : Nat) (av : Nat) (ae : Nat) (ad : Nat) (fk : Nat → Int32) (hfk0 : fk 0 = 3) : Met l yX9_like wsX9_like ({ frames := 2, cells := 0, slots := 0, locals := 44 }) (nq_P G y sz [.ref h0, .int 0, .ref h0, .int 0, .int 0] [(h0, .inr (9, [.ref ak, .ref av, .ref ae, .ref ad, .int 1])), (ak, .inl (y 0, 60, .inl fk))]) (va_Qi (fun (r : Int32) (_ : Unit) => r = 1) (fun _ _ => True) (va_A [] sz)) 0 0 (va_A [] sz) := by
  refine Met.ofW (cc := cX9_like) (maxL := 11) (ret := (some .boolean)) (by decide) rfl ?_
  intro p e s m args below meth c s₁ B hml hv
  obtain ⟨rfl, hsz, hP, hK, hD0⟩ := hv
  have hx := B.exec
  have hb := B.bytes
  have hr := B.returns
  have hts := atoms_spec (ws := wsX9_like) B.pre
  have hown : s.vm.findClass RX9 = some m.cls := findClass_of_methodNamed B.named
  have hlocks := B.notSynchronized
  subst hsz
  have hD := hD0
  have hA : ∀ q : Nat, s.heap.size ≤ q → va_A [] s.heap.size q := fun q h => Or.inr h
  have hS : va_S (va_A [] s.heap.size) s.heap s.heap [] := va_S.rf
  have hP : va_P G vwCl [(h0, .inr (9, [.ref ak, .ref av, .ref ae, .ref ad, .int 1])), (ak, .inl (y 0, 60, .inl fk))] s.heap := hP
  have hl := lv_entry ([.ref h0, .int 0, .ref h0, .int 0, .int 0]) (n := 11) (Nat.le_of_ble_eq_true rfl)
  rw [lg_entry_eq]
  generalize (lg_sl ([.ref h0, .int 0, .ref h0, .int 0, .int 0]) ++ List.replicate (11 - (lg_sl ([.ref h0, .int 0, .ref h0, .int 0, .int 0])).length) Slot.unset).toArray = ls at hl ⊢
  have hl : lv_has ls 11 [(0, .ref h0), (1, .int 0), (2, .ref h0), (3, .int 0), (4, .int 0)] := hl
  refine lv_aload_n hx hb dX9_like_0 rfl (lv_at hl 0 rfl) ?_
  refine lv_iload_n hx hb dX9_like_1 rfl (lv_at hl 1 rfl) ?_
  refine nq_rdi (va_runV (As := [.int 0]) (rest := []) ⟨hx, hb, hml, hown, hts⟩ (c_kindAt l G y s.heap.size h0 ak av ae ad fk (hfk0)) (cwV 1 hts gX9_like_X9_kindAt rfl rfl rfl (by decide +kernel) ⟨Nat.le_of_ble_eq_true rfl, Nat.le_of_ble_eq_true rfl⟩) (nq_PV hK hP hD [0, 1] rfl rfl 0 rfl rfl) rfl rfl hl.1 rfl (lv_room (Nat.le_of_ble_eq_true rfl)) dX9_like_2 ⟨Nat.le_of_ble_eq_true rfl, Nat.le_of_ble_eq_true rfl⟩) hP hS hA (fun r_1 H locs hw_2 hP hS => ?_)
  subst hw_2
  refine lv_istore (lv' := [(5, .int 3), (0, .ref h0), (1, .int 0), (2, .ref h0), (3, .int 0), (4, .int 0)]) hx hb dX9_like_5 hl (by decide) rfl (fun ls hl => ?_)
  refine lv_iload hx hb dX9_like_7 (lv_at hl 0 rfl) ?_
  refine lv_if_lt (tgt := 29) hx hb dX9_like_9 (by decide) (fun c_3 => absurd c_3 (by decide)) (fun _ => ?_)
  refine lv_iload hx hb dX9_like_12 (lv_at hl 0 rfl) ?_
  refine lv_aload_n hx hb dX9_like_14 rfl (lv_at hl 3 rfl) ?_
  refine lv_iload_n hx hb dX9_like_15 rfl (lv_at hl 4 rfl) ?_
  refine nq_rdi (va_runV (As := [.int 0]) (rest := [.int 3]) ⟨hx, hb, hml, hown, hts⟩ (c_kindAt l G y H.size h0 ak av ae ad fk (hfk0)) (cwV 1 hts gX9_like_X9_kindAt rfl rfl rfl (by decide +kernel) ⟨Nat.le_of_ble_eq_true rfl, Nat.le_of_ble_eq_true rfl⟩) (nq_PV hK hP hD [0, 1] rfl rfl 0 rfl rfl) rfl rfl hl.1 rfl (lv_room (Nat.le_of_ble_eq_true rfl)) dX9_like_16 ⟨Nat.le_of_ble_eq_true rfl, Nat.le_of_ble_eq_true rfl⟩) hP hS hA (fun r_4 H locs hw_5 hP hS => ?_)
  subst hw_5
  refine lv_icmp_ne (tgt := 29) hx hb dX9_like_19 (by decide) (fun c_6 => absurd c_6 (by decide)) (fun _ => ?_)
  refine lv_iload hx hb dX9_like_22 (lv_at hl 5 rfl) ?_
  refine lv_bipush (v := 16) hx hb dX9_like_24 (by decide) ?_
  refine lv_icmp_le (tgt := 31) hx hb dX9_like_26 (by decide) (fun _ => ?_) (fun c_7 => absurd c_7 (by decide))
  refine lv_iload hx hb dX9_like_31 (lv_at hl 0 rfl) ?_
  refine lv_if_eq (tgt := 42) hx hb dX9_like_33 (by decide) (fun c_8 => absurd c_8 (by decide)) (fun _ => ?_)
  refine lv_iload hx hb dX9_like_36 (lv_at hl 0 rfl) ?_
  refine lv_iconst (v := 1) hx hb dX9_like_38 (by decide) ?_
  refine lv_icmp_ne (tgt := 61) hx hb dX9_like_39 (by decide) (fun _ => ?_) (fun c_9 => absurd c_9 (by decide))
  refine lv_aload_n hx hb dX9_like_61 rfl (lv_at hl 1 rfl) ?_
  refine lv_iload_n hx hb dX9_like_62 rfl (lv_at hl 2 rfl) ?_
  refine nq_rdi (va_runV (As := [.int 0]) (rest := []) ⟨hx, hb, hml, hown, hts⟩ (c_sizeOf l G y H.size h0 ak av ae ad ) (cwV 1 hts gX9_like_X9_sizeOf rfl rfl rfl (by decide +kernel) ⟨Nat.le_of_ble_eq_true rfl, Nat.le_of_ble_eq_true rfl⟩) (nq_PV hK hP hD [0] rfl rfl 0 rfl rfl) rfl rfl hl.1 rfl (lv_room (Nat.le_of_ble_eq_true rfl)) dX9_like_63 ⟨Nat.le_of_ble_eq_true rfl, Nat.le_of_ble_eq_true rfl⟩) hP hS hA (fun r_10 H locs hw_11 hP hS => ?_)
  subst hw_11
  refine lv_aload_n hx hb dX9_like_66 rfl (lv_at hl 3 rfl) ?_
  refine lv_iload_n hx hb dX9_like_67 rfl (lv_at hl 4 rfl) ?_
  refine nq_rdi (va_runV (As := [.int 0]) (rest := [.int 1]) ⟨hx, hb, hml, hown, hts⟩ (c_sizeOf l G y H.size h0 ak av ae ad ) (cwV 1 hts gX9_like_X9_sizeOf rfl rfl rfl (by decide +kernel) ⟨Nat.le_of_ble_eq_true rfl, Nat.le_of_ble_eq_true rfl⟩) (nq_PV hK hP hD [0] rfl rfl 0 rfl rfl) rfl rfl hl.1 rfl (lv_room (Nat.le_of_ble_eq_true rfl)) dX9_like_68 ⟨Nat.le_of_ble_eq_true rfl, Nat.le_of_ble_eq_true rfl⟩) hP hS hA (fun r_12 H locs hw_13 hP hS => ?_)
  subst hw_13
  refine lv_icmp_eq (tgt := 76) hx hb dX9_like_71 (by decide) (fun _ => ?_) (fun c_14 => absurd c_14 (by decide))
  refine lv_aload_n hx hb dX9_like_76 rfl (lv_at hl 1 rfl) ?_
  refine lv_iload_n hx hb dX9_like_77 rfl (lv_at hl 2 rfl) ?_
  refine nq_rdi (va_runV (As := [.int 0]) (rest := []) ⟨hx, hb, hml, hown, hts⟩ (c_childCount l G y H.size h0 ak av ae ad ) (cwV 1 hts gX9_like_X9_childCount rfl rfl rfl (by decide +kernel) ⟨Nat.le_of_ble_eq_true rfl, Nat.le_of_ble_eq_true rfl⟩) (nq_PV hK hP hD [0] rfl rfl 0 rfl rfl) rfl rfl hl.1 rfl (lv_room (Nat.le_of_ble_eq_true rfl)) dX9_like_78 ⟨Nat.le_of_ble_eq_true rfl, Nat.le_of_ble_eq_true rfl⟩) hP hS hA (fun r_15 H locs hw_16 hP hS => ?_)
  subst hw_16
  refine lv_istore (lv' := [(6, .int 0), (5, .int 3), (0, .ref h0), (1, .int 0), (2, .ref h0), (3, .int 0), (4, .int 0)]) hx hb dX9_like_81 hl (by decide) rfl (fun ls hl => ?_)
  refine lv_iload hx hb dX9_like_83 (lv_at hl 0 rfl) ?_
  refine lv_aload_n hx hb dX9_like_85 rfl (lv_at hl 4 rfl) ?_
  refine lv_iload_n hx hb dX9_like_86 rfl (lv_at hl 5 rfl) ?_
  refine nq_rdi (va_runV (As := [.int 0]) (rest := [.int 0]) ⟨hx, hb, hml, hown, hts⟩ (c_childCount l G y H.size h0 ak av ae ad ) (cwV 1 hts gX9_like_X9_childCount rfl rfl rfl (by decide +kernel) ⟨Nat.le_of_ble_eq_true rfl, Nat.le_of_ble_eq_true rfl⟩) (nq_PV hK hP hD [0] rfl rfl 0 rfl rfl) rfl rfl hl.1 rfl (lv_room (Nat.le_of_ble_eq_true rfl)) dX9_like_87 ⟨Nat.le_of_ble_eq_true rfl, Nat.le_of_ble_eq_true rfl⟩) hP hS hA (fun r_17 H locs hw_18 hP hS => ?_)
  subst hw_18
  refine lv_icmp_eq (tgt := 95) hx hb dX9_like_90 (by decide) (fun _ => ?_) (fun c_19 => absurd c_19 (by decide))
  refine lv_iload_n hx hb dX9_like_95 rfl (lv_at hl 3 rfl) ?_
  refine lv_iconst (v := 1) hx hb dX9_like_96 (by decide) ?_
  refine lv_iadd hx hb dX9_like_97 ?_
  refine nq_top (z := 1) (by decide) ?_
  refine lv_istore (lv' := [(7, .int 1), (6, .int 0), (5, .int 3), (0, .ref h0), (1, .int 0), (2, .ref h0), (3, .int 0), (4, .int 0)]) hx hb dX9_like_98 hl (by decide) rfl (fun ls hl => ?_)
  refine lv_iload_n hx hb dX9_like_100 rfl (lv_at hl 6 rfl) ?_
  refine lv_iconst (v := 1) hx hb dX9_like_101 (by decide) ?_
  refine lv_iadd hx hb dX9_like_102 ?_
  refine nq_top (z := 1) (by decide) ?_
  refine lv_istore (lv' := [(8, .int 1), (7, .int 1), (6, .int 0), (5, .int 3), (0, .ref h0), (1, .int 0), (2, .ref h0), (3, .int 0), (4, .int 0)]) hx hb dX9_like_103 hl (by decide) rfl (fun ls hl => ?_)
  refine lv_iconst (v := 0) hx hb dX9_like_105 (by decide) ?_
  refine lv_istore (lv' := [(9, .int 0), (8, .int 1), (7, .int 1), (6, .int 0), (5, .int 3), (0, .ref h0), (1, .int 0), (2, .ref h0), (3, .int 0), (4, .int 0)]) hx hb dX9_like_106 hl (by decide) rfl (fun ls hl => ?_)
  refine lv_iload hx hb dX9_like_108 (lv_at hl 0 rfl) ?_
  refine lv_iload hx hb dX9_like_110 (lv_at hl 3 rfl) ?_
  refine lv_icmp_ge (tgt := 183) hx hb dX9_like_112 (by decide) (fun _ => ?_) (fun c_20 => absurd c_20 (by decide))
  refine lv_iconst (v := 1) hx hb dX9_like_183 (by decide) ?_
  refine W.widen (k := 0) (n := 0) (Nat.le_of_ble_eq_true rfl) (Nat.le_of_ble_eq_true rfl) ?_
  exact W.zret (v := 1) hx hb hr (by decide) (fun t ht hW => ⟨⟨1, (), rfl, rfl, trivial⟩, hS.F ht⟩) hS.2.2 dX9_like_184
