def sp_count (i : Int32) : Int32 × Int32 := if i = 0 then (0, 1) else if i = 1 then (0, 0) else if i = 2 then (0, 0) else if i = 3 then (0, 0) else if i = 4 then (0, 1) else if i = 5 then (0, 0) else if i = 6 then (0, 0) else if i = 7 then (0, 1) else if i = 8 then (0, 0) else if i = 9 then (0, (-1)) else if i = 10 then (0, 0) else if i = 11 then (0, 0) else if i = 12 then (0, 0) else if i = 13 then (0, 0) else if i = 14 then (0, 0) else if i = 15 then (0, 0) else if i = 16 then (0, 0) else if i = 17 then (0, 0) else (1, 0)
def sp_thing (i : Int32) (j : Int32) : Int32 × Int32 := if i = 0 then (if j = 0 then (0, 3) else if j = 1 then (0, (-1)) else if j = 2 then (0, (-1)) else if j = 3 then (0, 0) else if j = 4 then (0, 0) else if j = 5 then (0, 0) else if j = 6 then (0, (-1000)) else if j = 7 then (0, 0) else if j = 8 then (0, 0) else if j = 9 then (0, 0) else (1, 0)) else (1, 0)
def sp_within (i : Int32) (j : Int32) : Int32 × Int32 := (1, 0)
def sp_told (i : Int32) (b : Int32) (j : Int32) : Int32 × Int32 := if i = 0 then (if b = 0 then (if j = (-1) then (0, 2) else if j = 0 then (0, 123) else if j = 1 then (0, 125) else (1, 0)) else (if j = (-1) then (0, 0) else (1, 0))) else (1, 0)
def sp_alike (i : Int32) (j : Int32) : Int32 × Int32 := if i = 0 then (if j = 0 then (0, 1) else (1, 0)) else (1, 0)
def sp_one (i : Int32) (j : Int32) : Int32 × Int32 := (1, 0)
def sp_tree (i : Int32) : Int32 × Int32 := if i = 0 then (0, 1) else (1, 0)
def sp_path (i : Int32) (j : Int32) : Int32 × Int32 := if i < 0 then (1, 0) else if 3 < i then (1, 0) else if j = 0 then (0, 0) else (2, 0)
def sp_put (i : Int32) (j : Int32) : Int32 × Int32 := if j = 0 then (0, -1) else (1, 0)
def sp_key (i : Int32) (k : Int32) (j : Int32) : Int32 × Int32 := if j = 0 then (0, -1) else (1, 0)
def sp_years (a : Int32) (n : Int32) (i : Int32) : Int32 × Int32 := if i < 0 then (1, 0) else if 2 < i then (1, 0) else if n < 0 then (2, 0) else if 20 < n then (2, 0) else if i = 0 then (0, 1) else (0, 0)
set_option maxHeartbeats 4000000 in
set_option maxRecDepth 100000 in
theorem c_lettersOf (l : Launch) (G : va_G) (y : Nat → ClassId) (sz : Nat)   : Met l yX10_lettersOf wsX10_lettersOf ({ frames := 0, cells := 0, slots := 0, locals := 0 }) (nq_P G y sz [.int 0] []) (va_Qi (fun (r : Int32) (_ : Unit) => r = 0) (fun _ _ => True) (va_A [] sz)) 0 0 (va_A [] sz) := by
  refine Met.ofW (cc := cX10_lettersOf) (maxL := 4) (ret := (some .int)) (by decide) rfl ?_
  intro p e s m args below meth c s₁ B hml hv
  obtain ⟨rfl, hsz, hP, hK, hD0⟩ := hv
  have hx := B.exec
  have hb := B.bytes
  have hr := B.returns
  have hts := atoms_spec (ws := wsX10_lettersOf) B.pre
  have hown : s.vm.findClass RX10 = some m.cls := findClass_of_methodNamed B.named
  have hlocks := B.notSynchronized
  subst hsz
  have hD := hD0
  have hA : ∀ q : Nat, s.heap.size ≤ q → va_A [] s.heap.size q := fun q h => Or.inr h
  have hS : va_S (va_A [] s.heap.size) s.heap s.heap [] := va_S.rf
  have hP : va_P G vwCl [] s.heap := hP
  have hl := lv_entry ([.int 0]) (n := 4) (Nat.le_of_ble_eq_true rfl)
  rw [lg_entry_eq]
  generalize (lg_sl ([.int 0]) ++ List.replicate (4 - (lg_sl ([.int 0])).length) Slot.unset).toArray = ls at hl ⊢
  have hl : lv_has ls 4 [(0, .int 0)] := hl
  refine lv_iconst (v := 0) hx hb dX10_lettersOf_0 (by decide) ?_
  refine lv_istore_n (lv' := [(1, .int 0), (0, .int 0)]) hx hb dX10_lettersOf_1 rfl hl (by decide) rfl (fun ls hl => ?_)
  refine lv_iload_n hx hb dX10_lettersOf_2 rfl (lv_at hl 1 rfl) ?_
  refine lv_istore_n (lv' := [(2, .int 0), (1, .int 0), (0, .int 0)]) hx hb dX10_lettersOf_3 rfl hl (by decide) rfl (fun ls hl => ?_)
  refine lv_iconst (v := 0) hx hb dX10_lettersOf_4 (by decide) ?_
  refine lv_istore_n (lv' := [(3, .int 0), (2, .int 0), (1, .int 0), (0, .int 0)]) hx hb dX10_lettersOf_5 rfl hl (by decide) rfl (fun ls hl => ?_)
  refine lv_iload_n hx hb dX10_lettersOf_6 rfl (lv_at hl 0 rfl) ?_
  refine lv_bipush (v := 6) hx hb dX10_lettersOf_7 (by decide) ?_
  refine lv_icmp_ge (tgt := 29) hx hb dX10_lettersOf_9 (by decide) (fun c_1 => absurd c_1 (by decide)) (fun _ => ?_)
  refine lv_iload_n hx hb dX10_lettersOf_12 rfl (lv_at hl 1 rfl) ?_
  refine lv_if_le (tgt := 29) hx hb dX10_lettersOf_13 (by decide) (fun _ => ?_) (fun c_2 => absurd c_2 (by decide))
  refine lv_iload_n hx hb dX10_lettersOf_29 rfl (lv_at hl 2 rfl) ?_
  refine W.widen (k := 0) (n := 0) (Nat.le_of_ble_eq_true rfl) (Nat.le_of_ble_eq_true rfl) ?_
  exact W.iret (v := 0) hx hb hr (fun t ht hW => ⟨⟨0, (), rfl, rfl, trivial⟩, hS.F ht⟩) hS.2.2 dX10_lettersOf_30

set_option maxHeartbeats 4000000 in
set_option maxRecDepth 100000 in
theorem c_canBegin (l : Launch) (G : va_G) (y : Nat → ClassId) (sz : Nat)   : Met l yX1_canBegin wsX1_canBegin ({ frames := 0, cells := 0, slots := 0, locals := 0 }) (nq_P G y sz [.int 259] []) (va_Qi (fun (r : Int32) (_ : Unit) => r = 0) (fun _ _ => True) (va_A [] sz)) 0 0 (va_A [] sz) := by
  refine Met.ofW (cc := cX1_canBegin) (maxL := 1) (ret := (some .boolean)) (by decide) rfl ?_
  intro p e s m args below meth c s₁ B hml hv
  obtain ⟨rfl, hsz, hP, hK, hD0⟩ := hv
  have hx := B.exec
  have hb := B.bytes
  have hr := B.returns
  have hts := atoms_spec (ws := wsX1_canBegin) B.pre
  have hown : s.vm.findClass RX1 = some m.cls := findClass_of_methodNamed B.named
  have hlocks := B.notSynchronized
  subst hsz
  have hD := hD0
  have hA : ∀ q : Nat, s.heap.size ≤ q → va_A [] s.heap.size q := fun q h => Or.inr h
  have hS : va_S (va_A [] s.heap.size) s.heap s.heap [] := va_S.rf
  have hP : va_P G vwCl [] s.heap := hP
  have hl := lv_entry ([.int 259]) (n := 1) (Nat.le_of_ble_eq_true rfl)
  rw [lg_entry_eq]
  generalize (lg_sl ([.int 259]) ++ List.replicate (1 - (lg_sl ([.int 259])).length) Slot.unset).toArray = ls at hl ⊢
  have hl : lv_has ls 1 [(0, .int 259)] := hl
  refine lv_iload_n hx hb dX1_canBegin_0 rfl (lv_at hl 0 rfl) ?_
  refine lv_bipush (v := 45) hx hb dX1_canBegin_1 (by decide) ?_
  refine lv_icmp_eq (tgt := 32) hx hb dX1_canBegin_3 (by decide) (fun c_1 => absurd c_1 (by decide)) (fun _ => ?_)
  refine lv_iload_n hx hb dX1_canBegin_6 rfl (lv_at hl 0 rfl) ?_
  refine lv_sipush (v := 257) hx hb dX1_canBegin_7 (by decide) ?_
  refine lv_icmp_eq (tgt := 32) hx hb dX1_canBegin_10 (by decide) (fun c_2 => absurd c_2 (by decide)) (fun _ => ?_)
  refine lv_iload_n hx hb dX1_canBegin_13 rfl (lv_at hl 0 rfl) ?_
  refine lv_sipush (v := 256) hx hb dX1_canBegin_14 (by decide) ?_
  refine lv_icmp_eq (tgt := 32) hx hb dX1_canBegin_17 (by decide) (fun c_3 => absurd c_3 (by decide)) (fun _ => ?_)
  refine lv_iload_n hx hb dX1_canBegin_20 rfl (lv_at hl 0 rfl) ?_
  refine lv_bipush (v := 91) hx hb dX1_canBegin_21 (by decide) ?_
  refine lv_icmp_eq (tgt := 32) hx hb dX1_canBegin_23 (by decide) (fun c_4 => absurd c_4 (by decide)) (fun _ => ?_)
  refine lv_iload_n hx hb dX1_canBegin_26 rfl (lv_at hl 0 rfl) ?_
  refine lv_bipush (v := 123) hx hb dX1_canBegin_27 (by decide) ?_
  refine lv_icmp_ne (tgt := 36) hx hb dX1_canBegin_29 (by decide) (fun _ => ?_) (fun c_5 => absurd c_5 (by decide))
  refine lv_iconst (v := 0) hx hb dX1_canBegin_36 (by decide) ?_
  refine W.widen (k := 0) (n := 0) (Nat.le_of_ble_eq_true rfl) (Nat.le_of_ble_eq_true rfl) ?_
  exact W.zret (v := 0) hx hb hr (by decide) (fun t ht hW => ⟨⟨0, (), rfl, rfl, trivial⟩, hS.F ht⟩) hS.2.2 dX1_canBegin_37

set_option maxHeartbeats 4000000 in
set_option maxRecDepth 100000 in
theorem c_addToken (l : Launch) (G : va_G) (y : Nat → ClassId) (sz : Nat) (tk : Nat) (tk1 : Nat) (tk2 : Nat) (tk3 : Nat) (tk4 : Nat)  : Met l yX8_addToken wsX8_addToken ({ frames := 0, cells := 0, slots := 0, locals := 0 }) (nq_P G y sz [.ref tk, .int 259, .int 0, .int 0, .int 0] [(tk, .inr (8, [.ref tk1, .ref tk2, .ref tk3, .ref tk4, .int 0, .int 0, .int 0, .int 0, .int (-1)])), (tk1, .inl (y 0, 401, .inl (fun _ => 0))), (tk2, .inl (y 0, 401, .inl (fun _ => 0))), (tk3, .inl (y 0, 401, .inl (fun _ => 0))), (tk4, .inl (y 0, 401, .inl (fun _ => 0)))]) (va_Qv (fun (_ : Unit) => True) (fun (u : Unit) t9 => va_P G vwCl ([(tk, .inr (8, [.ref tk1, .ref tk2, .ref tk3, .ref tk4, .int 1, .int 0, .int 0, .int 0, .int (-1)])), (tk1, .inl (y 0, 401, .inl (upd (fun _ => 0) 0 259))), (tk2, .inl (y 0, 401, .inl (upd (fun _ => 0) 0 0))), (tk3, .inl (y 0, 401, .inl (upd (fun _ => 0) 0 0))), (tk4, .inl (y 0, 401, .inl (upd (fun _ => 0) 0 0)))]) t9.heap ∧ va_D (va_A [(tk, .inr (8, [.ref tk1, .ref tk2, .ref tk3, .ref tk4, .int 0, .int 0, .int 0, .int 0, .int (-1)])), (tk1, .inl (y 0, 401, .inl (fun _ => 0))), (tk2, .inl (y 0, 401, .inl (fun _ => 0))), (tk3, .inl (y 0, 401, .inl (fun _ => 0))), (tk4, .inl (y 0, 401, .inl (fun _ => 0)))] sz) ([(tk, .inr (8, [.ref tk1, .ref tk2, .ref tk3, .ref tk4, .int 1, .int 0, .int 0, .int 0, .int (-1)])), (tk1, .inl (y 0, 401, .inl (upd (fun _ => 0) 0 259))), (tk2, .inl (y 0, 401, .inl (upd (fun _ => 0) 0 0))), (tk3, .inl (y 0, 401, .inl (upd (fun _ => 0) 0 0))), (tk4, .inl (y 0, 401, .inl (upd (fun _ => 0) 0 0)))])) (va_A [(tk, .inr (8, [.ref tk1, .ref tk2, .ref tk3, .ref tk4, .int 0, .int 0, .int 0, .int 0, .int (-1)])), (tk1, .inl (y 0, 401, .inl (fun _ => 0))), (tk2, .inl (y 0, 401, .inl (fun _ => 0))), (tk3, .inl (y 0, 401, .inl (fun _ => 0))), (tk4, .inl (y 0, 401, .inl (fun _ => 0)))] sz)) 0 0 (va_A [(tk, .inr (8, [.ref tk1, .ref tk2, .ref tk3, .ref tk4, .int 0, .int 0, .int 0, .int 0, .int (-1)])), (tk1, .inl (y 0, 401, .inl (fun _ => 0))), (tk2, .inl (y 0, 401, .inl (fun _ => 0))), (tk3, .inl (y 0, 401, .inl (fun _ => 0))), (tk4, .inl (y 0, 401, .inl (fun _ => 0)))] sz) := by
  refine Met.ofW (cc := cX8_addToken) (maxL := 5) (ret := none) (by decide) rfl ?_
  intro p e s m args below meth c s₁ B hml hv
  obtain ⟨rfl, hsz, hP, hK, hD0⟩ := hv
  have hx := B.exec
  have hb := B.bytes
  have hr := B.returns
  have hts := atoms_spec (ws := wsX8_addToken) B.pre
  have hown : s.vm.findClass RX8 = some m.cls := findClass_of_methodNamed B.named
  have hlocks := B.notSynchronized
  subst hsz
  have hD := hD0.self (sz := s.heap.size)
  generalize hAe : va_A [(tk, .inr (8, [.ref tk1, .ref tk2, .ref tk3, .ref tk4, .int 0, .int 0, .int 0, .int 0, .int (-1)])), (tk1, .inl (y 0, 401, .inl (fun _ => 0))), (tk2, .inl (y 0, 401, .inl (fun _ => 0))), (tk3, .inl (y 0, 401, .inl (fun _ => 0))), (tk4, .inl (y 0, 401, .inl (fun _ => 0)))] s.heap.size = A at hD ⊢
  have hA : ∀ q : Nat, s.heap.size ≤ q → A q := fun q h => by rw [← hAe]; exact Or.inr h
  have hS : va_S A s.heap s.heap [] := va_S.rf
  have hP : va_P G vwCl [(tk, .inr (8, [.ref tk1, .ref tk2, .ref tk3, .ref tk4, .int 0, .int 0, .int 0, .int 0, .int (-1)])), (tk1, .inl (y 0, 401, .inl (fun _ => 0))), (tk2, .inl (y 0, 401, .inl (fun _ => 0))), (tk3, .inl (y 0, 401, .inl (fun _ => 0))), (tk4, .inl (y 0, 401, .inl (fun _ => 0)))] s.heap := hP
  have inX8 : ∀ w ∈ wsX80, w ∈ wsX8_addToken := by decide +kernel
  have hl := lv_entry ([.ref tk, .int 259, .int 0, .int 0, .int 0]) (n := 5) (Nat.le_of_ble_eq_true rfl)
  rw [lg_entry_eq]
  generalize (lg_sl ([.ref tk, .int 259, .int 0, .int 0, .int 0]) ++ List.replicate (5 - (lg_sl ([.ref tk, .int 259, .int 0, .int 0, .int 0])).length) Slot.unset).toArray = ls at hl ⊢
  have hl : lv_has ls 5 [(0, .ref tk), (1, .int 259), (2, .int 0), (3, .int 0), (4, .int 0)] := hl
  refine lv_aload_n hx hb dX8_addToken_0 rfl (lv_at hl 0 rfl) ?_
  refine va_get (D := G) (ci := 8) (v := .int 0) (C := RX8) (T := TX8) (N := 9) hx hb hts inX8 hown hK.1 hP 0 rfl rfl 4 (by decide) (hts (.fieldLink RX8 37 "NestQuery$Tokens" "found" "I") (by decide +kernel)) (fun _ h9 => h9) rfl dX8_addToken_1 ?_
  refine lv_if_lt (tgt := 68) hx hb dX8_addToken_4 (by decide) (fun c_1 => absurd c_1 (by decide)) (fun _ => ?_)
  refine lv_aload_n hx hb dX8_addToken_7 rfl (lv_at hl 0 rfl) ?_
  refine va_get (D := G) (ci := 8) (v := .int 0) (C := RX8) (T := TX8) (N := 9) hx hb hts inX8 hown hK.1 hP 0 rfl rfl 4 (by decide) (hts (.fieldLink RX8 37 "NestQuery$Tokens" "found" "I") (by decide +kernel)) (fun _ h9 => h9) rfl dX8_addToken_8 ?_
  refine lv_sipush (v := 401) hx hb dX8_addToken_11 (by decide) ?_
  refine lv_icmp_ge (tgt := 68) hx hb dX8_addToken_14 (by decide) (fun c_2 => absurd c_2 (by decide)) (fun _ => ?_)
  refine lv_aload_n hx hb dX8_addToken_17 rfl (lv_at hl 0 rfl) ?_
  refine va_get (D := G) (ci := 8) (v := .ref tk1) (C := RX8) (T := TX8) (N := 9) hx hb hts inX8 hown hK.1 hP 0 rfl rfl 0 (by decide) (hts (.fieldLink RX8 11 "NestQuery$Tokens" "kinds" "[I") (by decide +kernel)) (fun _ h9 => h9) rfl dX8_addToken_18 ?_
  refine lv_aload_n hx hb dX8_addToken_21 rfl (lv_at hl 0 rfl) ?_
  refine va_get (D := G) (ci := 8) (v := .int 0) (C := RX8) (T := TX8) (N := 9) hx hb hts inX8 hown hK.1 hP 0 rfl rfl 4 (by decide) (hts (.fieldLink RX8 37 "NestQuery$Tokens" "found" "I") (by decide +kernel)) (fun _ h9 => h9) rfl dX8_addToken_22 ?_
  refine lv_iload_n hx hb dX8_addToken_25 rfl (lv_at hl 1 rfl) ?_
  refine va_iast hx hb hK.1 hP hD hS 1 0 rfl rfl (i := 0) (nq_in (by decide)) dX8_addToken_26 (fun H locs hP hD hS => ?_)
  have hP : va_P G vwCl [(tk, .inr (8, [.ref tk1, .ref tk2, .ref tk3, .ref tk4, .int 0, .int 0, .int 0, .int 0, .int (-1)])), (tk1, .inl (y 0, 401, .inl (upd (fun _ => 0) 0 259))), (tk2, .inl (y 0, 401, .inl (fun _ => 0))), (tk3, .inl (y 0, 401, .inl (fun _ => 0))), (tk4, .inl (y 0, 401, .inl (fun _ => 0)))] H := hP
  have hD : va_D A [(tk, .inr (8, [.ref tk1, .ref tk2, .ref tk3, .ref tk4, .int 0, .int 0, .int 0, .int 0, .int (-1)])), (tk1, .inl (y 0, 401, .inl (upd (fun _ => 0) 0 259))), (tk2, .inl (y 0, 401, .inl (fun _ => 0))), (tk3, .inl (y 0, 401, .inl (fun _ => 0))), (tk4, .inl (y 0, 401, .inl (fun _ => 0)))] := hD
  refine lv_aload_n hx hb dX8_addToken_27 rfl (lv_at hl 0 rfl) ?_
  refine va_get (D := G) (ci := 8) (v := .ref tk2) (C := RX8) (T := TX8) (N := 9) hx hb hts inX8 hown hK.1 hP 0 rfl rfl 1 (by decide) (hts (.fieldLink RX8 15 "NestQuery$Tokens" "starts" "[I") (by decide +kernel)) (fun _ h9 => h9) rfl dX8_addToken_28 ?_
  refine lv_aload_n hx hb dX8_addToken_31 rfl (lv_at hl 0 rfl) ?_
  refine va_get (D := G) (ci := 8) (v := .int 0) (C := RX8) (T := TX8) (N := 9) hx hb hts inX8 hown hK.1 hP 0 rfl rfl 4 (by decide) (hts (.fieldLink RX8 37 "NestQuery$Tokens" "found" "I") (by decide +kernel)) (fun _ h9 => h9) rfl dX8_addToken_32 ?_
  refine lv_iload_n hx hb dX8_addToken_35 rfl (lv_at hl 2 rfl) ?_
  refine va_iast hx hb hK.1 hP hD hS 2 0 rfl rfl (i := 0) (nq_in (by decide)) dX8_addToken_36 (fun H locs hP hD hS => ?_)
  have hP : va_P G vwCl [(tk, .inr (8, [.ref tk1, .ref tk2, .ref tk3, .ref tk4, .int 0, .int 0, .int 0, .int 0, .int (-1)])), (tk1, .inl (y 0, 401, .inl (upd (fun _ => 0) 0 259))), (tk2, .inl (y 0, 401, .inl (upd (fun _ => 0) 0 0))), (tk3, .inl (y 0, 401, .inl (fun _ => 0))), (tk4, .inl (y 0, 401, .inl (fun _ => 0)))] H := hP
  have hD : va_D A [(tk, .inr (8, [.ref tk1, .ref tk2, .ref tk3, .ref tk4, .int 0, .int 0, .int 0, .int 0, .int (-1)])), (tk1, .inl (y 0, 401, .inl (upd (fun _ => 0) 0 259))), (tk2, .inl (y 0, 401, .inl (upd (fun _ => 0) 0 0))), (tk3, .inl (y 0, 401, .inl (fun _ => 0))), (tk4, .inl (y 0, 401, .inl (fun _ => 0)))] := hD
  refine lv_aload_n hx hb dX8_addToken_37 rfl (lv_at hl 0 rfl) ?_
  refine va_get (D := G) (ci := 8) (v := .ref tk3) (C := RX8) (T := TX8) (N := 9) hx hb hts inX8 hown hK.1 hP 0 rfl rfl 2 (by decide) (hts (.fieldLink RX8 18 "NestQuery$Tokens" "values" "[I") (by decide +kernel)) (fun _ h9 => h9) rfl dX8_addToken_38 ?_
  refine lv_aload_n hx hb dX8_addToken_41 rfl (lv_at hl 0 rfl) ?_
  refine va_get (D := G) (ci := 8) (v := .int 0) (C := RX8) (T := TX8) (N := 9) hx hb hts inX8 hown hK.1 hP 0 rfl rfl 4 (by decide) (hts (.fieldLink RX8 37 "NestQuery$Tokens" "found" "I") (by decide +kernel)) (fun _ h9 => h9) rfl dX8_addToken_42 ?_
  refine lv_iload_n hx hb dX8_addToken_45 rfl (lv_at hl 3 rfl) ?_
  refine va_iast hx hb hK.1 hP hD hS 3 0 rfl rfl (i := 0) (nq_in (by decide)) dX8_addToken_46 (fun H locs hP hD hS => ?_)
  have hP : va_P G vwCl [(tk, .inr (8, [.ref tk1, .ref tk2, .ref tk3, .ref tk4, .int 0, .int 0, .int 0, .int 0, .int (-1)])), (tk1, .inl (y 0, 401, .inl (upd (fun _ => 0) 0 259))), (tk2, .inl (y 0, 401, .inl (upd (fun _ => 0) 0 0))), (tk3, .inl (y 0, 401, .inl (upd (fun _ => 0) 0 0))), (tk4, .inl (y 0, 401, .inl (fun _ => 0)))] H := hP
  have hD : va_D A [(tk, .inr (8, [.ref tk1, .ref tk2, .ref tk3, .ref tk4, .int 0, .int 0, .int 0, .int 0, .int (-1)])), (tk1, .inl (y 0, 401, .inl (upd (fun _ => 0) 0 259))), (tk2, .inl (y 0, 401, .inl (upd (fun _ => 0) 0 0))), (tk3, .inl (y 0, 401, .inl (upd (fun _ => 0) 0 0))), (tk4, .inl (y 0, 401, .inl (fun _ => 0)))] := hD
  refine lv_aload_n hx hb dX8_addToken_47 rfl (lv_at hl 0 rfl) ?_
  refine va_get (D := G) (ci := 8) (v := .ref tk4) (C := RX8) (T := TX8) (N := 9) hx hb hts inX8 hown hK.1 hP 0 rfl rfl 3 (by decide) (hts (.fieldLink RX8 21 "NestQuery$Tokens" "lengths" "[I") (by decide +kernel)) (fun _ h9 => h9) rfl dX8_addToken_48 ?_
  refine lv_aload_n hx hb dX8_addToken_51 rfl (lv_at hl 0 rfl) ?_
  refine va_get (D := G) (ci := 8) (v := .int 0) (C := RX8) (T := TX8) (N := 9) hx hb hts inX8 hown hK.1 hP 0 rfl rfl 4 (by decide) (hts (.fieldLink RX8 37 "NestQuery$Tokens" "found" "I") (by decide +kernel)) (fun _ h9 => h9) rfl dX8_addToken_52 ?_
  refine lv_iload hx hb dX8_addToken_55 (lv_at hl 4 rfl) ?_
  refine va_iast hx hb hK.1 hP hD hS 4 0 rfl rfl (i := 0) (nq_in (by decide)) dX8_addToken_57 (fun H locs hP hD hS => ?_)
  have hP : va_P G vwCl [(tk, .inr (8, [.ref tk1, .ref tk2, .ref tk3, .ref tk4, .int 0, .int 0, .int 0, .int 0, .int (-1)])), (tk1, .inl (y 0, 401, .inl (upd (fun _ => 0) 0 259))), (tk2, .inl (y 0, 401, .inl (upd (fun _ => 0) 0 0))), (tk3, .inl (y 0, 401, .inl (upd (fun _ => 0) 0 0))), (tk4, .inl (y 0, 401, .inl (upd (fun _ => 0) 0 0)))] H := hP
  have hD : va_D A [(tk, .inr (8, [.ref tk1, .ref tk2, .ref tk3, .ref tk4, .int 0, .int 0, .int 0, .int 0, .int (-1)])), (tk1, .inl (y 0, 401, .inl (upd (fun _ => 0) 0 259))), (tk2, .inl (y 0, 401, .inl (upd (fun _ => 0) 0 0))), (tk3, .inl (y 0, 401, .inl (upd (fun _ => 0) 0 0))), (tk4, .inl (y 0, 401, .inl (upd (fun _ => 0) 0 0)))] := hD
  refine lv_aload_n hx hb dX8_addToken_58 rfl (lv_at hl 0 rfl) ?_
  refine lv_dup hx hb dX8_addToken_59 rfl ?_
  refine va_get (D := G) (ci := 8) (v := .int 0) (C := RX8) (T := TX8) (N := 9) hx hb hts inX8 hown hK.1 hP 0 rfl rfl 4 (by decide) (hts (.fieldLink RX8 37 "NestQuery$Tokens" "found" "I") (by decide +kernel)) (fun _ h9 => h9) rfl dX8_addToken_60 ?_
  refine lv_iconst (v := 1) hx hb dX8_addToken_63 (by decide) ?_
  refine lv_iadd hx hb dX8_addToken_64 ?_
  refine nq_top (z := 1) (by decide) ?_
  refine va_put (D := G) (ci := 8) (v := .int 1) (ty := .int) (C := RX8) (T := TX8) (N := 9) hx hb hts inX8 tyX8 tyX8_ok nmX8 hown hK.1 hP hD hS 0 rfl rfl 4 (by decide) (hts (.fieldLink RX8 37 "NestQuery$Tokens" "found" "I") (by decide +kernel)) (fun _ h9 => h9) rfl (by decide +kernel) rfl rfl (Nat.le_of_ble_eq_true rfl) dX8_addToken_65 (fun H locs hP hD hS => ?_)
  have hP : va_P G vwCl [(tk, .inr (8, [.ref tk1, .ref tk2, .ref tk3, .ref tk4, .int 1, .int 0, .int 0, .int 0, .int (-1)])), (tk1, .inl (y 0, 401, .inl (upd (fun _ => 0) 0 259))), (tk2, .inl (y 0, 401, .inl (upd (fun _ => 0) 0 0))), (tk3, .inl (y 0, 401, .inl (upd (fun _ => 0) 0 0))), (tk4, .inl (y 0, 401, .inl (upd (fun _ => 0) 0 0)))] H := hP
  have hD : va_D A [(tk, .inr (8, [.ref tk1, .ref tk2, .ref tk3, .ref tk4, .int 1, .int 0, .int 0, .int 0, .int (-1)])), (tk1, .inl (y 0, 401, .inl (upd (fun _ => 0) 0 259))), (tk2, .inl (y 0, 401, .inl (upd (fun _ => 0) 0 0))), (tk3, .inl (y 0, 401, .inl (upd (fun _ => 0) 0 0))), (tk4, .inl (y 0, 401, .inl (upd (fun _ => 0) 0 0)))] := hD
  have hP9 := hP.sub (ws' := [(tk, .inr (8, [.ref tk1, .ref tk2, .ref tk3, .ref tk4, .int 1, .int 0, .int 0, .int 0, .int (-1)])), (tk1, .inl (y 0, 401, .inl (upd (fun _ => 0) 0 259))), (tk2, .inl (y 0, 401, .inl (upd (fun _ => 0) 0 0))), (tk3, .inl (y 0, 401, .inl (upd (fun _ => 0) 0 0))), (tk4, .inl (y 0, 401, .inl (upd (fun _ => 0) 0 0)))]) [0, 1, 2, 3, 4] rfl
  have hD9 := hD.sub (ws' := [(tk, .inr (8, [.ref tk1, .ref tk2, .ref tk3, .ref tk4, .int 1, .int 0, .int 0, .int 0, .int (-1)])), (tk1, .inl (y 0, 401, .inl (upd (fun _ => 0) 0 259))), (tk2, .inl (y 0, 401, .inl (upd (fun _ => 0) 0 0))), (tk3, .inl (y 0, 401, .inl (upd (fun _ => 0) 0 0))), (tk4, .inl (y 0, 401, .inl (upd (fun _ => 0) 0 0)))]) [0, 1, 2, 3, 4] (by decide) rfl
  refine W.widen (k := 0) (n := 0) (Nat.le_of_ble_eq_true rfl) (Nat.le_of_ble_eq_true rfl) ?_
  exact W.vret hx hb hr (fun t ht hW => ⟨⟨(), rfl, trivial, by rw [ht]; exact hP9, by first | exact hD9 | (rw [hAe]; exact hD9)⟩, hS.F ht⟩) hS.2.2 dX8_addToken_68

set_option maxHeartbeats 4000000 in
set_option maxRecDepth 100000 in
theorem c_begin (l : Launch) (G : va_G) (y : Nat → ClassId) (sz : Nat) (tk : Nat) (tk1 : Nat) (tk2 : Nat) (tk3 : Nat) (tk4 : Nat) (tp : Nat) (f : Nat → Int32)  : Met l yX8_begin wsX8_begin ({ frames := 1, cells := 0, slots := 0, locals := 40 }) (nq_P G y sz [.ref tk, .ref tp, .int 0] [(tk, .inr (8, [.ref tk1, .ref tk2, .ref tk3, .ref tk4, .int 0, .int 0, .int 0, .int 0, .int (-1)])), (tk1, .inl (y 0, 401, .inl (fun _ => 0))), (tk2, .inl (y 0, 401, .inl (fun _ => 0))), (tk3, .inl (y 0, 401, .inl (fun _ => 0))), (tk4, .inl (y 0, 401, .inl (fun _ => 0))), (tp, .inl (y 0, 400, .inl f))]) (va_Qv (fun (_ : Unit) => True) (fun (u : Unit) t9 => va_P G vwCl ([(tk, .inr (8, [.ref tk1, .ref tk2, .ref tk3, .ref tk4, .int 1, .int 0, .int 259, .int 0, .int (-1)])), (tk2, .inl (y 0, 401, .inl (upd (fun _ => 0) 0 0)))]) t9.heap ∧ va_D (va_A [(tk, .inr (8, [.ref tk1, .ref tk2, .ref tk3, .ref tk4, .int 0, .int 0, .int 0, .int 0, .int (-1)])), (tk1, .inl (y 0, 401, .inl (fun _ => 0))), (tk2, .inl (y 0, 401, .inl (fun _ => 0))), (tk3, .inl (y 0, 401, .inl (fun _ => 0))), (tk4, .inl (y 0, 401, .inl (fun _ => 0))), (tp, .inl (y 0, 400, .inl f))] sz) ([(tk, .inr (8, [.ref tk1, .ref tk2, .ref tk3, .ref tk4, .int 1, .int 0, .int 259, .int 0, .int (-1)])), (tk2, .inl (y 0, 401, .inl (upd (fun _ => 0) 0 0)))])) (va_A [(tk, .inr (8, [.ref tk1, .ref tk2, .ref tk3, .ref tk4, .int 0, .int 0, .int 0, .int 0, .int (-1)])), (tk1, .inl (y 0, 401, .inl (fun _ => 0))), (tk2, .inl (y 0, 401, .inl (fun _ => 0))), (tk3, .inl (y 0, 401, .inl (fun _ => 0))), (tk4, .inl (y 0, 401, .inl (fun _ => 0))), (tp, .inl (y 0, 400, .inl f))] sz)) 0 0 (va_A [(tk, .inr (8, [.ref tk1, .ref tk2, .ref tk3, .ref tk4, .int 0, .int 0, .int 0, .int 0, .int (-1)])), (tk1, .inl (y 0, 401, .inl (fun _ => 0))), (tk2, .inl (y 0, 401, .inl (fun _ => 0))), (tk3, .inl (y 0, 401, .inl (fun _ => 0))), (tk4, .inl (y 0, 401, .inl (fun _ => 0))), (tp, .inl (y 0, 400, .inl f))] sz) := by
  refine Met.ofW (cc := cX8_begin) (maxL := 8) (ret := none) (by decide) rfl ?_
  intro p e s m args below meth c s₁ B hml hv
  obtain ⟨rfl, hsz, hP, hK, hD0⟩ := hv
  have hx := B.exec
  have hb := B.bytes
  have hr := B.returns
  have hts := atoms_spec (ws := wsX8_begin) B.pre
  have hown : s.vm.findClass RX8 = some m.cls := findClass_of_methodNamed B.named
  have hlocks := B.notSynchronized
  subst hsz
  have hD := hD0.self (sz := s.heap.size)
  generalize hAe : va_A [(tk, .inr (8, [.ref tk1, .ref tk2, .ref tk3, .ref tk4, .int 0, .int 0, .int 0, .int 0, .int (-1)])), (tk1, .inl (y 0, 401, .inl (fun _ => 0))), (tk2, .inl (y 0, 401, .inl (fun _ => 0))), (tk3, .inl (y 0, 401, .inl (fun _ => 0))), (tk4, .inl (y 0, 401, .inl (fun _ => 0))), (tp, .inl (y 0, 400, .inl f))] s.heap.size = A at hD ⊢
  have hA : ∀ q : Nat, s.heap.size ≤ q → A q := fun q h => by rw [← hAe]; exact Or.inr h
  have hS : va_S A s.heap s.heap [] := va_S.rf
  have hP : va_P G vwCl [(tk, .inr (8, [.ref tk1, .ref tk2, .ref tk3, .ref tk4, .int 0, .int 0, .int 0, .int 0, .int (-1)])), (tk1, .inl (y 0, 401, .inl (fun _ => 0))), (tk2, .inl (y 0, 401, .inl (fun _ => 0))), (tk3, .inl (y 0, 401, .inl (fun _ => 0))), (tk4, .inl (y 0, 401, .inl (fun _ => 0))), (tp, .inl (y 0, 400, .inl f))] s.heap := hP
  have inX8 : ∀ w ∈ wsX80, w ∈ wsX8_begin := by decide +kernel
  have hl := lv_entry ([.ref tk, .ref tp, .int 0]) (n := 8) (Nat.le_of_ble_eq_true rfl)
  rw [lg_entry_eq]
  generalize (lg_sl ([.ref tk, .ref tp, .int 0]) ++ List.replicate (8 - (lg_sl ([.ref tk, .ref tp, .int 0])).length) Slot.unset).toArray = ls at hl ⊢
  have hl : lv_has ls 8 [(0, .ref tk), (1, .ref tp), (2, .int 0)] := hl
  refine lv_iconst (v := 0) hx hb dX8_begin_0 (by decide) ?_
  refine lv_iload_n hx hb dX8_begin_1 rfl (lv_at hl 2 rfl) ?_
  refine lv_aload_n hx hb dX8_begin_2 rfl (lv_at hl 1 rfl) ?_
  refine va_alen hx hb hK.1 hP 5 0 rfl rfl (v := 400) rfl dX8_begin_3 ?_
  refine va_mmin hx hb (by rw [hml]; exact hl.1.symm) hown (hts (.methodLink RX8 28 Lib.Math.min.name) (by decide +kernel)) (hts (.static Lib.Math.min.name) (by decide +kernel)) (hts (.initialized "java/lang/Math") (by decide +kernel)) (hts (.code Lib.Math.min.name Lib.Math.min.code 2 (some .int)) (by decide +kernel)) (Nat.le_of_ble_eq_true rfl) (Nat.le_of_ble_eq_true rfl) (Nat.zero_le _) (Nat.zero_le _) dX8_begin_4 ?_
  refine nq_top (z := 0) (by decide) ?_
  refine va_mmax hx hb (by rw [hml]; exact hl.1.symm) hown (hts (.methodLink RX8 34 Lib.Math.max.name) (by decide +kernel)) (hts (.static Lib.Math.max.name) (by decide +kernel)) (hts (.initialized "java/lang/Math") (by decide +kernel)) (hts (.code Lib.Math.max.name Lib.Math.max.code 2 (some .int)) (by decide +kernel)) (Nat.le_of_ble_eq_true rfl) (Nat.le_of_ble_eq_true rfl) (Nat.zero_le _) (Nat.zero_le _) dX8_begin_7 ?_
  refine nq_top (z := 0) (by decide) ?_
  refine lv_istore_n (lv' := [(3, .int 0), (0, .ref tk), (1, .ref tp), (2, .int 0)]) hx hb dX8_begin_10 rfl hl (by decide) rfl (fun ls hl => ?_)
  refine lv_aload_n hx hb dX8_begin_11 rfl (lv_at hl 1 rfl) ?_
  refine lv_iconst (v := 0) hx hb dX8_begin_12 (by decide) ?_
  refine va_put (D := G) (ci := 8) (v := .int 0) (ty := .int) (C := RX8) (T := TX8) (N := 9) hx hb hts inX8 tyX8 tyX8_ok nmX8 hown hK.1 hP hD hS 0 rfl rfl 4 (by decide) (hts (.fieldLink RX8 37 "NestQuery$Tokens" "found" "I") (by decide +kernel)) (fun _ h9 => h9) rfl (by decide +kernel) rfl rfl (Nat.le_of_ble_eq_true rfl) dX8_begin_13 (fun H locs hP hD hS => ?_)
  have hP : va_P G vwCl [(tk, .inr (8, [.ref tk1, .ref tk2, .ref tk3, .ref tk4, .int 0, .int 0, .int 0, .int 0, .int (-1)])), (tk1, .inl (y 0, 401, .inl (fun _ => 0))), (tk2, .inl (y 0, 401, .inl (fun _ => 0))), (tk3, .inl (y 0, 401, .inl (fun _ => 0))), (tk4, .inl (y 0, 401, .inl (fun _ => 0))), (tp, .inl (y 0, 400, .inl f))] H := hP
  have hD : va_D A [(tk, .inr (8, [.ref tk1, .ref tk2, .ref tk3, .ref tk4, .int 0, .int 0, .int 0, .int 0, .int (-1)])), (tk1, .inl (y 0, 401, .inl (fun _ => 0))), (tk2, .inl (y 0, 401, .inl (fun _ => 0))), (tk3, .inl (y 0, 401, .inl (fun _ => 0))), (tk4, .inl (y 0, 401, .inl (fun _ => 0))), (tp, .inl (y 0, 400, .inl f))] := hD
  refine lv_iconst (v := 0) hx hb dX8_begin_16 (by decide) ?_
  refine lv_istore (lv' := [(4, .int 0), (3, .int 0), (0, .ref tk), (1, .ref tp), (2, .int 0)]) hx hb dX8_begin_17 hl (by decide) rfl (fun ls hl => ?_)
  refine lv_iconst (v := 0) hx hb dX8_begin_19 (by decide) ?_
  refine lv_istore (lv' := [(5, .int 0), (4, .int 0), (3, .int 0), (0, .ref tk), (1, .ref tp), (2, .int 0)]) hx hb dX8_begin_20 hl (by decide) rfl (fun ls hl => ?_)
  refine lv_iload hx hb dX8_begin_22 (lv_at hl 0 rfl) ?_
  refine lv_iload_n hx hb dX8_begin_24 rfl (lv_at hl 2 rfl) ?_
  refine lv_icmp_gt (tgt := 186) hx hb dX8_begin_25 (by decide) (fun c_1 => absurd c_1 (by decide)) (fun _ => ?_)
  refine lv_iload hx hb dX8_begin_28 (lv_at hl 1 rfl) ?_
  refine lv_iload_n hx hb dX8_begin_30 rfl (lv_at hl 2 rfl) ?_
  refine lv_icmp_ge (tgt := 186) hx hb dX8_begin_31 (by decide) (fun _ => ?_) (fun c_2 => absurd c_2 (by decide))
  refine lv_aload_n hx hb dX8_begin_186 rfl (lv_at hl 3 rfl) ?_
  refine lv_sipush (v := 259) hx hb dX8_begin_187 (by decide) ?_
  refine lv_iload_n hx hb dX8_begin_190 rfl (lv_at hl 2 rfl) ?_
  refine lv_iconst (v := 0) hx hb dX8_begin_191 (by decide) ?_
  refine lv_iconst (v := 0) hx hb dX8_begin_192 (by decide) ?_
  refine nq_wrv (wr := [(tp, .inl (y 0, 400, .inl f))]) (va_runV (As := [.int 259, .int 0, .int 0, .int 0]) (rest := []) ⟨hx, hb, hml, hown, hts⟩ (c_addToken l G y H.size tk tk1 tk2 tk3 tk4 ) (cwV 4 hts gX8_begin_X8_addToken rfl rfl rfl (by decide +kernel) ⟨Nat.le_of_ble_eq_true rfl, Nat.le_of_ble_eq_true rfl⟩) (nq_PV hK hP hD [0, 1, 2, 3, 4] rfl rfl 0 rfl rfl) rfl rfl hl.1 rfl (lv_room (Nat.le_of_ble_eq_true rfl)) dX8_begin_193 ⟨Nat.le_of_ble_eq_true rfl, Nat.le_of_ble_eq_true rfl⟩) hP hD hS hA [0, 1, 2, 3, 4] [5] rfl rfl (by decide) (by decide) (fun u_3 H locs hw_4 hP hD hS => ?_)
  have hP : va_P G vwCl [(tp, .inl (y 0, 400, .inl f)), (tk, .inr (8, [.ref tk1, .ref tk2, .ref tk3, .ref tk4, .int 1, .int 0, .int 0, .int 0, .int (-1)])), (tk1, .inl (y 0, 401, .inl (upd (fun _ => 0) 0 259))), (tk2, .inl (y 0, 401, .inl (upd (fun _ => 0) 0 0))), (tk3, .inl (y 0, 401, .inl (upd (fun _ => 0) 0 0))), (tk4, .inl (y 0, 401, .inl (upd (fun _ => 0) 0 0)))] H := hP
  have hD : va_D A [(tp, .inl (y 0, 400, .inl f)), (tk, .inr (8, [.ref tk1, .ref tk2, .ref tk3, .ref tk4, .int 1, .int 0, .int 0, .int 0, .int (-1)])), (tk1, .inl (y 0, 401, .inl (upd (fun _ => 0) 0 259))), (tk2, .inl (y 0, 401, .inl (upd (fun _ => 0) 0 0))), (tk3, .inl (y 0, 401, .inl (upd (fun _ => 0) 0 0))), (tk4, .inl (y 0, 401, .inl (upd (fun _ => 0) 0 0)))] := hD
  refine lv_aload_n hx hb dX8_begin_196 rfl (lv_at hl 3 rfl) ?_
  refine lv_iconst (v := 0) hx hb dX8_begin_197 (by decide) ?_
  refine va_put (D := G) (ci := 8) (v := .int 0) (ty := .int) (C := RX8) (T := TX8) (N := 9) hx hb hts inX8 tyX8 tyX8_ok nmX8 hown hK.1 hP hD hS 1 rfl rfl 7 (by decide) (hts (.fieldLink RX8 58 "NestQuery$Tokens" "fault" "I") (by decide +kernel)) (fun _ h9 => h9) rfl (by decide +kernel) rfl rfl (Nat.le_of_ble_eq_true rfl) dX8_begin_198 (fun H locs hP hD hS => ?_)
  have hP : va_P G vwCl [(tp, .inl (y 0, 400, .inl f)), (tk, .inr (8, [.ref tk1, .ref tk2, .ref tk3, .ref tk4, .int 1, .int 0, .int 0, .int 0, .int (-1)])), (tk1, .inl (y 0, 401, .inl (upd (fun _ => 0) 0 259))), (tk2, .inl (y 0, 401, .inl (upd (fun _ => 0) 0 0))), (tk3, .inl (y 0, 401, .inl (upd (fun _ => 0) 0 0))), (tk4, .inl (y 0, 401, .inl (upd (fun _ => 0) 0 0)))] H := hP
  have hD : va_D A [(tp, .inl (y 0, 400, .inl f)), (tk, .inr (8, [.ref tk1, .ref tk2, .ref tk3, .ref tk4, .int 1, .int 0, .int 0, .int 0, .int (-1)])), (tk1, .inl (y 0, 401, .inl (upd (fun _ => 0) 0 259))), (tk2, .inl (y 0, 401, .inl (upd (fun _ => 0) 0 0))), (tk3, .inl (y 0, 401, .inl (upd (fun _ => 0) 0 0))), (tk4, .inl (y 0, 401, .inl (upd (fun _ => 0) 0 0)))] := hD
  refine lv_aload_n hx hb dX8_begin_201 rfl (lv_at hl 3 rfl) ?_
  refine lv_iconst (v := (-1)) hx hb dX8_begin_202 (by decide) ?_
  refine va_put (D := G) (ci := 8) (v := .int (-1)) (ty := .int) (C := RX8) (T := TX8) (N := 9) hx hb hts inX8 tyX8 tyX8_ok nmX8 hown hK.1 hP hD hS 1 rfl rfl 8 (by decide) (hts (.fieldLink RX8 24 "NestQuery$Tokens" "faultPlace" "I") (by decide +kernel)) (fun _ h9 => h9) rfl (by decide +kernel) rfl rfl (Nat.le_of_ble_eq_true rfl) dX8_begin_203 (fun H locs hP hD hS => ?_)
  have hP : va_P G vwCl [(tp, .inl (y 0, 400, .inl f)), (tk, .inr (8, [.ref tk1, .ref tk2, .ref tk3, .ref tk4, .int 1, .int 0, .int 0, .int 0, .int (-1)])), (tk1, .inl (y 0, 401, .inl (upd (fun _ => 0) 0 259))), (tk2, .inl (y 0, 401, .inl (upd (fun _ => 0) 0 0))), (tk3, .inl (y 0, 401, .inl (upd (fun _ => 0) 0 0))), (tk4, .inl (y 0, 401, .inl (upd (fun _ => 0) 0 0)))] H := hP
  have hD : va_D A [(tp, .inl (y 0, 400, .inl f)), (tk, .inr (8, [.ref tk1, .ref tk2, .ref tk3, .ref tk4, .int 1, .int 0, .int 0, .int 0, .int (-1)])), (tk1, .inl (y 0, 401, .inl (upd (fun _ => 0) 0 259))), (tk2, .inl (y 0, 401, .inl (upd (fun _ => 0) 0 0))), (tk3, .inl (y 0, 401, .inl (upd (fun _ => 0) 0 0))), (tk4, .inl (y 0, 401, .inl (upd (fun _ => 0) 0 0)))] := hD
  refine lv_aload_n hx hb dX8_begin_206 rfl (lv_at hl 3 rfl) ?_
  refine lv_iconst (v := 0) hx hb dX8_begin_207 (by decide) ?_
  refine va_put (D := G) (ci := 8) (v := .int 0) (ty := .int) (C := RX8) (T := TX8) (N := 9) hx hb hts inX8 tyX8 tyX8_ok nmX8 hown hK.1 hP hD hS 1 rfl rfl 5 (by decide) (hts (.fieldLink RX8 61 "NestQuery$Tokens" "at" "I") (by decide +kernel)) (fun _ h9 => h9) rfl (by decide +kernel) rfl rfl (Nat.le_of_ble_eq_true rfl) dX8_begin_208 (fun H locs hP hD hS => ?_)
  have hP : va_P G vwCl [(tp, .inl (y 0, 400, .inl f)), (tk, .inr (8, [.ref tk1, .ref tk2, .ref tk3, .ref tk4, .int 1, .int 0, .int 0, .int 0, .int (-1)])), (tk1, .inl (y 0, 401, .inl (upd (fun _ => 0) 0 259))), (tk2, .inl (y 0, 401, .inl (upd (fun _ => 0) 0 0))), (tk3, .inl (y 0, 401, .inl (upd (fun _ => 0) 0 0))), (tk4, .inl (y 0, 401, .inl (upd (fun _ => 0) 0 0)))] H := hP
  have hD : va_D A [(tp, .inl (y 0, 400, .inl f)), (tk, .inr (8, [.ref tk1, .ref tk2, .ref tk3, .ref tk4, .int 1, .int 0, .int 0, .int 0, .int (-1)])), (tk1, .inl (y 0, 401, .inl (upd (fun _ => 0) 0 259))), (tk2, .inl (y 0, 401, .inl (upd (fun _ => 0) 0 0))), (tk3, .inl (y 0, 401, .inl (upd (fun _ => 0) 0 0))), (tk4, .inl (y 0, 401, .inl (upd (fun _ => 0) 0 0)))] := hD
  refine lv_aload_n hx hb dX8_begin_211 rfl (lv_at hl 3 rfl) ?_
  refine lv_aload_n hx hb dX8_begin_212 rfl (lv_at hl 3 rfl) ?_
  refine va_get (D := G) (ci := 8) (v := .ref tk1) (C := RX8) (T := TX8) (N := 9) hx hb hts inX8 hown hK.1 hP 1 rfl rfl 0 (by decide) (hts (.fieldLink RX8 11 "NestQuery$Tokens" "kinds" "[I") (by decide +kernel)) (fun _ h9 => h9) rfl dX8_begin_213 ?_
  refine lv_iconst (v := 0) hx hb dX8_begin_216 (by decide) ?_
  refine va_iald hx hb hK.1 hP 2 0 rfl rfl (i := 0) (nq_in (by decide)) dX8_begin_217 ?_
  refine nq_top (z := 259) (pk_us) ?_
  refine va_put (D := G) (ci := 8) (v := .int 259) (ty := .int) (C := RX8) (T := TX8) (N := 9) hx hb hts inX8 tyX8 tyX8_ok nmX8 hown hK.1 hP hD hS 1 rfl rfl 6 (by decide) (hts (.fieldLink RX8 64 "NestQuery$Tokens" "kind" "I") (by decide +kernel)) (fun _ h9 => h9) rfl (by decide +kernel) rfl rfl (Nat.le_of_ble_eq_true rfl) dX8_begin_218 (fun H locs hP hD hS => ?_)
  have hP : va_P G vwCl [(tp, .inl (y 0, 400, .inl f)), (tk, .inr (8, [.ref tk1, .ref tk2, .ref tk3, .ref tk4, .int 1, .int 0, .int 259, .int 0, .int (-1)])), (tk1, .inl (y 0, 401, .inl (upd (fun _ => 0) 0 259))), (tk2, .inl (y 0, 401, .inl (upd (fun _ => 0) 0 0))), (tk3, .inl (y 0, 401, .inl (upd (fun _ => 0) 0 0))), (tk4, .inl (y 0, 401, .inl (upd (fun _ => 0) 0 0)))] H := hP
  have hD : va_D A [(tp, .inl (y 0, 400, .inl f)), (tk, .inr (8, [.ref tk1, .ref tk2, .ref tk3, .ref tk4, .int 1, .int 0, .int 259, .int 0, .int (-1)])), (tk1, .inl (y 0, 401, .inl (upd (fun _ => 0) 0 259))), (tk2, .inl (y 0, 401, .inl (upd (fun _ => 0) 0 0))), (tk3, .inl (y 0, 401, .inl (upd (fun _ => 0) 0 0))), (tk4, .inl (y 0, 401, .inl (upd (fun _ => 0) 0 0)))] := hD
  have hP9 := hP.sub (ws' := [(tk, .inr (8, [.ref tk1, .ref tk2, .ref tk3, .ref tk4, .int 1, .int 0, .int 259, .int 0, .int (-1)])), (tk2, .inl (y 0, 401, .inl (upd (fun _ => 0) 0 0)))]) [1, 3] rfl
  have hD9 := hD.sub (ws' := [(tk, .inr (8, [.ref tk1, .ref tk2, .ref tk3, .ref tk4, .int 1, .int 0, .int 259, .int 0, .int (-1)])), (tk2, .inl (y 0, 401, .inl (upd (fun _ => 0) 0 0)))]) [1, 3] (by decide) rfl
  refine W.widen (k := 0) (n := 0) (Nat.le_of_ble_eq_true rfl) (Nat.le_of_ble_eq_true rfl) ?_
  exact W.vret hx hb hr (fun t ht hW => ⟨⟨(), rfl, trivial, by rw [ht]; exact hP9, by first | exact hD9 | (rw [hAe]; exact hD9)⟩, hS.F ht⟩) hS.2.2 dX8_begin_221

set_option maxHeartbeats 4000000 in
set_option maxRecDepth 100000 in
theorem c_fail_a (l : Launch) (G : va_G) (y : Nat → ClassId) (sz : Nat) (tk : Nat) (tk1 : Nat) (tk2 : Nat) (tk3 : Nat) (tk4 : Nat)  : Met l yX8_fail wsX8_fail ({ frames := 0, cells := 0, slots := 0, locals := 0 }) (nq_P G y sz [.ref tk, .int 1] [(tk, .inr (8, [.ref tk1, .ref tk2, .ref tk3, .ref tk4, .int 1, .int 0, .int 259, .int 0, .int (-1)])), (tk2, .inl (y 0, 401, .inl (upd (fun _ => 0) 0 0)))]) (va_Qv (fun (_ : Unit) => True) (fun (u : Unit) t9 => va_P G vwCl ([(tk, .inr (8, [.ref tk1, .ref tk2, .ref tk3, .ref tk4, .int 1, .int 0, .int 260, .int 1, .int 0])), (tk2, .inl (y 0, 401, .inl (upd (fun _ => 0) 0 0)))]) t9.heap ∧ va_D (va_A [(tk, .inr (8, [.ref tk1, .ref tk2, .ref tk3, .ref tk4, .int 1, .int 0, .int 259, .int 0, .int (-1)])), (tk2, .inl (y 0, 401, .inl (upd (fun _ => 0) 0 0)))] sz) ([(tk, .inr (8, [.ref tk1, .ref tk2, .ref tk3, .ref tk4, .int 1, .int 0, .int 260, .int 1, .int 0])), (tk2, .inl (y 0, 401, .inl (upd (fun _ => 0) 0 0)))])) (va_A [(tk, .inr (8, [.ref tk1, .ref tk2, .ref tk3, .ref tk4, .int 1, .int 0, .int 259, .int 0, .int (-1)])), (tk2, .inl (y 0, 401, .inl (upd (fun _ => 0) 0 0)))] sz)) 0 0 (va_A [(tk, .inr (8, [.ref tk1, .ref tk2, .ref tk3, .ref tk4, .int 1, .int 0, .int 259, .int 0, .int (-1)])), (tk2, .inl (y 0, 401, .inl (upd (fun _ => 0) 0 0)))] sz) := by
  refine Met.ofW (cc := cX8_fail) (maxL := 2) (ret := none) (by decide) rfl ?_
  intro p e s m args below meth c s₁ B hml hv
  obtain ⟨rfl, hsz, hP, hK, hD0⟩ := hv
  have hx := B.exec
  have hb := B.bytes
  have hr := B.returns
  have hts := atoms_spec (ws := wsX8_fail) B.pre
  have hown : s.vm.findClass RX8 = some m.cls := findClass_of_methodNamed B.named
  have hlocks := B.notSynchronized
  subst hsz
  have hD := hD0.self (sz := s.heap.size)
  generalize hAe : va_A [(tk, .inr (8, [.ref tk1, .ref tk2, .ref tk3, .ref tk4, .int 1, .int 0, .int 259, .int 0, .int (-1)])), (tk2, .inl (y 0, 401, .inl (upd (fun _ => 0) 0 0)))] s.heap.size = A at hD ⊢
  have hA : ∀ q : Nat, s.heap.size ≤ q → A q := fun q h => by rw [← hAe]; exact Or.inr h
  have hS : va_S A s.heap s.heap [] := va_S.rf
  have hP : va_P G vwCl [(tk, .inr (8, [.ref tk1, .ref tk2, .ref tk3, .ref tk4, .int 1, .int 0, .int 259, .int 0, .int (-1)])), (tk2, .inl (y 0, 401, .inl (upd (fun _ => 0) 0 0)))] s.heap := hP
  have inX8 : ∀ w ∈ wsX80, w ∈ wsX8_fail := by decide +kernel
  have hl := lv_entry ([.ref tk, .int 1]) (n := 2) (Nat.le_of_ble_eq_true rfl)
  rw [lg_entry_eq]
  generalize (lg_sl ([.ref tk, .int 1]) ++ List.replicate (2 - (lg_sl ([.ref tk, .int 1])).length) Slot.unset).toArray = ls at hl ⊢
  have hl : lv_has ls 2 [(0, .ref tk), (1, .int 1)] := hl
  refine lv_aload_n hx hb dX8_fail_0 rfl (lv_at hl 0 rfl) ?_
  refine va_get (D := G) (ci := 8) (v := .int 0) (C := RX8) (T := TX8) (N := 9) hx hb hts inX8 hown hK.1 hP 0 rfl rfl 7 (by decide) (hts (.fieldLink RX8 58 "NestQuery$Tokens" "fault" "I") (by decide +kernel)) (fun _ h9 => h9) rfl dX8_fail_1 ?_
  refine lv_if_ne (tgt := 42) hx hb dX8_fail_4 (by decide) (fun c_1 => absurd c_1 (by decide)) (fun _ => ?_)
  refine lv_aload_n hx hb dX8_fail_7 rfl (lv_at hl 0 rfl) ?_
  refine va_get (D := G) (ci := 8) (v := .int 0) (C := RX8) (T := TX8) (N := 9) hx hb hts inX8 hown hK.1 hP 0 rfl rfl 5 (by decide) (hts (.fieldLink RX8 61 "NestQuery$Tokens" "at" "I") (by decide +kernel)) (fun _ h9 => h9) rfl dX8_fail_8 ?_
  refine lv_if_lt (tgt := 42) hx hb dX8_fail_11 (by decide) (fun c_2 => absurd c_2 (by decide)) (fun _ => ?_)
  refine lv_aload_n hx hb dX8_fail_14 rfl (lv_at hl 0 rfl) ?_
  refine va_get (D := G) (ci := 8) (v := .int 0) (C := RX8) (T := TX8) (N := 9) hx hb hts inX8 hown hK.1 hP 0 rfl rfl 5 (by decide) (hts (.fieldLink RX8 61 "NestQuery$Tokens" "at" "I") (by decide +kernel)) (fun _ h9 => h9) rfl dX8_fail_15 ?_
  refine lv_sipush (v := 401) hx hb dX8_fail_18 (by decide) ?_
  refine lv_icmp_ge (tgt := 42) hx hb dX8_fail_21 (by decide) (fun c_3 => absurd c_3 (by decide)) (fun _ => ?_)
  refine lv_aload_n hx hb dX8_fail_24 rfl (lv_at hl 0 rfl) ?_
  refine lv_iload_n hx hb dX8_fail_25 rfl (lv_at hl 1 rfl) ?_
  refine va_put (D := G) (ci := 8) (v := .int 1) (ty := .int) (C := RX8) (T := TX8) (N := 9) hx hb hts inX8 tyX8 tyX8_ok nmX8 hown hK.1 hP hD hS 0 rfl rfl 7 (by decide) (hts (.fieldLink RX8 58 "NestQuery$Tokens" "fault" "I") (by decide +kernel)) (fun _ h9 => h9) rfl (by decide +kernel) rfl rfl (Nat.le_of_ble_eq_true rfl) dX8_fail_26 (fun H locs hP hD hS => ?_)
  have hP : va_P G vwCl [(tk, .inr (8, [.ref tk1, .ref tk2, .ref tk3, .ref tk4, .int 1, .int 0, .int 259, .int 1, .int (-1)])), (tk2, .inl (y 0, 401, .inl (upd (fun _ => 0) 0 0)))] H := hP
  have hD : va_D A [(tk, .inr (8, [.ref tk1, .ref tk2, .ref tk3, .ref tk4, .int 1, .int 0, .int 259, .int 1, .int (-1)])), (tk2, .inl (y 0, 401, .inl (upd (fun _ => 0) 0 0)))] := hD
  refine lv_aload_n hx hb dX8_fail_29 rfl (lv_at hl 0 rfl) ?_
  refine lv_aload_n hx hb dX8_fail_30 rfl (lv_at hl 0 rfl) ?_
  refine va_get (D := G) (ci := 8) (v := .ref tk2) (C := RX8) (T := TX8) (N := 9) hx hb hts inX8 hown hK.1 hP 0 rfl rfl 1 (by decide) (hts (.fieldLink RX8 15 "NestQuery$Tokens" "starts" "[I") (by decide +kernel)) (fun _ h9 => h9) rfl dX8_fail_31 ?_
  refine lv_aload_n hx hb dX8_fail_34 rfl (lv_at hl 0 rfl) ?_
  refine va_get (D := G) (ci := 8) (v := .int 0) (C := RX8) (T := TX8) (N := 9) hx hb hts inX8 hown hK.1 hP 0 rfl rfl 5 (by decide) (hts (.fieldLink RX8 61 "NestQuery$Tokens" "at" "I") (by decide +kernel)) (fun _ h9 => h9) rfl dX8_fail_35 ?_
  refine va_iald hx hb hK.1 hP 1 0 rfl rfl (i := 0) (nq_in (by decide)) dX8_fail_38 ?_
  refine nq_top (z := 0) (pk_us) ?_
  refine va_put (D := G) (ci := 8) (v := .int 0) (ty := .int) (C := RX8) (T := TX8) (N := 9) hx hb hts inX8 tyX8 tyX8_ok nmX8 hown hK.1 hP hD hS 0 rfl rfl 8 (by decide) (hts (.fieldLink RX8 24 "NestQuery$Tokens" "faultPlace" "I") (by decide +kernel)) (fun _ h9 => h9) rfl (by decide +kernel) rfl rfl (Nat.le_of_ble_eq_true rfl) dX8_fail_39 (fun H locs hP hD hS => ?_)
  have hP : va_P G vwCl [(tk, .inr (8, [.ref tk1, .ref tk2, .ref tk3, .ref tk4, .int 1, .int 0, .int 259, .int 1, .int 0])), (tk2, .inl (y 0, 401, .inl (upd (fun _ => 0) 0 0)))] H := hP
  have hD : va_D A [(tk, .inr (8, [.ref tk1, .ref tk2, .ref tk3, .ref tk4, .int 1, .int 0, .int 259, .int 1, .int 0])), (tk2, .inl (y 0, 401, .inl (upd (fun _ => 0) 0 0)))] := hD
  refine lv_aload_n hx hb dX8_fail_42 rfl (lv_at hl 0 rfl) ?_
  refine lv_sipush (v := 260) hx hb dX8_fail_43 (by decide) ?_
  refine va_put (D := G) (ci := 8) (v := .int 260) (ty := .int) (C := RX8) (T := TX8) (N := 9) hx hb hts inX8 tyX8 tyX8_ok nmX8 hown hK.1 hP hD hS 0 rfl rfl 6 (by decide) (hts (.fieldLink RX8 64 "NestQuery$Tokens" "kind" "I") (by decide +kernel)) (fun _ h9 => h9) rfl (by decide +kernel) rfl rfl (Nat.le_of_ble_eq_true rfl) dX8_fail_46 (fun H locs hP hD hS => ?_)
  have hP : va_P G vwCl [(tk, .inr (8, [.ref tk1, .ref tk2, .ref tk3, .ref tk4, .int 1, .int 0, .int 260, .int 1, .int 0])), (tk2, .inl (y 0, 401, .inl (upd (fun _ => 0) 0 0)))] H := hP
  have hD : va_D A [(tk, .inr (8, [.ref tk1, .ref tk2, .ref tk3, .ref tk4, .int 1, .int 0, .int 260, .int 1, .int 0])), (tk2, .inl (y 0, 401, .inl (upd (fun _ => 0) 0 0)))] := hD
  have hP9 := hP.sub (ws' := [(tk, .inr (8, [.ref tk1, .ref tk2, .ref tk3, .ref tk4, .int 1, .int 0, .int 260, .int 1, .int 0])), (tk2, .inl (y 0, 401, .inl (upd (fun _ => 0) 0 0)))]) [0, 1] rfl
  have hD9 := hD.sub (ws' := [(tk, .inr (8, [.ref tk1, .ref tk2, .ref tk3, .ref tk4, .int 1, .int 0, .int 260, .int 1, .int 0])), (tk2, .inl (y 0, 401, .inl (upd (fun _ => 0) 0 0)))]) [0, 1] (by decide) rfl
  refine W.widen (k := 0) (n := 0) (Nat.le_of_ble_eq_true rfl) (Nat.le_of_ble_eq_true rfl) ?_
  exact W.vret hx hb hr (fun t ht hW => ⟨⟨(), rfl, trivial, by rw [ht]; exact hP9, by first | exact hD9 | (rw [hAe]; exact hD9)⟩, hS.F ht⟩) hS.2.2 dX8_fail_49

set_option maxHeartbeats 4000000 in
set_option maxRecDepth 100000 in
theorem c_fail_b (l : Launch) (G : va_G) (y : Nat → ClassId) (sz : Nat) (tk : Nat) (tk1 : Nat) (tk2 : Nat) (tk3 : Nat) (tk4 : Nat)  : Met l yX8_fail wsX8_fail ({ frames := 0, cells := 0, slots := 0, locals := 0 }) (nq_P G y sz [.ref tk, .int 1] [(tk, .inr (8, [.ref tk1, .ref tk2, .ref tk3, .ref tk4, .int 1, .int 0, .int 260, .int 1, .int 0])), (tk2, .inl (y 0, 401, .inl (upd (fun _ => 0) 0 0)))]) (va_Qv (fun (_ : Unit) => True) (fun (u : Unit) t9 => va_P G vwCl ([(tk, .inr (8, [.ref tk1, .ref tk2, .ref tk3, .ref tk4, .int 1, .int 0, .int 260, .int 1, .int 0]))]) t9.heap ∧ va_D (va_A [(tk, .inr (8, [.ref tk1, .ref tk2, .ref tk3, .ref tk4, .int 1, .int 0, .int 260, .int 1, .int 0])), (tk2, .inl (y 0, 401, .inl (upd (fun _ => 0) 0 0)))] sz) ([(tk, .inr (8, [.ref tk1, .ref tk2, .ref tk3, .ref tk4, .int 1, .int 0, .int 260, .int 1, .int 0]))])) (va_A [(tk, .inr (8, [.ref tk1, .ref tk2, .ref tk3, .ref tk4, .int 1, .int 0, .int 260, .int 1, .int 0])), (tk2, .inl (y 0, 401, .inl (upd (fun _ => 0) 0 0)))] sz)) 0 0 (va_A [(tk, .inr (8, [.ref tk1, .ref tk2, .ref tk3, .ref tk4, .int 1, .int 0, .int 260, .int 1, .int 0])), (tk2, .inl (y 0, 401, .inl (upd (fun _ => 0) 0 0)))] sz) := by
  refine Met.ofW (cc := cX8_fail) (maxL := 2) (ret := none) (by decide) rfl ?_
  intro p e s m args below meth c s₁ B hml hv
  obtain ⟨rfl, hsz, hP, hK, hD0⟩ := hv
  have hx := B.exec
  have hb := B.bytes
  have hr := B.returns
  have hts := atoms_spec (ws := wsX8_fail) B.pre
  have hown : s.vm.findClass RX8 = some m.cls := findClass_of_methodNamed B.named
  have hlocks := B.notSynchronized
  subst hsz
  have hD := hD0.self (sz := s.heap.size)
  generalize hAe : va_A [(tk, .inr (8, [.ref tk1, .ref tk2, .ref tk3, .ref tk4, .int 1, .int 0, .int 260, .int 1, .int 0])), (tk2, .inl (y 0, 401, .inl (upd (fun _ => 0) 0 0)))] s.heap.size = A at hD ⊢
  have hA : ∀ q : Nat, s.heap.size ≤ q → A q := fun q h => by rw [← hAe]; exact Or.inr h
  have hS : va_S A s.heap s.heap [] := va_S.rf
  have hP : va_P G vwCl [(tk, .inr (8, [.ref tk1, .ref tk2, .ref tk3, .ref tk4, .int 1, .int 0, .int 260, .int 1, .int 0])), (tk2, .inl (y 0, 401, .inl (upd (fun _ => 0) 0 0)))] s.heap := hP
  have inX8 : ∀ w ∈ wsX80, w ∈ wsX8_fail := by decide +kernel
  have hl := lv_entry ([.ref tk, .int 1]) (n := 2) (Nat.le_of_ble_eq_true rfl)
  rw [lg_entry_eq]
  generalize (lg_sl ([.ref tk, .int 1]) ++ List.replicate (2 - (lg_sl ([.ref tk, .int 1])).length) Slot.unset).toArray = ls at hl ⊢
  have hl : lv_has ls 2 [(0, .ref tk), (1, .int 1)] := hl
  refine lv_aload_n hx hb dX8_fail_0 rfl (lv_at hl 0 rfl) ?_
  refine va_get (D := G) (ci := 8) (v := .int 1) (C := RX8) (T := TX8) (N := 9) hx hb hts inX8 hown hK.1 hP 0 rfl rfl 7 (by decide) (hts (.fieldLink RX8 58 "NestQuery$Tokens" "fault" "I") (by decide +kernel)) (fun _ h9 => h9) rfl dX8_fail_1 ?_
  refine lv_if_ne (tgt := 42) hx hb dX8_fail_4 (by decide) (fun _ => ?_) (fun c_1 => absurd c_1 (by decide))
  refine lv_aload_n hx hb dX8_fail_42 rfl (lv_at hl 0 rfl) ?_
  refine lv_sipush (v := 260) hx hb dX8_fail_43 (by decide) ?_
  refine va_put (D := G) (ci := 8) (v := .int 260) (ty := .int) (C := RX8) (T := TX8) (N := 9) hx hb hts inX8 tyX8 tyX8_ok nmX8 hown hK.1 hP hD hS 0 rfl rfl 6 (by decide) (hts (.fieldLink RX8 64 "NestQuery$Tokens" "kind" "I") (by decide +kernel)) (fun _ h9 => h9) rfl (by decide +kernel) rfl rfl (Nat.le_of_ble_eq_true rfl) dX8_fail_46 (fun H locs hP hD hS => ?_)
  have hP : va_P G vwCl [(tk, .inr (8, [.ref tk1, .ref tk2, .ref tk3, .ref tk4, .int 1, .int 0, .int 260, .int 1, .int 0])), (tk2, .inl (y 0, 401, .inl (upd (fun _ => 0) 0 0)))] H := hP
  have hD : va_D A [(tk, .inr (8, [.ref tk1, .ref tk2, .ref tk3, .ref tk4, .int 1, .int 0, .int 260, .int 1, .int 0])), (tk2, .inl (y 0, 401, .inl (upd (fun _ => 0) 0 0)))] := hD
  have hP9 := hP.sub (ws' := [(tk, .inr (8, [.ref tk1, .ref tk2, .ref tk3, .ref tk4, .int 1, .int 0, .int 260, .int 1, .int 0]))]) [0] rfl
  have hD9 := hD.sub (ws' := [(tk, .inr (8, [.ref tk1, .ref tk2, .ref tk3, .ref tk4, .int 1, .int 0, .int 260, .int 1, .int 0]))]) [0] (by decide) rfl
  refine W.widen (k := 0) (n := 0) (Nat.le_of_ble_eq_true rfl) (Nat.le_of_ble_eq_true rfl) ?_
  exact W.vret hx hb hr (fun t ht hW => ⟨⟨(), rfl, trivial, by rw [ht]; exact hP9, by first | exact hD9 | (rw [hAe]; exact hD9)⟩, hS.F ht⟩) hS.2.2 dX8_fail_49

set_option maxHeartbeats 4000000 in
set_option maxRecDepth 100000 in
theorem c_Tree_clear (l : Launch) (G : va_G) (y : Nat → ClassId) (sz : Nat) (da : Nat) (dak : Nat) (dav : Nat) (dae : Nat) (dad : Nat)  : Met l yX9_clear wsX9_clear ({ frames := 0, cells := 0, slots := 0, locals := 0 }) (nq_P G y sz [.ref da] [(da, .inr (9, [.ref dak, .ref dav, .ref dae, .ref dad, .int 0]))]) (va_Qv (fun (_ : Unit) => True) (fun (u : Unit) t9 => va_P G vwCl ([(da, .inr (9, [.ref dak, .ref dav, .ref dae, .ref dad, .int 0]))]) t9.heap ∧ va_D (va_A [(da, .inr (9, [.ref dak, .ref dav, .ref dae, .ref dad, .int 0]))] sz) ([(da, .inr (9, [.ref dak, .ref dav, .ref dae, .ref dad, .int 0]))])) (va_A [(da, .inr (9, [.ref dak, .ref dav, .ref dae, .ref dad, .int 0]))] sz)) 0 0 (va_A [(da, .inr (9, [.ref dak, .ref dav, .ref dae, .ref dad, .int 0]))] sz) := by
  refine Met.ofW (cc := cX9_clear) (maxL := 1) (ret := none) (by decide) rfl ?_
  intro p e s m args below meth c s₁ B hml hv
  obtain ⟨rfl, hsz, hP, hK, hD0⟩ := hv
  have hx := B.exec
  have hb := B.bytes
  have hr := B.returns
  have hts := atoms_spec (ws := wsX9_clear) B.pre
  have hown : s.vm.findClass RX9 = some m.cls := findClass_of_methodNamed B.named
  have hlocks := B.notSynchronized
  subst hsz
  have hD := hD0.self (sz := s.heap.size)
  generalize hAe : va_A [(da, .inr (9, [.ref dak, .ref dav, .ref dae, .ref dad, .int 0]))] s.heap.size = A at hD ⊢
  have hA : ∀ q : Nat, s.heap.size ≤ q → A q := fun q h => by rw [← hAe]; exact Or.inr h
  have hS : va_S A s.heap s.heap [] := va_S.rf
  have hP : va_P G vwCl [(da, .inr (9, [.ref dak, .ref dav, .ref dae, .ref dad, .int 0]))] s.heap := hP
  have inX9 : ∀ w ∈ wsX90, w ∈ wsX9_clear := by decide +kernel
  have hl := lv_entry ([.ref da]) (n := 1) (Nat.le_of_ble_eq_true rfl)
  rw [lg_entry_eq]
  generalize (lg_sl ([.ref da]) ++ List.replicate (1 - (lg_sl ([.ref da])).length) Slot.unset).toArray = ls at hl ⊢
  have hl : lv_has ls 1 [(0, .ref da)] := hl
  refine lv_aload_n hx hb dX9_clear_0 rfl (lv_at hl 0 rfl) ?_
  refine lv_iconst (v := 0) hx hb dX9_clear_1 (by decide) ?_
  refine va_put (D := G) (ci := 9) (v := .int 0) (ty := .int) (C := RX9) (T := TX9) (N := 5) hx hb hts inX9 tyX9 tyX9_ok nmX9 hown hK.1 hP hD hS 0 rfl rfl 4 (by decide) (hts (.fieldLink RX9 24 "NestQuery$Tree" "size" "I") (by decide +kernel)) (fun _ h9 => h9) rfl (by decide +kernel) rfl rfl (Nat.le_of_ble_eq_true rfl) dX9_clear_2 (fun H locs hP hD hS => ?_)
  have hP : va_P G vwCl [(da, .inr (9, [.ref dak, .ref dav, .ref dae, .ref dad, .int 0]))] H := hP
  have hD : va_D A [(da, .inr (9, [.ref dak, .ref dav, .ref dae, .ref dad, .int 0]))] := hD
  have hP9 := hP.sub (ws' := [(da, .inr (9, [.ref dak, .ref dav, .ref dae, .ref dad, .int 0]))]) [0] rfl
  have hD9 := hD.sub (ws' := [(da, .inr (9, [.ref dak, .ref dav, .ref dae, .ref dad, .int 0]))]) [0] (by decide) rfl
  refine W.widen (k := 0) (n := 0) (Nat.le_of_ble_eq_true rfl) (Nat.le_of_ble_eq_true rfl) ?_
  exact W.vret hx hb hr (fun t ht hW => ⟨⟨(), rfl, trivial, by rw [ht]; exact hP9, by first | exact hD9 | (rw [hAe]; exact hD9)⟩, hS.F ht⟩) hS.2.2 dX9_clear_5

set_option maxHeartbeats 4000000 in
set_option maxRecDepth 100000 in
theorem c_readThing (l : Launch) (G : va_G) (y : Nat → ClassId) (sz : Nat) (dr : Nat) (tk : Nat) (tk1 : Nat) (tk2 : Nat) (tk3 : Nat) (tk4 : Nat) (da : Nat) (dak : Nat) (dav : Nat) (dae : Nat) (dad : Nat)  : Met l yX1_readThing wsX1_readThing ({ frames := 1, cells := 0, slots := 0, locals := 21 }) (nq_P G y sz [.ref dr, .ref da, .int 0, .int 0] [(dr, .inr (1, [.ref tk])), (tk, .inr (8, [.ref tk1, .ref tk2, .ref tk3, .ref tk4, .int 1, .int 0, .int 259, .int 0, .int (-1)])), (tk2, .inl (y 0, 401, .inl (upd (fun _ => 0) 0 0))), (da, .inr (9, [.ref dak, .ref dav, .ref dae, .ref dad, .int 0]))]) (va_Qv (fun (_ : Unit) => True) (fun (u : Unit) t9 => va_P G vwCl ([(dr, .inr (1, [.ref tk])), (tk, .inr (8, [.ref tk1, .ref tk2, .ref tk3, .ref tk4, .int 1, .int 0, .int 260, .int 1, .int 0])), (tk2, .inl (y 0, 401, .inl (upd (fun _ => 0) 0 0)))]) t9.heap ∧ va_D (va_A [(dr, .inr (1, [.ref tk])), (tk, .inr (8, [.ref tk1, .ref tk2, .ref tk3, .ref tk4, .int 1, .int 0, .int 259, .int 0, .int (-1)])), (tk2, .inl (y 0, 401, .inl (upd (fun _ => 0) 0 0))), (da, .inr (9, [.ref dak, .ref dav, .ref dae, .ref dad, .int 0]))] sz) ([(dr, .inr (1, [.ref tk])), (tk, .inr (8, [.ref tk1, .ref tk2, .ref tk3, .ref tk4, .int 1, .int 0, .int 260, .int 1, .int 0])), (tk2, .inl (y 0, 401, .inl (upd (fun _ => 0) 0 0)))])) (va_A [(dr, .inr (1, [.ref tk])), (tk, .inr (8, [.ref tk1, .ref tk2, .ref tk3, .ref tk4, .int 1, .int 0, .int 259, .int 0, .int (-1)])), (tk2, .inl (y 0, 401, .inl (upd (fun _ => 0) 0 0))), (da, .inr (9, [.ref dak, .ref dav, .ref dae, .ref dad, .int 0]))] sz)) 0 0 (va_A [(dr, .inr (1, [.ref tk])), (tk, .inr (8, [.ref tk1, .ref tk2, .ref tk3, .ref tk4, .int 1, .int 0, .int 259, .int 0, .int (-1)])), (tk2, .inl (y 0, 401, .inl (upd (fun _ => 0) 0 0))), (da, .inr (9, [.ref dak, .ref dav, .ref dae, .ref dad, .int 0]))] sz) := by
  refine Met.ofW (cc := cX1_readThing) (maxL := 4) (ret := none) (by decide) rfl ?_
  intro p e s m args below meth c s₁ B hml hv
  obtain ⟨rfl, hsz, hP, hK, hD0⟩ := hv
  have hx := B.exec
  have hb := B.bytes
  have hr := B.returns
  have hts := atoms_spec (ws := wsX1_readThing) B.pre
  have hown : s.vm.findClass RX1 = some m.cls := findClass_of_methodNamed B.named
  have hlocks := B.notSynchronized
  subst hsz
  have hD := hD0.self (sz := s.heap.size)
  generalize hAe : va_A [(dr, .inr (1, [.ref tk])), (tk, .inr (8, [.ref tk1, .ref tk2, .ref tk3, .ref tk4, .int 1, .int 0, .int 259, .int 0, .int (-1)])), (tk2, .inl (y 0, 401, .inl (upd (fun _ => 0) 0 0))), (da, .inr (9, [.ref dak, .ref dav, .ref dae, .ref dad, .int 0]))] s.heap.size = A at hD ⊢
  have hA : ∀ q : Nat, s.heap.size ≤ q → A q := fun q h => by rw [← hAe]; exact Or.inr h
  have hS : va_S A s.heap s.heap [] := va_S.rf
  have hP : va_P G vwCl [(dr, .inr (1, [.ref tk])), (tk, .inr (8, [.ref tk1, .ref tk2, .ref tk3, .ref tk4, .int 1, .int 0, .int 259, .int 0, .int (-1)])), (tk2, .inl (y 0, 401, .inl (upd (fun _ => 0) 0 0))), (da, .inr (9, [.ref dak, .ref dav, .ref dae, .ref dad, .int 0]))] s.heap := hP
  have inX1 : ∀ w ∈ wsX10, w ∈ wsX1_readThing := by decide +kernel
  have inX8 : ∀ w ∈ wsX80, w ∈ wsX1_readThing := by decide +kernel
  have hl := lv_entry ([.ref dr, .ref da, .int 0, .int 0]) (n := 4) (Nat.le_of_ble_eq_true rfl)
  rw [lg_entry_eq]
  generalize (lg_sl ([.ref dr, .ref da, .int 0, .int 0]) ++ List.replicate (4 - (lg_sl ([.ref dr, .ref da, .int 0, .int 0])).length) Slot.unset).toArray = ls at hl ⊢
  have hl : lv_has ls 4 [(0, .ref dr), (1, .ref da), (2, .int 0), (3, .int 0)] := hl
  refine lv_aload_n hx hb dX1_readThing_0 rfl (lv_at hl 0 rfl) ?_
  refine va_get (D := G) (ci := 1) (v := .ref tk) (C := RX1) (T := TX1) (N := 1) hx hb hts inX1 hown hK.1 hP 0 rfl rfl 0 (by decide) (hts (.fieldLink RX1 9 "NestQuery$DataReader" "tokens" "LNestQuery$Tokens;") (by decide +kernel)) (fun _ h9 => h9) rfl dX1_readThing_1 ?_
  refine va_getN (D := G) (ci := 8) (v := .int 259) (C := RX8) (T := TX8) (N := 9) hx hb hts inX8 hown hK.1 hP 1 rfl rfl 6 (by decide) (va_Nw.use rfl (hK.2.1.1 _ (List.mem_of_getElem? (i := 4) rfl))) (fun _ h9 => h9) rfl dX1_readThing_4 ?_
  refine nq_rdi (va_runS (As := [.int 259]) (rest := []) ⟨hx, hb, hml, hown, hts⟩ (c_canBegin l G y s.heap.size  ) (va_cwS 1 hts gX1_readThing_X1_canBegin rfl rfl rfl (by decide +kernel) ⟨Nat.le_of_ble_eq_true rfl, Nat.le_of_ble_eq_true rfl⟩) (nq_PS hK hP hD [] rfl rfl) rfl rfl hl.1 rfl (lv_room (Nat.le_of_ble_eq_true rfl)) dX1_readThing_7 ⟨Nat.le_of_ble_eq_true rfl, Nat.le_of_ble_eq_true rfl⟩) hP hS hA (fun r_1 H locs hw_2 hP hS => ?_)
  subst hw_2
  refine lv_if_ne (tgt := 24) hx hb dX1_readThing_10 (by decide) (fun c_3 => absurd c_3 (by decide)) (fun _ => ?_)
  refine lv_aload_n hx hb dX1_readThing_13 rfl (lv_at hl 0 rfl) ?_
  refine va_get (D := G) (ci := 1) (v := .ref tk) (C := RX1) (T := TX1) (N := 1) hx hb hts inX1 hown hK.1 hP 0 rfl rfl 0 (by decide) (hts (.fieldLink RX1 9 "NestQuery$DataReader" "tokens" "LNestQuery$Tokens;") (by decide +kernel)) (fun _ h9 => h9) rfl dX1_readThing_14 ?_
  refine lv_iconst (v := 1) hx hb dX1_readThing_17 (by decide) ?_
  refine nq_wrv (wr := [(dr, .inr (1, [.ref tk])), (da, .inr (9, [.ref dak, .ref dav, .ref dae, .ref dad, .int 0]))]) (va_runV (As := [.int 1]) (rest := []) ⟨hx, hb, hml, hown, hts⟩ (c_fail_a l G y H.size tk tk1 tk2 tk3 tk4 ) (cwV 1 hts gX1_readThing_X8_fail rfl rfl rfl (by decide +kernel) ⟨Nat.le_of_ble_eq_true rfl, Nat.le_of_ble_eq_true rfl⟩) (nq_PV hK hP hD [1, 2] rfl rfl 1 rfl rfl) rfl rfl hl.1 rfl (lv_room (Nat.le_of_ble_eq_true rfl)) dX1_readThing_18 ⟨Nat.le_of_ble_eq_true rfl, Nat.le_of_ble_eq_true rfl⟩) hP hD hS hA [1, 2] [0, 3] rfl rfl (by decide) (by decide) (fun u_4 H locs hw_5 hP hD hS => ?_)
  have hP : va_P G vwCl [(dr, .inr (1, [.ref tk])), (da, .inr (9, [.ref dak, .ref dav, .ref dae, .ref dad, .int 0])), (tk, .inr (8, [.ref tk1, .ref tk2, .ref tk3, .ref tk4, .int 1, .int 0, .int 260, .int 1, .int 0])), (tk2, .inl (y 0, 401, .inl (upd (fun _ => 0) 0 0)))] H := hP
  have hD : va_D A [(dr, .inr (1, [.ref tk])), (da, .inr (9, [.ref dak, .ref dav, .ref dae, .ref dad, .int 0])), (tk, .inr (8, [.ref tk1, .ref tk2, .ref tk3, .ref tk4, .int 1, .int 0, .int 260, .int 1, .int 0])), (tk2, .inl (y 0, 401, .inl (upd (fun _ => 0) 0 0)))] := hD
  refine lv_goto (tgt := 143) hx hb dX1_readThing_21 (by decide) ?_
  have hP9 := hP.sub (ws' := [(dr, .inr (1, [.ref tk])), (tk, .inr (8, [.ref tk1, .ref tk2, .ref tk3, .ref tk4, .int 1, .int 0, .int 260, .int 1, .int 0])), (tk2, .inl (y 0, 401, .inl (upd (fun _ => 0) 0 0)))]) [0, 2, 3] rfl
  have hD9 := hD.sub (ws' := [(dr, .inr (1, [.ref tk])), (tk, .inr (8, [.ref tk1, .ref tk2, .ref tk3, .ref tk4, .int 1, .int 0, .int 260, .int 1, .int 0])), (tk2, .inl (y 0, 401, .inl (upd (fun _ => 0) 0 0)))]) [0, 2, 3] (by decide) rfl
  refine W.widen (k := 0) (n := 0) (Nat.le_of_ble_eq_true rfl) (Nat.le_of_ble_eq_true rfl) ?_
  exact W.vret hx hb hr (fun t ht hW => ⟨⟨(), rfl, trivial, by rw [ht]; exact hP9, by first | exact hD9 | (rw [hAe]; exact hD9)⟩, hS.F ht⟩) hS.2.2 dX1_readThing_143

set_option maxHeartbeats 4000000 in
set_option maxRecDepth 100000 in
theorem c_DataReader_read (l : Launch) (G : va_G) (y : Nat → ClassId) (sz : Nat) (dr : Nat) (tk : Nat) (tk1 : Nat) (tk2 : Nat) (tk3 : Nat) (tk4 : Nat) (tp : Nat) (da : Nat) (dak : Nat) (dav : Nat) (dae : Nat) (dad : Nat) (f : Nat → Int32)  : Met l yX1_read wsX1_read ({ frames := 2, cells := 0, slots := 0, locals := 67 }) (nq_P G y sz [.ref dr, .ref tp, .int 0, .ref da] [(dr, .inr (1, [.ref tk])), (tk, .inr (8, [.ref tk1, .ref tk2, .ref tk3, .ref tk4, .int 0, .int 0, .int 0, .int 0, .int (-1)])), (tk1, .inl (y 0, 401, .inl (fun _ => 0))), (tk2, .inl (y 0, 401, .inl (fun _ => 0))), (tk3, .inl (y 0, 401, .inl (fun _ => 0))), (tk4, .inl (y 0, 401, .inl (fun _ => 0))), (tp, .inl (y 0, 400, .inl f)), (da, .inr (9, [.ref dak, .ref dav, .ref dae, .ref dad, .int 0]))]) (va_Qi (fun (r : Int32) (_ : Unit) => r = 1) (fun (u : Unit) t9 => va_P G vwCl ([(tk, .inr (8, [.ref tk1, .ref tk2, .ref tk3, .ref tk4, .int 1, .int 0, .int 260, .int 1, .int 0]))]) t9.heap ∧ va_D (va_A [(dr, .inr (1, [.ref tk])), (tk, .inr (8, [.ref tk1, .ref tk2, .ref tk3, .ref tk4, .int 0, .int 0, .int 0, .int 0, .int (-1)])), (tk1, .inl (y 0, 401, .inl (fun _ => 0))), (tk2, .inl (y 0, 401, .inl (fun _ => 0))), (tk3, .inl (y 0, 401, .inl (fun _ => 0))), (tk4, .inl (y 0, 401, .inl (fun _ => 0))), (tp, .inl (y 0, 400, .inl f)), (da, .inr (9, [.ref dak, .ref dav, .ref dae, .ref dad, .int 0]))] sz) ([(tk, .inr (8, [.ref tk1, .ref tk2, .ref tk3, .ref tk4, .int 1, .int 0, .int 260, .int 1, .int 0]))])) (va_A [(dr, .inr (1, [.ref tk])), (tk, .inr (8, [.ref tk1, .ref tk2, .ref tk3, .ref tk4, .int 0, .int 0, .int 0, .int 0, .int (-1)])), (tk1, .inl (y 0, 401, .inl (fun _ => 0))), (tk2, .inl (y 0, 401, .inl (fun _ => 0))), (tk3, .inl (y 0, 401, .inl (fun _ => 0))), (tk4, .inl (y 0, 401, .inl (fun _ => 0))), (tp, .inl (y 0, 400, .inl f)), (da, .inr (9, [.ref dak, .ref dav, .ref dae, .ref dad, .int 0]))] sz)) 0 0 (va_A [(dr, .inr (1, [.ref tk])), (tk, .inr (8, [.ref tk1, .ref tk2, .ref tk3, .ref tk4, .int 0, .int 0, .int 0, .int 0, .int (-1)])), (tk1, .inl (y 0, 401, .inl (fun _ => 0))), (tk2, .inl (y 0, 401, .inl (fun _ => 0))), (tk3, .inl (y 0, 401, .inl (fun _ => 0))), (tk4, .inl (y 0, 401, .inl (fun _ => 0))), (tp, .inl (y 0, 400, .inl f)), (da, .inr (9, [.ref dak, .ref dav, .ref dae, .ref dad, .int 0]))] sz) := by
  refine Met.ofW (cc := cX1_read) (maxL := 4) (ret := (some .int)) (by decide) rfl ?_
  intro p e s m args below meth c s₁ B hml hv
  obtain ⟨rfl, hsz, hP, hK, hD0⟩ := hv
  have hx := B.exec
  have hb := B.bytes
  have hr := B.returns
  have hts := atoms_spec (ws := wsX1_read) B.pre
  have hown : s.vm.findClass RX1 = some m.cls := findClass_of_methodNamed B.named
  have hlocks := B.notSynchronized
  subst hsz
  have hD := hD0.self (sz := s.heap.size)
  generalize hAe : va_A [(dr, .inr (1, [.ref tk])), (tk, .inr (8, [.ref tk1, .ref tk2, .ref tk3, .ref tk4, .int 0, .int 0, .int 0, .int 0, .int (-1)])), (tk1, .inl (y 0, 401, .inl (fun _ => 0))), (tk2, .inl (y 0, 401, .inl (fun _ => 0))), (tk3, .inl (y 0, 401, .inl (fun _ => 0))), (tk4, .inl (y 0, 401, .inl (fun _ => 0))), (tp, .inl (y 0, 400, .inl f)), (da, .inr (9, [.ref dak, .ref dav, .ref dae, .ref dad, .int 0]))] s.heap.size = A at hD ⊢
  have hA : ∀ q : Nat, s.heap.size ≤ q → A q := fun q h => by rw [← hAe]; exact Or.inr h
  have hS : va_S A s.heap s.heap [] := va_S.rf
  have hP : va_P G vwCl [(dr, .inr (1, [.ref tk])), (tk, .inr (8, [.ref tk1, .ref tk2, .ref tk3, .ref tk4, .int 0, .int 0, .int 0, .int 0, .int (-1)])), (tk1, .inl (y 0, 401, .inl (fun _ => 0))), (tk2, .inl (y 0, 401, .inl (fun _ => 0))), (tk3, .inl (y 0, 401, .inl (fun _ => 0))), (tk4, .inl (y 0, 401, .inl (fun _ => 0))), (tp, .inl (y 0, 400, .inl f)), (da, .inr (9, [.ref dak, .ref dav, .ref dae, .ref dad, .int 0]))] s.heap := hP
  have inX1 : ∀ w ∈ wsX10, w ∈ wsX1_read := by decide +kernel
  have inX8 : ∀ w ∈ wsX80, w ∈ wsX1_read := by decide +kernel
  have hl := lv_entry ([.ref dr, .ref tp, .int 0, .ref da]) (n := 4) (Nat.le_of_ble_eq_true rfl)
  rw [lg_entry_eq]
  generalize (lg_sl ([.ref dr, .ref tp, .int 0, .ref da]) ++ List.replicate (4 - (lg_sl ([.ref dr, .ref tp, .int 0, .ref da])).length) Slot.unset).toArray = ls at hl ⊢
  have hl : lv_has ls 4 [(0, .ref dr), (1, .ref tp), (2, .int 0), (3, .ref da)] := hl
  refine lv_aload_n hx hb dX1_read_0 rfl (lv_at hl 0 rfl) ?_
  refine va_get (D := G) (ci := 1) (v := .ref tk) (C := RX1) (T := TX1) (N := 1) hx hb hts inX1 hown hK.1 hP 0 rfl rfl 0 (by decide) (hts (.fieldLink RX1 9 "NestQuery$DataReader" "tokens" "LNestQuery$Tokens;") (by decide +kernel)) (fun _ h9 => h9) rfl dX1_read_1 ?_
  refine lv_aload_n hx hb dX1_read_4 rfl (lv_at hl 1 rfl) ?_
  refine lv_iload_n hx hb dX1_read_5 rfl (lv_at hl 2 rfl) ?_
  refine nq_wrv (wr := [(dr, .inr (1, [.ref tk])), (da, .inr (9, [.ref dak, .ref dav, .ref dae, .ref dad, .int 0]))]) (va_runV (As := [.ref tp, .int 0]) (rest := []) ⟨hx, hb, hml, hown, hts⟩ (c_begin l G y s.heap.size tk tk1 tk2 tk3 tk4 tp f ) (cwV 2 hts gX1_read_X8_begin rfl rfl rfl (by decide +kernel) ⟨Nat.le_of_ble_eq_true rfl, Nat.le_of_ble_eq_true rfl⟩) (nq_PV hK hP hD [1, 2, 3, 4, 5, 6] rfl rfl 1 rfl rfl) rfl rfl hl.1 rfl (lv_room (Nat.le_of_ble_eq_true rfl)) dX1_read_6 ⟨Nat.le_of_ble_eq_true rfl, Nat.le_of_ble_eq_true rfl⟩) hP hD hS hA [1, 2, 3, 4, 5, 6] [0, 7] rfl rfl (by decide) (by decide) (fun u_1 H locs hw_2 hP hD hS => ?_)
  have hP : va_P G vwCl [(dr, .inr (1, [.ref tk])), (da, .inr (9, [.ref dak, .ref dav, .ref dae, .ref dad, .int 0])), (tk, .inr (8, [.ref tk1, .ref tk2, .ref tk3, .ref tk4, .int 1, .int 0, .int 259, .int 0, .int (-1)])), (tk2, .inl (y 0, 401, .inl (upd (fun _ => 0) 0 0)))] H := hP
  have hD : va_D A [(dr, .inr (1, [.ref tk])), (da, .inr (9, [.ref dak, .ref dav, .ref dae, .ref dad, .int 0])), (tk, .inr (8, [.ref tk1, .ref tk2, .ref tk3, .ref tk4, .int 1, .int 0, .int 259, .int 0, .int (-1)])), (tk2, .inl (y 0, 401, .inl (upd (fun _ => 0) 0 0)))] := hD
  refine lv_aload_n hx hb dX1_read_9 rfl (lv_at hl 3 rfl) ?_
  refine nq_wrv (wr := [(dr, .inr (1, [.ref tk])), (tk, .inr (8, [.ref tk1, .ref tk2, .ref tk3, .ref tk4, .int 1, .int 0, .int 259, .int 0, .int (-1)])), (tk2, .inl (y 0, 401, .inl (upd (fun _ => 0) 0 0)))]) (va_runV (As := []) (rest := []) ⟨hx, hb, hml, hown, hts⟩ (c_Tree_clear l G y H.size da dak dav dae dad ) (cwV 0 hts gX1_read_X9_clear rfl rfl rfl (by decide +kernel) ⟨Nat.le_of_ble_eq_true rfl, Nat.le_of_ble_eq_true rfl⟩) (nq_PV hK hP hD [1] rfl rfl 1 rfl rfl) rfl rfl hl.1 rfl (lv_room (Nat.le_of_ble_eq_true rfl)) dX1_read_10 ⟨Nat.le_of_ble_eq_true rfl, Nat.le_of_ble_eq_true rfl⟩) hP hD hS hA [1] [0, 2, 3] rfl rfl (by decide) (by decide) (fun u_4 H locs hw_5 hP hD hS => ?_)
  have hP : va_P G vwCl [(dr, .inr (1, [.ref tk])), (tk, .inr (8, [.ref tk1, .ref tk2, .ref tk3, .ref tk4, .int 1, .int 0, .int 259, .int 0, .int (-1)])), (tk2, .inl (y 0, 401, .inl (upd (fun _ => 0) 0 0))), (da, .inr (9, [.ref dak, .ref dav, .ref dae, .ref dad, .int 0]))] H := hP
  have hD : va_D A [(dr, .inr (1, [.ref tk])), (tk, .inr (8, [.ref tk1, .ref tk2, .ref tk3, .ref tk4, .int 1, .int 0, .int 259, .int 0, .int (-1)])), (tk2, .inl (y 0, 401, .inl (upd (fun _ => 0) 0 0))), (da, .inr (9, [.ref dak, .ref dav, .ref dae, .ref dad, .int 0]))] := hD
  refine lv_aload_n hx hb dX1_read_13 rfl (lv_at hl 0 rfl) ?_
  refine lv_aload_n hx hb dX1_read_14 rfl (lv_at hl 3 rfl) ?_
  refine lv_iconst (v := 0) hx hb dX1_read_15 (by decide) ?_
  refine lv_iconst (v := 0) hx hb dX1_read_16 (by decide) ?_
  refine nq_wrv (wr := []) (va_runV (As := [.ref da, .int 0, .int 0]) (rest := []) ⟨hx, hb, hml, hown, hts⟩ (c_readThing l G y H.size dr tk tk1 tk2 tk3 tk4 da dak dav dae dad ) (cwV 3 hts gX1_read_X1_readThing rfl rfl rfl (by decide +kernel) ⟨Nat.le_of_ble_eq_true rfl, Nat.le_of_ble_eq_true rfl⟩) (nq_PV hK hP hD [0, 1, 2, 3] rfl rfl 0 rfl rfl) rfl rfl hl.1 rfl (lv_room (Nat.le_of_ble_eq_true rfl)) dX1_read_17 ⟨Nat.le_of_ble_eq_true rfl, Nat.le_of_ble_eq_true rfl⟩) hP hD hS hA [0, 1, 2, 3] [] rfl rfl (by decide) (by decide) (fun u_7 H locs hw_8 hP hD hS => ?_)
  have hP : va_P G vwCl [(dr, .inr (1, [.ref tk])), (tk, .inr (8, [.ref tk1, .ref tk2, .ref tk3, .ref tk4, .int 1, .int 0, .int 260, .int 1, .int 0])), (tk2, .inl (y 0, 401, .inl (upd (fun _ => 0) 0 0)))] H := hP
  have hD : va_D A [(dr, .inr (1, [.ref tk])), (tk, .inr (8, [.ref tk1, .ref tk2, .ref tk3, .ref tk4, .int 1, .int 0, .int 260, .int 1, .int 0])), (tk2, .inl (y 0, 401, .inl (upd (fun _ => 0) 0 0)))] := hD
  refine lv_aload_n hx hb dX1_read_20 rfl (lv_at hl 0 rfl) ?_
  refine va_get (D := G) (ci := 1) (v := .ref tk) (C := RX1) (T := TX1) (N := 1) hx hb hts inX1 hown hK.1 hP 0 rfl rfl 0 (by decide) (hts (.fieldLink RX1 9 "NestQuery$DataReader" "tokens" "LNestQuery$Tokens;") (by decide +kernel)) (fun _ h9 => h9) rfl dX1_read_21 ?_
  refine va_getN (D := G) (ci := 8) (v := .int 260) (C := RX8) (T := TX8) (N := 9) hx hb hts inX8 hown hK.1 hP 1 rfl rfl 6 (by decide) (va_Nw.use rfl (hK.2.1.1 _ (List.mem_of_getElem? (i := 4) rfl))) (fun _ h9 => h9) rfl dX1_read_24 ?_
  refine lv_sipush (v := 259) hx hb dX1_read_27 (by decide) ?_
  refine lv_icmp_eq (tgt := 41) hx hb dX1_read_30 (by decide) (fun c_10 => absurd c_10 (by decide)) (fun _ => ?_)
  refine lv_aload_n hx hb dX1_read_33 rfl (lv_at hl 0 rfl) ?_
  refine va_get (D := G) (ci := 1) (v := .ref tk) (C := RX1) (T := TX1) (N := 1) hx hb hts inX1 hown hK.1 hP 0 rfl rfl 0 (by decide) (hts (.fieldLink RX1 9 "NestQuery$DataReader" "tokens" "LNestQuery$Tokens;") (by decide +kernel)) (fun _ h9 => h9) rfl dX1_read_34 ?_
  refine lv_iconst (v := 1) hx hb dX1_read_37 (by decide) ?_
  refine nq_wrv (wr := [(dr, .inr (1, [.ref tk]))]) (va_runV (As := [.int 1]) (rest := []) ⟨hx, hb, hml, hown, hts⟩ (c_fail_b l G y H.size tk tk1 tk2 tk3 tk4 ) (cwV 1 hts gX1_read_X8_fail rfl rfl rfl (by decide +kernel) ⟨Nat.le_of_ble_eq_true rfl, Nat.le_of_ble_eq_true rfl⟩) (nq_PV hK hP hD [1, 2] rfl rfl 1 rfl rfl) rfl rfl hl.1 rfl (lv_room (Nat.le_of_ble_eq_true rfl)) dX1_read_38 ⟨Nat.le_of_ble_eq_true rfl, Nat.le_of_ble_eq_true rfl⟩) hP hD hS hA [1, 2] [0] rfl rfl (by decide) (by decide) (fun u_11 H locs hw_12 hP hD hS => ?_)
  have hP : va_P G vwCl [(dr, .inr (1, [.ref tk])), (tk, .inr (8, [.ref tk1, .ref tk2, .ref tk3, .ref tk4, .int 1, .int 0, .int 260, .int 1, .int 0]))] H := hP
  have hD : va_D A [(dr, .inr (1, [.ref tk])), (tk, .inr (8, [.ref tk1, .ref tk2, .ref tk3, .ref tk4, .int 1, .int 0, .int 260, .int 1, .int 0]))] := hD
  refine lv_aload_n hx hb dX1_read_41 rfl (lv_at hl 0 rfl) ?_
  refine va_get (D := G) (ci := 1) (v := .ref tk) (C := RX1) (T := TX1) (N := 1) hx hb hts inX1 hown hK.1 hP 0 rfl rfl 0 (by decide) (hts (.fieldLink RX1 9 "NestQuery$DataReader" "tokens" "LNestQuery$Tokens;") (by decide +kernel)) (fun _ h9 => h9) rfl dX1_read_42 ?_
  refine va_getN (D := G) (ci := 8) (v := .int 1) (C := RX8) (T := TX8) (N := 9) hx hb hts inX8 hown hK.1 hP 1 rfl rfl 7 (by decide) (va_Nw.use rfl (hK.2.1.1 _ (List.mem_of_getElem? (i := 7) rfl))) (fun _ h9 => h9) rfl dX1_read_45 ?_
  have hP9 := hP.sub (ws' := [(tk, .inr (8, [.ref tk1, .ref tk2, .ref tk3, .ref tk4, .int 1, .int 0, .int 260, .int 1, .int 0]))]) [1] rfl
  have hD9 := hD.sub (ws' := [(tk, .inr (8, [.ref tk1, .ref tk2, .ref tk3, .ref tk4, .int 1, .int 0, .int 260, .int 1, .int 0]))]) [1] (by decide) rfl
  refine W.widen (k := 0) (n := 0) (Nat.le_of_ble_eq_true rfl) (Nat.le_of_ble_eq_true rfl) ?_
  exact W.iret (v := 1) hx hb hr (fun t ht hW => ⟨⟨1, (), rfl, rfl, by rw [ht]; exact hP9, by first | exact hD9 | (rw [hAe]; exact hD9)⟩, hS.F ht⟩) hS.2.2 dX1_read_48

set_option maxHeartbeats 4000000 in
set_option maxRecDepth 100000 in
theorem c_textWasRead1 (l : Launch) (G : va_G) (y : Nat → ClassId) (sz : Nat) (h0 : Nat) (tp : Nat) (ps : Nat) (sp : Nat) (tk : Nat) (dr : Nat) (pr : Nat) (da : Nat) (nw : Nat) (im : Nat) (ac : Nat) (ke : Nat) (si : Nat) (tx : Nat) (an : Nat) (dw : Nat) (tk1 : Nat) (tk2 : Nat) (tk3 : Nat) (tk4 : Nat) (nwt : Nat) (nwb : Nat) (nwn : Nat) (nwi : Nat) (nwr : Nat)  : Met l yX10_textWasRead wsX10_textWasRead ({ frames := 1, cells := 0, slots := 0, locals := 21 }) (nq_P G y sz [.ref h0, .int 1] [(h0, .inr (10, [.ref tp, .int 0, .int (-1), .ref ps, .ref sp, .ref tk, .ref dr, .ref pr, .ref da, .ref nw, .ref im, .int 0, .ref ac, .ref ke, .ref si, .ref tx, .ref an, .ref dw])), (tk, .inr (8, [.ref tk1, .ref tk2, .ref tk3, .ref tk4, .int 1, .int 0, .int 260, .int 1, .int 0])), (nw, .inr (6, [.ref nwt, .ref nwb, .int 0, .ref nwn, .ref nwi, .int 0, .ref nwr])), (nwr, .inl (y 0, 3, .inl (fun _ => 0)))]) (va_Qv (fun (_ : Unit) => True) (fun (u : Unit) t9 => va_P G vwCl ([]) t9.heap ∧ va_D (va_A [(h0, .inr (10, [.ref tp, .int 0, .int (-1), .ref ps, .ref sp, .ref tk, .ref dr, .ref pr, .ref da, .ref nw, .ref im, .int 0, .ref ac, .ref ke, .ref si, .ref tx, .ref an, .ref dw])), (tk, .inr (8, [.ref tk1, .ref tk2, .ref tk3, .ref tk4, .int 1, .int 0, .int 260, .int 1, .int 0])), (nw, .inr (6, [.ref nwt, .ref nwb, .int 0, .ref nwn, .ref nwi, .int 0, .ref nwr])), (nwr, .inl (y 0, 3, .inl (fun _ => 0)))] sz) ([])) (va_A [(h0, .inr (10, [.ref tp, .int 0, .int (-1), .ref ps, .ref sp, .ref tk, .ref dr, .ref pr, .ref da, .ref nw, .ref im, .int 0, .ref ac, .ref ke, .ref si, .ref tx, .ref an, .ref dw])), (tk, .inr (8, [.ref tk1, .ref tk2, .ref tk3, .ref tk4, .int 1, .int 0, .int 260, .int 1, .int 0])), (nw, .inr (6, [.ref nwt, .ref nwb, .int 0, .ref nwn, .ref nwi, .int 0, .ref nwr])), (nwr, .inl (y 0, 3, .inl (fun _ => 0)))] sz)) 0 0 (va_A [(h0, .inr (10, [.ref tp, .int 0, .int (-1), .ref ps, .ref sp, .ref tk, .ref dr, .ref pr, .ref da, .ref nw, .ref im, .int 0, .ref ac, .ref ke, .ref si, .ref tx, .ref an, .ref dw])), (tk, .inr (8, [.ref tk1, .ref tk2, .ref tk3, .ref tk4, .int 1, .int 0, .int 260, .int 1, .int 0])), (nw, .inr (6, [.ref nwt, .ref nwb, .int 0, .ref nwn, .ref nwi, .int 0, .ref nwr])), (nwr, .inl (y 0, 3, .inl (fun _ => 0)))] sz) := by
  refine Met.ofW (cc := cX10_textWasRead) (maxL := 2) (ret := none) (by decide) rfl ?_
  intro p e s m args below meth c s₁ B hml hv
  obtain ⟨rfl, hsz, hP, hK, hD0⟩ := hv
  have hx := B.exec
  have hb := B.bytes
  have hr := B.returns
  have hts := atoms_spec (ws := wsX10_textWasRead) B.pre
  have hown : s.vm.findClass RX10 = some m.cls := findClass_of_methodNamed B.named
  have hlocks := B.notSynchronized
  subst hsz
  have hD := hD0.self (sz := s.heap.size)
  generalize hAe : va_A [(h0, .inr (10, [.ref tp, .int 0, .int (-1), .ref ps, .ref sp, .ref tk, .ref dr, .ref pr, .ref da, .ref nw, .ref im, .int 0, .ref ac, .ref ke, .ref si, .ref tx, .ref an, .ref dw])), (tk, .inr (8, [.ref tk1, .ref tk2, .ref tk3, .ref tk4, .int 1, .int 0, .int 260, .int 1, .int 0])), (nw, .inr (6, [.ref nwt, .ref nwb, .int 0, .ref nwn, .ref nwi, .int 0, .ref nwr])), (nwr, .inl (y 0, 3, .inl (fun _ => 0)))] s.heap.size = A at hD ⊢
  have hA : ∀ q : Nat, s.heap.size ≤ q → A q := fun q h => by rw [← hAe]; exact Or.inr h
  have hS : va_S A s.heap s.heap [] := va_S.rf
  have hP : va_P G vwCl [(h0, .inr (10, [.ref tp, .int 0, .int (-1), .ref ps, .ref sp, .ref tk, .ref dr, .ref pr, .ref da, .ref nw, .ref im, .int 0, .ref ac, .ref ke, .ref si, .ref tx, .ref an, .ref dw])), (tk, .inr (8, [.ref tk1, .ref tk2, .ref tk3, .ref tk4, .int 1, .int 0, .int 260, .int 1, .int 0])), (nw, .inr (6, [.ref nwt, .ref nwb, .int 0, .ref nwn, .ref nwi, .int 0, .ref nwr])), (nwr, .inl (y 0, 3, .inl (fun _ => 0)))] s.heap := hP
  have inX10 : ∀ w ∈ wsX100, w ∈ wsX10_textWasRead := by decide +kernel
  have inX8 : ∀ w ∈ wsX80, w ∈ wsX10_textWasRead := by decide +kernel
  have hl := lv_entry ([.ref h0, .int 1]) (n := 2) (Nat.le_of_ble_eq_true rfl)
  rw [lg_entry_eq]
  generalize (lg_sl ([.ref h0, .int 1]) ++ List.replicate (2 - (lg_sl ([.ref h0, .int 1])).length) Slot.unset).toArray = ls at hl ⊢
  have hl : lv_has ls 2 [(0, .ref h0), (1, .int 1)] := hl
  refine lv_aload_n hx hb dX10_textWasRead_0 rfl (lv_at hl 0 rfl) ?_
  refine lv_iconst (v := 0) hx hb dX10_textWasRead_1 (by decide) ?_
  refine va_put (D := G) (ci := 10) (v := .int 0) (ty := .int) (C := RX10) (T := TX10) (N := 18) hx hb hts inX10 tyX10 tyX10_ok nmX10 hown hK.1 hP hD hS 0 rfl rfl 1 (by decide) (hts (.fieldLink RX10 114 "NestQuery" "tapeCount" "I") (by decide +kernel)) (fun _ h9 => h9) rfl (by decide +kernel) rfl rfl (Nat.le_of_ble_eq_true rfl) dX10_textWasRead_2 (fun H locs hP hD hS => ?_)
  have hP : va_P G vwCl [(h0, .inr (10, [.ref tp, .int 0, .int (-1), .ref ps, .ref sp, .ref tk, .ref dr, .ref pr, .ref da, .ref nw, .ref im, .int 0, .ref ac, .ref ke, .ref si, .ref tx, .ref an, .ref dw])), (tk, .inr (8, [.ref tk1, .ref tk2, .ref tk3, .ref tk4, .int 1, .int 0, .int 260, .int 1, .int 0])), (nw, .inr (6, [.ref nwt, .ref nwb, .int 0, .ref nwn, .ref nwi, .int 0, .ref nwr])), (nwr, .inl (y 0, 3, .inl (fun _ => 0)))] H := hP
  have hD : va_D A [(h0, .inr (10, [.ref tp, .int 0, .int (-1), .ref ps, .ref sp, .ref tk, .ref dr, .ref pr, .ref da, .ref nw, .ref im, .int 0, .ref ac, .ref ke, .ref si, .ref tx, .ref an, .ref dw])), (tk, .inr (8, [.ref tk1, .ref tk2, .ref tk3, .ref tk4, .int 1, .int 0, .int 260, .int 1, .int 0])), (nw, .inr (6, [.ref nwt, .ref nwb, .int 0, .ref nwn, .ref nwi, .int 0, .ref nwr])), (nwr, .inl (y 0, 3, .inl (fun _ => 0)))] := hD
  refine lv_aload_n hx hb dX10_textWasRead_5 rfl (lv_at hl 0 rfl) ?_
  refine lv_aload_n hx hb dX10_textWasRead_6 rfl (lv_at hl 0 rfl) ?_
  refine va_get (D := G) (ci := 10) (v := .ref tk) (C := RX10) (T := TX10) (N := 18) hx hb hts inX10 hown hK.1 hP 0 rfl rfl 5 (by decide) (hts (.fieldLink RX10 31 "NestQuery" "tokens" "LNestQuery$Tokens;") (by decide +kernel)) (fun _ h9 => h9) rfl dX10_textWasRead_7 ?_
  refine va_getN (D := G) (ci := 8) (v := .int 0) (C := RX8) (T := TX8) (N := 9) hx hb hts inX8 hown hK.1 hP 1 rfl rfl 8 (by decide) (va_Nw.use rfl (hK.2.1.1 _ (List.mem_of_getElem? (i := 8) rfl))) (fun _ h9 => h9) rfl dX10_textWasRead_10 ?_
  refine va_put (D := G) (ci := 10) (v := .int 0) (ty := .int) (C := RX10) (T := TX10) (N := 18) hx hb hts inX10 tyX10 tyX10_ok nmX10 hown hK.1 hP hD hS 0 rfl rfl 2 (by decide) (hts (.fieldLink RX10 13 "NestQuery" "faultPlace" "I") (by decide +kernel)) (fun _ h9 => h9) rfl (by decide +kernel) rfl rfl (Nat.le_of_ble_eq_true rfl) dX10_textWasRead_13 (fun H locs hP hD hS => ?_)
  have hP : va_P G vwCl [(h0, .inr (10, [.ref tp, .int 0, .int 0, .ref ps, .ref sp, .ref tk, .ref dr, .ref pr, .ref da, .ref nw, .ref im, .int 0, .ref ac, .ref ke, .ref si, .ref tx, .ref an, .ref dw])), (tk, .inr (8, [.ref tk1, .ref tk2, .ref tk3, .ref tk4, .int 1, .int 0, .int 260, .int 1, .int 0])), (nw, .inr (6, [.ref nwt, .ref nwb, .int 0, .ref nwn, .ref nwi, .int 0, .ref nwr])), (nwr, .inl (y 0, 3, .inl (fun _ => 0)))] H := hP
  have hD : va_D A [(h0, .inr (10, [.ref tp, .int 0, .int 0, .ref ps, .ref sp, .ref tk, .ref dr, .ref pr, .ref da, .ref nw, .ref im, .int 0, .ref ac, .ref ke, .ref si, .ref tx, .ref an, .ref dw])), (tk, .inr (8, [.ref tk1, .ref tk2, .ref tk3, .ref tk4, .int 1, .int 0, .int 260, .int 1, .int 0])), (nw, .inr (6, [.ref nwt, .ref nwb, .int 0, .ref nwn, .ref nwi, .int 0, .ref nwr])), (nwr, .inl (y 0, 3, .inl (fun _ => 0)))] := hD
  refine lv_iload_n hx hb dX10_textWasRead_16 rfl (lv_at hl 1 rfl) ?_
  refine lv_if_eq (tgt := 28) hx hb dX10_textWasRead_17 (by decide) (fun c_1 => absurd c_1 (by decide)) (fun _ => ?_)
  refine lv_aload_n hx hb dX10_textWasRead_20 rfl (lv_at hl 0 rfl) ?_
  refine va_get (D := G) (ci := 10) (v := .ref nw) (C := RX10) (T := TX10) (N := 18) hx hb hts inX10 hown hK.1 hP 0 rfl rfl 9 (by decide) (hts (.fieldLink RX10 63 "NestQuery" "now" "LNestQuery$State;") (by decide +kernel)) (fun _ h9 => h9) rfl dX10_textWasRead_21 ?_
  refine lv_iconst (v := 0) hx hb dX10_textWasRead_24 (by decide) ?_
  refine nq_wrv (wr := [(h0, .inr (10, [.ref tp, .int 0, .int 0, .ref ps, .ref sp, .ref tk, .ref dr, .ref pr, .ref da, .ref nw, .ref im, .int 0, .ref ac, .ref ke, .ref si, .ref tx, .ref an, .ref dw])), (tk, .inr (8, [.ref tk1, .ref tk2, .ref tk3, .ref tk4, .int 1, .int 0, .int 260, .int 1, .int 0]))]) (va_runV (As := [.int 0]) (rest := []) ⟨hx, hb, hml, hown, hts⟩ (c_refuse0 l G y H.size nw nwt nwb nwn nwi nwr ) (cwV 1 hts gX10_textWasRead_X6_refuse rfl rfl rfl (by decide +kernel) ⟨Nat.le_of_ble_eq_true rfl, Nat.le_of_ble_eq_true rfl⟩) (nq_PV hK hP hD [2, 3] rfl rfl 2 rfl rfl) rfl rfl hl.1 rfl (lv_room (Nat.le_of_ble_eq_true rfl)) dX10_textWasRead_25 ⟨Nat.le_of_ble_eq_true rfl, Nat.le_of_ble_eq_true rfl⟩) hP hD hS hA [2, 3] [0, 1] rfl rfl (by decide) (by decide) (fun u_2 H locs hw_3 hP hD hS => ?_)
  have hP : va_P G vwCl [(h0, .inr (10, [.ref tp, .int 0, .int 0, .ref ps, .ref sp, .ref tk, .ref dr, .ref pr, .ref da, .ref nw, .ref im, .int 0, .ref ac, .ref ke, .ref si, .ref tx, .ref an, .ref dw])), (tk, .inr (8, [.ref tk1, .ref tk2, .ref tk3, .ref tk4, .int 1, .int 0, .int 260, .int 1, .int 0]))] H := hP
  have hD : va_D A [(h0, .inr (10, [.ref tp, .int 0, .int 0, .ref ps, .ref sp, .ref tk, .ref dr, .ref pr, .ref da, .ref nw, .ref im, .int 0, .ref ac, .ref ke, .ref si, .ref tx, .ref an, .ref dw])), (tk, .inr (8, [.ref tk1, .ref tk2, .ref tk3, .ref tk4, .int 1, .int 0, .int 260, .int 1, .int 0]))] := hD
  have hP9 := hP.sub (ws' := []) [] rfl
  have hD9 := hD.sub (ws' := []) [] (by decide) rfl
  refine W.widen (k := 0) (n := 0) (Nat.le_of_ble_eq_true rfl) (Nat.le_of_ble_eq_true rfl) ?_
  exact W.vret hx hb hr (fun t ht hW => ⟨⟨(), rfl, trivial, by rw [ht]; exact hP9, by first | exact hD9 | (rw [hAe]; exact hD9)⟩, hS.F ht⟩) hS.2.2 dX10_textWasRead_28

set_option maxHeartbeats 4000000 in
set_option maxRecDepth 100000 in
theorem c_readData (l : Launch) (G : va_G) (y : Nat → ClassId) (sz : Nat) (h0 : Nat) (tp : Nat) (ps : Nat) (sp : Nat) (tk : Nat) (dr : Nat) (pr : Nat) (da : Nat) (nw : Nat) (im : Nat) (ac : Nat) (ke : Nat) (si : Nat) (tx : Nat) (an : Nat) (dw : Nat) (tk1 : Nat) (tk2 : Nat) (tk3 : Nat) (tk4 : Nat) (dak : Nat) (dav : Nat) (dae : Nat) (dad : Nat) (nwt : Nat) (nwb : Nat) (nwn : Nat) (nwi : Nat) (nwr : Nat) (f : Nat → Int32)  : Met l yX10_readData wsX10_readData ({ frames := 3, cells := 0, slots := 0, locals := 90 }) (nq_P G y sz [.ref h0, .int 0] [(h0, .inr (10, [.ref tp, .int 0, .int (-1), .ref ps, .ref sp, .ref tk, .ref dr, .ref pr, .ref da, .ref nw, .ref im, .int 0, .ref ac, .ref ke, .ref si, .ref tx, .ref an, .ref dw])), (dr, .inr (1, [.ref tk])), (tk, .inr (8, [.ref tk1, .ref tk2, .ref tk3, .ref tk4, .int 0, .int 0, .int 0, .int 0, .int (-1)])), (tk1, .inl (y 0, 401, .inl (fun _ => 0))), (tk2, .inl (y 0, 401, .inl (fun _ => 0))), (tk3, .inl (y 0, 401, .inl (fun _ => 0))), (tk4, .inl (y 0, 401, .inl (fun _ => 0))), (tp, .inl (y 0, 400, .inl f)), (da, .inr (9, [.ref dak, .ref dav, .ref dae, .ref dad, .int 0])), (nw, .inr (6, [.ref nwt, .ref nwb, .int 0, .ref nwn, .ref nwi, .int 0, .ref nwr])), (nwr, .inl (y 0, 3, .inl (fun _ => 0)))]) (va_Qi (fun (r : Int32) (_ : Unit) => r = 1) (fun (u : Unit) t9 => va_P G vwCl ([]) t9.heap ∧ va_D (va_A [(h0, .inr (10, [.ref tp, .int 0, .int (-1), .ref ps, .ref sp, .ref tk, .ref dr, .ref pr, .ref da, .ref nw, .ref im, .int 0, .ref ac, .ref ke, .ref si, .ref tx, .ref an, .ref dw])), (dr, .inr (1, [.ref tk])), (tk, .inr (8, [.ref tk1, .ref tk2, .ref tk3, .ref tk4, .int 0, .int 0, .int 0, .int 0, .int (-1)])), (tk1, .inl (y 0, 401, .inl (fun _ => 0))), (tk2, .inl (y 0, 401, .inl (fun _ => 0))), (tk3, .inl (y 0, 401, .inl (fun _ => 0))), (tk4, .inl (y 0, 401, .inl (fun _ => 0))), (tp, .inl (y 0, 400, .inl f)), (da, .inr (9, [.ref dak, .ref dav, .ref dae, .ref dad, .int 0])), (nw, .inr (6, [.ref nwt, .ref nwb, .int 0, .ref nwn, .ref nwi, .int 0, .ref nwr])), (nwr, .inl (y 0, 3, .inl (fun _ => 0)))] sz) ([])) (va_A [(h0, .inr (10, [.ref tp, .int 0, .int (-1), .ref ps, .ref sp, .ref tk, .ref dr, .ref pr, .ref da, .ref nw, .ref im, .int 0, .ref ac, .ref ke, .ref si, .ref tx, .ref an, .ref dw])), (dr, .inr (1, [.ref tk])), (tk, .inr (8, [.ref tk1, .ref tk2, .ref tk3, .ref tk4, .int 0, .int 0, .int 0, .int 0, .int (-1)])), (tk1, .inl (y 0, 401, .inl (fun _ => 0))), (tk2, .inl (y 0, 401, .inl (fun _ => 0))), (tk3, .inl (y 0, 401, .inl (fun _ => 0))), (tk4, .inl (y 0, 401, .inl (fun _ => 0))), (tp, .inl (y 0, 400, .inl f)), (da, .inr (9, [.ref dak, .ref dav, .ref dae, .ref dad, .int 0])), (nw, .inr (6, [.ref nwt, .ref nwb, .int 0, .ref nwn, .ref nwi, .int 0, .ref nwr])), (nwr, .inl (y 0, 3, .inl (fun _ => 0)))] sz)) 0 0 (va_A [(h0, .inr (10, [.ref tp, .int 0, .int (-1), .ref ps, .ref sp, .ref tk, .ref dr, .ref pr, .ref da, .ref nw, .ref im, .int 0, .ref ac, .ref ke, .ref si, .ref tx, .ref an, .ref dw])), (dr, .inr (1, [.ref tk])), (tk, .inr (8, [.ref tk1, .ref tk2, .ref tk3, .ref tk4, .int 0, .int 0, .int 0, .int 0, .int (-1)])), (tk1, .inl (y 0, 401, .inl (fun _ => 0))), (tk2, .inl (y 0, 401, .inl (fun _ => 0))), (tk3, .inl (y 0, 401, .inl (fun _ => 0))), (tk4, .inl (y 0, 401, .inl (fun _ => 0))), (tp, .inl (y 0, 400, .inl f)), (da, .inr (9, [.ref dak, .ref dav, .ref dae, .ref dad, .int 0])), (nw, .inr (6, [.ref nwt, .ref nwb, .int 0, .ref nwn, .ref nwi, .int 0, .ref nwr])), (nwr, .inl (y 0, 3, .inl (fun _ => 0)))] sz) := by
  refine Met.ofW (cc := cX10_readData) (maxL := 3) (ret := (some .int)) (by decide) rfl ?_
  intro p e s m args below meth c s₁ B hml hv
  obtain ⟨rfl, hsz, hP, hK, hD0⟩ := hv
  have hx := B.exec
  have hb := B.bytes
  have hr := B.returns
  have hts := atoms_spec (ws := wsX10_readData) B.pre
  have hown : s.vm.findClass RX10 = some m.cls := findClass_of_methodNamed B.named
  have hlocks := B.notSynchronized
  subst hsz
  have hD := hD0.self (sz := s.heap.size)
  generalize hAe : va_A [(h0, .inr (10, [.ref tp, .int 0, .int (-1), .ref ps, .ref sp, .ref tk, .ref dr, .ref pr, .ref da, .ref nw, .ref im, .int 0, .ref ac, .ref ke, .ref si, .ref tx, .ref an, .ref dw])), (dr, .inr (1, [.ref tk])), (tk, .inr (8, [.ref tk1, .ref tk2, .ref tk3, .ref tk4, .int 0, .int 0, .int 0, .int 0, .int (-1)])), (tk1, .inl (y 0, 401, .inl (fun _ => 0))), (tk2, .inl (y 0, 401, .inl (fun _ => 0))), (tk3, .inl (y 0, 401, .inl (fun _ => 0))), (tk4, .inl (y 0, 401, .inl (fun _ => 0))), (tp, .inl (y 0, 400, .inl f)), (da, .inr (9, [.ref dak, .ref dav, .ref dae, .ref dad, .int 0])), (nw, .inr (6, [.ref nwt, .ref nwb, .int 0, .ref nwn, .ref nwi, .int 0, .ref nwr])), (nwr, .inl (y 0, 3, .inl (fun _ => 0)))] s.heap.size = A at hD ⊢
  have hA : ∀ q : Nat, s.heap.size ≤ q → A q := fun q h => by rw [← hAe]; exact Or.inr h
  have hS : va_S A s.heap s.heap [] := va_S.rf
  have hP : va_P G vwCl [(h0, .inr (10, [.ref tp, .int 0, .int (-1), .ref ps, .ref sp, .ref tk, .ref dr, .ref pr, .ref da, .ref nw, .ref im, .int 0, .ref ac, .ref ke, .ref si, .ref tx, .ref an, .ref dw])), (dr, .inr (1, [.ref tk])), (tk, .inr (8, [.ref tk1, .ref tk2, .ref tk3, .ref tk4, .int 0, .int 0, .int 0, .int 0, .int (-1)])), (tk1, .inl (y 0, 401, .inl (fun _ => 0))), (tk2, .inl (y 0, 401, .inl (fun _ => 0))), (tk3, .inl (y 0, 401, .inl (fun _ => 0))), (tk4, .inl (y 0, 401, .inl (fun _ => 0))), (tp, .inl (y 0, 400, .inl f)), (da, .inr (9, [.ref dak, .ref dav, .ref dae, .ref dad, .int 0])), (nw, .inr (6, [.ref nwt, .ref nwb, .int 0, .ref nwn, .ref nwi, .int 0, .ref nwr])), (nwr, .inl (y 0, 3, .inl (fun _ => 0)))] s.heap := hP
  have inX10 : ∀ w ∈ wsX100, w ∈ wsX10_readData := by decide +kernel
  have hl := lv_entry ([.ref h0, .int 0]) (n := 3) (Nat.le_of_ble_eq_true rfl)
  rw [lg_entry_eq]
  generalize (lg_sl ([.ref h0, .int 0]) ++ List.replicate (3 - (lg_sl ([.ref h0, .int 0])).length) Slot.unset).toArray = ls at hl ⊢
  have hl : lv_has ls 3 [(0, .ref h0), (1, .int 0)] := hl
  refine lv_aload_n hx hb dX10_readData_0 rfl (lv_at hl 0 rfl) ?_
  refine va_get (D := G) (ci := 10) (v := .ref dr) (C := RX10) (T := TX10) (N := 18) hx hb hts inX10 hown hK.1 hP 0 rfl rfl 6 (by decide) (hts (.fieldLink RX10 40 "NestQuery" "dataReader" "LNestQuery$DataReader;") (by decide +kernel)) (fun _ h9 => h9) rfl dX10_readData_1 ?_
  refine lv_aload_n hx hb dX10_readData_4 rfl (lv_at hl 0 rfl) ?_
  refine va_get (D := G) (ci := 10) (v := .ref tp) (C := RX10) (T := TX10) (N := 18) hx hb hts inX10 hown hK.1 hP 0 rfl rfl 0 (by decide) (hts (.fieldLink RX10 9 "NestQuery" "tape" "[I") (by decide +kernel)) (fun _ h9 => h9) rfl dX10_readData_5 ?_
  refine lv_iload_n hx hb dX10_readData_8 rfl (lv_at hl 1 rfl) ?_
  refine lv_aload_n hx hb dX10_readData_9 rfl (lv_at hl 0 rfl) ?_
  refine va_get (D := G) (ci := 10) (v := .ref da) (C := RX10) (T := TX10) (N := 18) hx hb hts inX10 hown hK.1 hP 0 rfl rfl 8 (by decide) (hts (.fieldLink RX10 56 "NestQuery" "data" "LNestQuery$Tree;") (by decide +kernel)) (fun _ h9 => h9) rfl dX10_readData_10 ?_
  refine nq_wri (wr := [(h0, .inr (10, [.ref tp, .int 0, .int (-1), .ref ps, .ref sp, .ref tk, .ref dr, .ref pr, .ref da, .ref nw, .ref im, .int 0, .ref ac, .ref ke, .ref si, .ref tx, .ref an, .ref dw])), (nw, .inr (6, [.ref nwt, .ref nwb, .int 0, .ref nwn, .ref nwi, .int 0, .ref nwr])), (nwr, .inl (y 0, 3, .inl (fun _ => 0)))]) (va_runV (As := [.ref tp, .int 0, .ref da]) (rest := []) ⟨hx, hb, hml, hown, hts⟩ (c_DataReader_read l G y s.heap.size dr tk tk1 tk2 tk3 tk4 tp da dak dav dae dad f ) (cwV 3 hts gX10_readData_X1_read rfl rfl rfl (by decide +kernel) ⟨Nat.le_of_ble_eq_true rfl, Nat.le_of_ble_eq_true rfl⟩) (nq_PV hK hP hD [1, 2, 3, 4, 5, 6, 7, 8] rfl rfl 1 rfl rfl) rfl rfl hl.1 rfl (lv_room (Nat.le_of_ble_eq_true rfl)) dX10_readData_13 ⟨Nat.le_of_ble_eq_true rfl, Nat.le_of_ble_eq_true rfl⟩) hP hD hS hA [1, 2, 3, 4, 5, 6, 7, 8] [0, 9, 10] rfl rfl (by decide) (by decide) (fun r_3 u_1 H locs hw_2 hP hD hS => ?_)
  have hP : va_P G vwCl [(h0, .inr (10, [.ref tp, .int 0, .int (-1), .ref ps, .ref sp, .ref tk, .ref dr, .ref pr, .ref da, .ref nw, .ref im, .int 0, .ref ac, .ref ke, .ref si, .ref tx, .ref an, .ref dw])), (nw, .inr (6, [.ref nwt, .ref nwb, .int 0, .ref nwn, .ref nwi, .int 0, .ref nwr])), (nwr, .inl (y 0, 3, .inl (fun _ => 0))), (tk, .inr (8, [.ref tk1, .ref tk2, .ref tk3, .ref tk4, .int 1, .int 0, .int 260, .int 1, .int 0]))] H := hP
  have hD : va_D A [(h0, .inr (10, [.ref tp, .int 0, .int (-1), .ref ps, .ref sp, .ref tk, .ref dr, .ref pr, .ref da, .ref nw, .ref im, .int 0, .ref ac, .ref ke, .ref si, .ref tx, .ref an, .ref dw])), (nw, .inr (6, [.ref nwt, .ref nwb, .int 0, .ref nwn, .ref nwi, .int 0, .ref nwr])), (nwr, .inl (y 0, 3, .inl (fun _ => 0))), (tk, .inr (8, [.ref tk1, .ref tk2, .ref tk3, .ref tk4, .int 1, .int 0, .int 260, .int 1, .int 0]))] := hD
  subst hw_2
  refine lv_istore_n (lv' := [(2, .int 1), (0, .ref h0), (1, .int 0)]) hx hb dX10_readData_16 rfl hl (by decide) rfl (fun ls hl => ?_)
  refine lv_aload_n hx hb dX10_readData_17 rfl (lv_at hl 1 rfl) ?_
  refine lv_iload_n hx hb dX10_readData_18 rfl (lv_at hl 0 rfl) ?_
  refine nq_wrv (wr := []) (va_runV (As := [.int 1]) (rest := []) ⟨hx, hb, hml, hown, hts⟩ (c_textWasRead1 l G y H.size h0 tp ps sp tk dr pr da nw im ac ke si tx an dw tk1 tk2 tk3 tk4 nwt nwb nwn nwi nwr ) (cwV 1 hts gX10_readData_X10_textWasRead rfl rfl rfl (by decide +kernel) ⟨Nat.le_of_ble_eq_true rfl, Nat.le_of_ble_eq_true rfl⟩) (nq_PV hK hP hD [0, 3, 1, 2] rfl rfl 0 rfl rfl) rfl rfl hl.1 rfl (lv_room (Nat.le_of_ble_eq_true rfl)) dX10_readData_19 ⟨Nat.le_of_ble_eq_true rfl, Nat.le_of_ble_eq_true rfl⟩) hP hD hS hA [0, 3, 1, 2] [] rfl rfl (by decide) (by decide) (fun u_4 H locs hw_5 hP hD hS => ?_)
  have hP : va_P G vwCl [] H := hP
  have hD : va_D A [] := hD
  refine lv_iload_n hx hb dX10_readData_22 rfl (lv_at hl 0 rfl) ?_
  have hP9 := hP.sub (ws' := []) [] rfl
  have hD9 := hD.sub (ws' := []) [] (by decide) rfl
  refine W.widen (k := 0) (n := 0) (Nat.le_of_ble_eq_true rfl) (Nat.le_of_ble_eq_true rfl) ?_
  exact W.iret (v := 1) hx hb hr (fun t ht hW => ⟨⟨1, (), rfl, rfl, by rw [ht]; exact hP9, by first | exact hD9 | (rw [hAe]; exact hD9)⟩, hS.F ht⟩) hS.2.2 dX10_readData_23

set_option maxHeartbeats 4000000 in
set_option maxRecDepth 100000 in
theorem c_textWasRead0 (l : Launch) (G : va_G) (y : Nat → ClassId) (sz : Nat) (h0 : Nat) (tp : Nat) (ps : Nat) (sp : Nat) (tk : Nat) (dr : Nat) (pr : Nat) (da : Nat) (nw : Nat) (im : Nat) (ac : Nat) (ke : Nat) (si : Nat) (tx : Nat) (an : Nat) (dw : Nat) (tk1 : Nat) (tk2 : Nat) (tk3 : Nat) (tk4 : Nat)  : Met l yX10_textWasRead wsX10_textWasRead ({ frames := 0, cells := 0, slots := 0, locals := 0 }) (nq_P G y sz [.ref h0, .int 0] [(h0, .inr (10, [.ref tp, .int 0, .int (-1), .ref ps, .ref sp, .ref tk, .ref dr, .ref pr, .ref da, .ref nw, .ref im, .int 0, .ref ac, .ref ke, .ref si, .ref tx, .ref an, .ref dw])), (tk, .inr (8, [.ref tk1, .ref tk2, .ref tk3, .ref tk4, .int 1, .int 0, .int 259, .int 0, .int (-1)]))]) (va_Qv (fun (_ : Unit) => True) (fun (u : Unit) t9 => va_P G vwCl ([(h0, .inr (10, [.ref tp, .int 0, .int (-1), .ref ps, .ref sp, .ref tk, .ref dr, .ref pr, .ref da, .ref nw, .ref im, .int 0, .ref ac, .ref ke, .ref si, .ref tx, .ref an, .ref dw]))]) t9.heap ∧ va_D (va_A [(h0, .inr (10, [.ref tp, .int 0, .int (-1), .ref ps, .ref sp, .ref tk, .ref dr, .ref pr, .ref da, .ref nw, .ref im, .int 0, .ref ac, .ref ke, .ref si, .ref tx, .ref an, .ref dw])), (tk, .inr (8, [.ref tk1, .ref tk2, .ref tk3, .ref tk4, .int 1, .int 0, .int 259, .int 0, .int (-1)]))] sz) ([(h0, .inr (10, [.ref tp, .int 0, .int (-1), .ref ps, .ref sp, .ref tk, .ref dr, .ref pr, .ref da, .ref nw, .ref im, .int 0, .ref ac, .ref ke, .ref si, .ref tx, .ref an, .ref dw]))])) (va_A [(h0, .inr (10, [.ref tp, .int 0, .int (-1), .ref ps, .ref sp, .ref tk, .ref dr, .ref pr, .ref da, .ref nw, .ref im, .int 0, .ref ac, .ref ke, .ref si, .ref tx, .ref an, .ref dw])), (tk, .inr (8, [.ref tk1, .ref tk2, .ref tk3, .ref tk4, .int 1, .int 0, .int 259, .int 0, .int (-1)]))] sz)) 0 0 (va_A [(h0, .inr (10, [.ref tp, .int 0, .int (-1), .ref ps, .ref sp, .ref tk, .ref dr, .ref pr, .ref da, .ref nw, .ref im, .int 0, .ref ac, .ref ke, .ref si, .ref tx, .ref an, .ref dw])), (tk, .inr (8, [.ref tk1, .ref tk2, .ref tk3, .ref tk4, .int 1, .int 0, .int 259, .int 0, .int (-1)]))] sz) := by
  refine Met.ofW (cc := cX10_textWasRead) (maxL := 2) (ret := none) (by decide) rfl ?_
  intro p e s m args below meth c s₁ B hml hv
  obtain ⟨rfl, hsz, hP, hK, hD0⟩ := hv
  have hx := B.exec
  have hb := B.bytes
  have hr := B.returns
  have hts := atoms_spec (ws := wsX10_textWasRead) B.pre
  have hown : s.vm.findClass RX10 = some m.cls := findClass_of_methodNamed B.named
  have hlocks := B.notSynchronized
  subst hsz
  have hD := hD0.self (sz := s.heap.size)
  generalize hAe : va_A [(h0, .inr (10, [.ref tp, .int 0, .int (-1), .ref ps, .ref sp, .ref tk, .ref dr, .ref pr, .ref da, .ref nw, .ref im, .int 0, .ref ac, .ref ke, .ref si, .ref tx, .ref an, .ref dw])), (tk, .inr (8, [.ref tk1, .ref tk2, .ref tk3, .ref tk4, .int 1, .int 0, .int 259, .int 0, .int (-1)]))] s.heap.size = A at hD ⊢
  have hA : ∀ q : Nat, s.heap.size ≤ q → A q := fun q h => by rw [← hAe]; exact Or.inr h
  have hS : va_S A s.heap s.heap [] := va_S.rf
  have hP : va_P G vwCl [(h0, .inr (10, [.ref tp, .int 0, .int (-1), .ref ps, .ref sp, .ref tk, .ref dr, .ref pr, .ref da, .ref nw, .ref im, .int 0, .ref ac, .ref ke, .ref si, .ref tx, .ref an, .ref dw])), (tk, .inr (8, [.ref tk1, .ref tk2, .ref tk3, .ref tk4, .int 1, .int 0, .int 259, .int 0, .int (-1)]))] s.heap := hP
  have inX10 : ∀ w ∈ wsX100, w ∈ wsX10_textWasRead := by decide +kernel
  have inX8 : ∀ w ∈ wsX80, w ∈ wsX10_textWasRead := by decide +kernel
  have hl := lv_entry ([.ref h0, .int 0]) (n := 2) (Nat.le_of_ble_eq_true rfl)
  rw [lg_entry_eq]
  generalize (lg_sl ([.ref h0, .int 0]) ++ List.replicate (2 - (lg_sl ([.ref h0, .int 0])).length) Slot.unset).toArray = ls at hl ⊢
  have hl : lv_has ls 2 [(0, .ref h0), (1, .int 0)] := hl
  refine lv_aload_n hx hb dX10_textWasRead_0 rfl (lv_at hl 0 rfl) ?_
  refine lv_iconst (v := 0) hx hb dX10_textWasRead_1 (by decide) ?_
  refine va_put (D := G) (ci := 10) (v := .int 0) (ty := .int) (C := RX10) (T := TX10) (N := 18) hx hb hts inX10 tyX10 tyX10_ok nmX10 hown hK.1 hP hD hS 0 rfl rfl 1 (by decide) (hts (.fieldLink RX10 114 "NestQuery" "tapeCount" "I") (by decide +kernel)) (fun _ h9 => h9) rfl (by decide +kernel) rfl rfl (Nat.le_of_ble_eq_true rfl) dX10_textWasRead_2 (fun H locs hP hD hS => ?_)
  have hP : va_P G vwCl [(h0, .inr (10, [.ref tp, .int 0, .int (-1), .ref ps, .ref sp, .ref tk, .ref dr, .ref pr, .ref da, .ref nw, .ref im, .int 0, .ref ac, .ref ke, .ref si, .ref tx, .ref an, .ref dw])), (tk, .inr (8, [.ref tk1, .ref tk2, .ref tk3, .ref tk4, .int 1, .int 0, .int 259, .int 0, .int (-1)]))] H := hP
  have hD : va_D A [(h0, .inr (10, [.ref tp, .int 0, .int (-1), .ref ps, .ref sp, .ref tk, .ref dr, .ref pr, .ref da, .ref nw, .ref im, .int 0, .ref ac, .ref ke, .ref si, .ref tx, .ref an, .ref dw])), (tk, .inr (8, [.ref tk1, .ref tk2, .ref tk3, .ref tk4, .int 1, .int 0, .int 259, .int 0, .int (-1)]))] := hD
  refine lv_aload_n hx hb dX10_textWasRead_5 rfl (lv_at hl 0 rfl) ?_
  refine lv_aload_n hx hb dX10_textWasRead_6 rfl (lv_at hl 0 rfl) ?_
  refine va_get (D := G) (ci := 10) (v := .ref tk) (C := RX10) (T := TX10) (N := 18) hx hb hts inX10 hown hK.1 hP 0 rfl rfl 5 (by decide) (hts (.fieldLink RX10 31 "NestQuery" "tokens" "LNestQuery$Tokens;") (by decide +kernel)) (fun _ h9 => h9) rfl dX10_textWasRead_7 ?_
  refine va_getN (D := G) (ci := 8) (v := .int (-1)) (C := RX8) (T := TX8) (N := 9) hx hb hts inX8 hown hK.1 hP 1 rfl rfl 8 (by decide) (va_Nw.use rfl (hK.2.1.1 _ (List.mem_of_getElem? (i := 8) rfl))) (fun _ h9 => h9) rfl dX10_textWasRead_10 ?_
  refine va_put (D := G) (ci := 10) (v := .int (-1)) (ty := .int) (C := RX10) (T := TX10) (N := 18) hx hb hts inX10 tyX10 tyX10_ok nmX10 hown hK.1 hP hD hS 0 rfl rfl 2 (by decide) (hts (.fieldLink RX10 13 "NestQuery" "faultPlace" "I") (by decide +kernel)) (fun _ h9 => h9) rfl (by decide +kernel) rfl rfl (Nat.le_of_ble_eq_true rfl) dX10_textWasRead_13 (fun H locs hP hD hS => ?_)
  have hP : va_P G vwCl [(h0, .inr (10, [.ref tp, .int 0, .int (-1), .ref ps, .ref sp, .ref tk, .ref dr, .ref pr, .ref da, .ref nw, .ref im, .int 0, .ref ac, .ref ke, .ref si, .ref tx, .ref an, .ref dw])), (tk, .inr (8, [.ref tk1, .ref tk2, .ref tk3, .ref tk4, .int 1, .int 0, .int 259, .int 0, .int (-1)]))] H := hP
  have hD : va_D A [(h0, .inr (10, [.ref tp, .int 0, .int (-1), .ref ps, .ref sp, .ref tk, .ref dr, .ref pr, .ref da, .ref nw, .ref im, .int 0, .ref ac, .ref ke, .ref si, .ref tx, .ref an, .ref dw])), (tk, .inr (8, [.ref tk1, .ref tk2, .ref tk3, .ref tk4, .int 1, .int 0, .int 259, .int 0, .int (-1)]))] := hD
  refine lv_iload_n hx hb dX10_textWasRead_16 rfl (lv_at hl 1 rfl) ?_
  refine lv_if_eq (tgt := 28) hx hb dX10_textWasRead_17 (by decide) (fun _ => ?_) (fun c_1 => absurd c_1 (by decide))
  have hP9 := hP.sub (ws' := [(h0, .inr (10, [.ref tp, .int 0, .int (-1), .ref ps, .ref sp, .ref tk, .ref dr, .ref pr, .ref da, .ref nw, .ref im, .int 0, .ref ac, .ref ke, .ref si, .ref tx, .ref an, .ref dw]))]) [0] rfl
  have hD9 := hD.sub (ws' := [(h0, .inr (10, [.ref tp, .int 0, .int (-1), .ref ps, .ref sp, .ref tk, .ref dr, .ref pr, .ref da, .ref nw, .ref im, .int 0, .ref ac, .ref ke, .ref si, .ref tx, .ref an, .ref dw]))]) [0] (by decide) rfl
  refine W.widen (k := 0) (n := 0) (Nat.le_of_ble_eq_true rfl) (Nat.le_of_ble_eq_true rfl) ?_
  exact W.vret hx hb hr (fun t ht hW => ⟨⟨(), rfl, trivial, by rw [ht]; exact hP9, by first | exact hD9 | (rw [hAe]; exact hD9)⟩, hS.F ht⟩) hS.2.2 dX10_textWasRead_28

set_option maxHeartbeats 4000000 in
set_option maxRecDepth 100000 in
theorem c_Path_clear (l : Launch) (G : va_G) (y : Nat → ClassId) (sz : Nat) (sp : Nat) (sp1 : Nat) (sp2 : Nat) (sp3 : Nat) (sp4 : Nat) (sp5 : Nat) (sp6 : Nat) (sp7 : Nat) (sp8 : Nat) (sp9 : Nat) (sp10 : Nat)  : Met l yX4_clear wsX4_clear ({ frames := 0, cells := 0, slots := 0, locals := 0 }) (nq_P G y sz [.ref sp] [(sp, .inr (4, [.ref sp1, .ref sp2, .ref sp3, .int 0, .ref sp4, .int 0, .ref sp5, .ref sp6, .int 0, .ref sp7, .ref sp8, .ref sp9, .ref sp10, .int 0]))]) (va_Qv (fun (_ : Unit) => True) (fun (u : Unit) t9 => va_P G vwCl ([(sp, .inr (4, [.ref sp1, .ref sp2, .ref sp3, .int 0, .ref sp4, .int 0, .ref sp5, .ref sp6, .int 0, .ref sp7, .ref sp8, .ref sp9, .ref sp10, .int 0]))]) t9.heap ∧ va_D (va_A [(sp, .inr (4, [.ref sp1, .ref sp2, .ref sp3, .int 0, .ref sp4, .int 0, .ref sp5, .ref sp6, .int 0, .ref sp7, .ref sp8, .ref sp9, .ref sp10, .int 0]))] sz) ([(sp, .inr (4, [.ref sp1, .ref sp2, .ref sp3, .int 0, .ref sp4, .int 0, .ref sp5, .ref sp6, .int 0, .ref sp7, .ref sp8, .ref sp9, .ref sp10, .int 0]))])) (va_A [(sp, .inr (4, [.ref sp1, .ref sp2, .ref sp3, .int 0, .ref sp4, .int 0, .ref sp5, .ref sp6, .int 0, .ref sp7, .ref sp8, .ref sp9, .ref sp10, .int 0]))] sz)) 0 0 (va_A [(sp, .inr (4, [.ref sp1, .ref sp2, .ref sp3, .int 0, .ref sp4, .int 0, .ref sp5, .ref sp6, .int 0, .ref sp7, .ref sp8, .ref sp9, .ref sp10, .int 0]))] sz) := by
  refine Met.ofW (cc := cX4_clear) (maxL := 1) (ret := none) (by decide) rfl ?_
  intro p e s m args below meth c s₁ B hml hv
  obtain ⟨rfl, hsz, hP, hK, hD0⟩ := hv
  have hx := B.exec
  have hb := B.bytes
  have hr := B.returns
  have hts := atoms_spec (ws := wsX4_clear) B.pre
  have hown : s.vm.findClass RX4 = some m.cls := findClass_of_methodNamed B.named
  have hlocks := B.notSynchronized
  subst hsz
  have hD := hD0.self (sz := s.heap.size)
  generalize hAe : va_A [(sp, .inr (4, [.ref sp1, .ref sp2, .ref sp3, .int 0, .ref sp4, .int 0, .ref sp5, .ref sp6, .int 0, .ref sp7, .ref sp8, .ref sp9, .ref sp10, .int 0]))] s.heap.size = A at hD ⊢
  have hA : ∀ q : Nat, s.heap.size ≤ q → A q := fun q h => by rw [← hAe]; exact Or.inr h
  have hS : va_S A s.heap s.heap [] := va_S.rf
  have hP : va_P G vwCl [(sp, .inr (4, [.ref sp1, .ref sp2, .ref sp3, .int 0, .ref sp4, .int 0, .ref sp5, .ref sp6, .int 0, .ref sp7, .ref sp8, .ref sp9, .ref sp10, .int 0]))] s.heap := hP
  have inX4 : ∀ w ∈ wsX40, w ∈ wsX4_clear := by decide +kernel
  have hl := lv_entry ([.ref sp]) (n := 1) (Nat.le_of_ble_eq_true rfl)
  rw [lg_entry_eq]
  generalize (lg_sl ([.ref sp]) ++ List.replicate (1 - (lg_sl ([.ref sp])).length) Slot.unset).toArray = ls at hl ⊢
  have hl : lv_has ls 1 [(0, .ref sp)] := hl
  refine lv_aload_n hx hb dX4_clear_0 rfl (lv_at hl 0 rfl) ?_
  refine lv_iconst (v := 0) hx hb dX4_clear_1 (by decide) ?_
  refine va_put (D := G) (ci := 4) (v := .int 0) (ty := .int) (C := RX4) (T := TX4) (N := 14) hx hb hts inX4 tyX4 tyX4_ok nmX4 hown hK.1 hP hD hS 0 rfl rfl 3 (by decide) (hts (.fieldLink RX4 43 "NestQuery$Path" "stepCount" "I") (by decide +kernel)) (fun _ h9 => h9) rfl (by decide +kernel) rfl rfl (Nat.le_of_ble_eq_true rfl) dX4_clear_2 (fun H locs hP hD hS => ?_)
  have hP : va_P G vwCl [(sp, .inr (4, [.ref sp1, .ref sp2, .ref sp3, .int 0, .ref sp4, .int 0, .ref sp5, .ref sp6, .int 0, .ref sp7, .ref sp8, .ref sp9, .ref sp10, .int 0]))] H := hP
  have hD : va_D A [(sp, .inr (4, [.ref sp1, .ref sp2, .ref sp3, .int 0, .ref sp4, .int 0, .ref sp5, .ref sp6, .int 0, .ref sp7, .ref sp8, .ref sp9, .ref sp10, .int 0]))] := hD
  refine lv_aload_n hx hb dX4_clear_5 rfl (lv_at hl 0 rfl) ?_
  refine lv_iconst (v := 0) hx hb dX4_clear_6 (by decide) ?_
  refine va_put (D := G) (ci := 4) (v := .int 0) (ty := .int) (C := RX4) (T := TX4) (N := 14) hx hb hts inX4 tyX4 tyX4_ok nmX4 hown hK.1 hP hD hS 0 rfl rfl 5 (by decide) (hts (.fieldLink RX4 47 "NestQuery$Path" "codeCount" "I") (by decide +kernel)) (fun _ h9 => h9) rfl (by decide +kernel) rfl rfl (Nat.le_of_ble_eq_true rfl) dX4_clear_7 (fun H locs hP hD hS => ?_)
  have hP : va_P G vwCl [(sp, .inr (4, [.ref sp1, .ref sp2, .ref sp3, .int 0, .ref sp4, .int 0, .ref sp5, .ref sp6, .int 0, .ref sp7, .ref sp8, .ref sp9, .ref sp10, .int 0]))] H := hP
  have hD : va_D A [(sp, .inr (4, [.ref sp1, .ref sp2, .ref sp3, .int 0, .ref sp4, .int 0, .ref sp5, .ref sp6, .int 0, .ref sp7, .ref sp8, .ref sp9, .ref sp10, .int 0]))] := hD
  refine lv_aload_n hx hb dX4_clear_10 rfl (lv_at hl 0 rfl) ?_
  refine lv_iconst (v := 0) hx hb dX4_clear_11 (by decide) ?_
  refine va_put (D := G) (ci := 4) (v := .int 0) (ty := .int) (C := RX4) (T := TX4) (N := 14) hx hb hts inX4 tyX4 tyX4_ok nmX4 hown hK.1 hP hD hS 0 rfl rfl 8 (by decide) (hts (.fieldLink RX4 50 "NestQuery$Path" "littleCount" "I") (by decide +kernel)) (fun _ h9 => h9) rfl (by decide +kernel) rfl rfl (Nat.le_of_ble_eq_true rfl) dX4_clear_12 (fun H locs hP hD hS => ?_)
  have hP : va_P G vwCl [(sp, .inr (4, [.ref sp1, .ref sp2, .ref sp3, .int 0, .ref sp4, .int 0, .ref sp5, .ref sp6, .int 0, .ref sp7, .ref sp8, .ref sp9, .ref sp10, .int 0]))] H := hP
  have hD : va_D A [(sp, .inr (4, [.ref sp1, .ref sp2, .ref sp3, .int 0, .ref sp4, .int 0, .ref sp5, .ref sp6, .int 0, .ref sp7, .ref sp8, .ref sp9, .ref sp10, .int 0]))] := hD
  refine lv_aload_n hx hb dX4_clear_15 rfl (lv_at hl 0 rfl) ?_
  refine lv_iconst (v := 0) hx hb dX4_clear_16 (by decide) ?_
  refine va_put (D := G) (ci := 4) (v := .int 0) (ty := .int) (C := RX4) (T := TX4) (N := 14) hx hb hts inX4 tyX4 tyX4_ok nmX4 hown hK.1 hP hD hS 0 rfl rfl 13 (by decide) (hts (.fieldLink RX4 53 "NestQuery$Path" "testCount" "I") (by decide +kernel)) (fun _ h9 => h9) rfl (by decide +kernel) rfl rfl (Nat.le_of_ble_eq_true rfl) dX4_clear_17 (fun H locs hP hD hS => ?_)
  have hP : va_P G vwCl [(sp, .inr (4, [.ref sp1, .ref sp2, .ref sp3, .int 0, .ref sp4, .int 0, .ref sp5, .ref sp6, .int 0, .ref sp7, .ref sp8, .ref sp9, .ref sp10, .int 0]))] H := hP
  have hD : va_D A [(sp, .inr (4, [.ref sp1, .ref sp2, .ref sp3, .int 0, .ref sp4, .int 0, .ref sp5, .ref sp6, .int 0, .ref sp7, .ref sp8, .ref sp9, .ref sp10, .int 0]))] := hD
  have hP9 := hP.sub (ws' := [(sp, .inr (4, [.ref sp1, .ref sp2, .ref sp3, .int 0, .ref sp4, .int 0, .ref sp5, .ref sp6, .int 0, .ref sp7, .ref sp8, .ref sp9, .ref sp10, .int 0]))]) [0] rfl
  have hD9 := hD.sub (ws' := [(sp, .inr (4, [.ref sp1, .ref sp2, .ref sp3, .int 0, .ref sp4, .int 0, .ref sp5, .ref sp6, .int 0, .ref sp7, .ref sp8, .ref sp9, .ref sp10, .int 0]))]) [0] (by decide) rfl
  refine W.widen (k := 0) (n := 0) (Nat.le_of_ble_eq_true rfl) (Nat.le_of_ble_eq_true rfl) ?_
  exact W.vret hx hb hr (fun t ht hW => ⟨⟨(), rfl, trivial, by rw [ht]; exact hP9, by first | exact hD9 | (rw [hAe]; exact hD9)⟩, hS.F ht⟩) hS.2.2 dX4_clear_20

set_option maxHeartbeats 4000000 in
set_option maxRecDepth 100000 in
theorem c_PathReader_read (l : Launch) (G : va_G) (y : Nat → ClassId) (sz : Nat) (pr : Nat) (tk : Nat) (tk1 : Nat) (tk2 : Nat) (tk3 : Nat) (tk4 : Nat) (tp : Nat) (sp : Nat) (sp1 : Nat) (sp2 : Nat) (sp3 : Nat) (sp4 : Nat) (sp5 : Nat) (sp6 : Nat) (sp7 : Nat) (sp8 : Nat) (sp9 : Nat) (sp10 : Nat) (f : Nat → Int32)  : Met l yX5_read wsX5_read ({ frames := 2, cells := 0, slots := 0, locals := 67 }) (nq_P G y sz [.ref pr, .ref tp, .int 0, .ref sp] [(pr, .inr (5, [.ref tk])), (tk, .inr (8, [.ref tk1, .ref tk2, .ref tk3, .ref tk4, .int 0, .int 0, .int 0, .int 0, .int (-1)])), (tk1, .inl (y 0, 401, .inl (fun _ => 0))), (tk2, .inl (y 0, 401, .inl (fun _ => 0))), (tk3, .inl (y 0, 401, .inl (fun _ => 0))), (tk4, .inl (y 0, 401, .inl (fun _ => 0))), (tp, .inl (y 0, 400, .inl f)), (sp, .inr (4, [.ref sp1, .ref sp2, .ref sp3, .int 0, .ref sp4, .int 0, .ref sp5, .ref sp6, .int 0, .ref sp7, .ref sp8, .ref sp9, .ref sp10, .int 0]))]) (va_Qi (fun (r : Int32) (_ : Unit) => r = 0) (fun (u : Unit) t9 => va_P G vwCl ([(tk, .inr (8, [.ref tk1, .ref tk2, .ref tk3, .ref tk4, .int 1, .int 0, .int 259, .int 0, .int (-1)])), (sp, .inr (4, [.ref sp1, .ref sp2, .ref sp3, .int 0, .ref sp4, .int 0, .ref sp5, .ref sp6, .int 0, .ref sp7, .ref sp8, .ref sp9, .ref sp10, .int 0]))]) t9.heap ∧ va_D (va_A [(pr, .inr (5, [.ref tk])), (tk, .inr (8, [.ref tk1, .ref tk2, .ref tk3, .ref tk4, .int 0, .int 0, .int 0, .int 0, .int (-1)])), (tk1, .inl (y 0, 401, .inl (fun _ => 0))), (tk2, .inl (y 0, 401, .inl (fun _ => 0))), (tk3, .inl (y 0, 401, .inl (fun _ => 0))), (tk4, .inl (y 0, 401, .inl (fun _ => 0))), (tp, .inl (y 0, 400, .inl f)), (sp, .inr (4, [.ref sp1, .ref sp2, .ref sp3, .int 0, .ref sp4, .int 0, .ref sp5, .ref sp6, .int 0, .ref sp7, .ref sp8, .ref sp9, .ref sp10, .int 0]))] sz) ([(tk, .inr (8, [.ref tk1, .ref tk2, .ref tk3, .ref tk4, .int 1, .int 0, .int 259, .int 0, .int (-1)])), (sp, .inr (4, [.ref sp1, .ref sp2, .ref sp3, .int 0, .ref sp4, .int 0, .ref sp5, .ref sp6, .int 0, .ref sp7, .ref sp8, .ref sp9, .ref sp10, .int 0]))])) (va_A [(pr, .inr (5, [.ref tk])), (tk, .inr (8, [.ref tk1, .ref tk2, .ref tk3, .ref tk4, .int 0, .int 0, .int 0, .int 0, .int (-1)])), (tk1, .inl (y 0, 401, .inl (fun _ => 0))), (tk2, .inl (y 0, 401, .inl (fun _ => 0))), (tk3, .inl (y 0, 401, .inl (fun _ => 0))), (tk4, .inl (y 0, 401, .inl (fun _ => 0))), (tp, .inl (y 0, 400, .inl f)), (sp, .inr (4, [.ref sp1, .ref sp2, .ref sp3, .int 0, .ref sp4, .int 0, .ref sp5, .ref sp6, .int 0, .ref sp7, .ref sp8, .ref sp9, .ref sp10, .int 0]))] sz)) 0 0 (va_A [(pr, .inr (5, [.ref tk])), (tk, .inr (8, [.ref tk1, .ref tk2, .ref tk3, .ref tk4, .int 0, .int 0, .int 0, .int 0, .int (-1)])), (tk1, .inl (y 0, 401, .inl (fun _ => 0))), (tk2, .inl (y 0, 401, .inl (fun _ => 0))), (tk3, .inl (y 0, 401, .inl (fun _ => 0))), (tk4, .inl (y 0, 401, .inl (fun _ => 0))), (tp, .inl (y 0, 400, .inl f)), (sp, .inr (4, [.ref sp1, .ref sp2, .ref sp3, .int 0, .ref sp4, .int 0, .ref sp5, .ref sp6, .int 0, .ref sp7, .ref sp8, .ref sp9, .ref sp10, .int 0]))] sz) := by
  refine Met.ofW (cc := cX5_read) (maxL := 5) (ret := (some .int)) (by decide) rfl ?_
  intro p e s m args below meth c s₁ B hml hv
  obtain ⟨rfl, hsz, hP, hK, hD0⟩ := hv
  have hx := B.exec
  have hb := B.bytes
  have hr := B.returns
  have hts := atoms_spec (ws := wsX5_read) B.pre
  have hown : s.vm.findClass RX5 = some m.cls := findClass_of_methodNamed B.named
  have hlocks := B.notSynchronized
  subst hsz
  have hD := hD0.self (sz := s.heap.size)
  generalize hAe : va_A [(pr, .inr (5, [.ref tk])), (tk, .inr (8, [.ref tk1, .ref tk2, .ref tk3, .ref tk4, .int 0, .int 0, .int 0, .int 0, .int (-1)])), (tk1, .inl (y 0, 401, .inl (fun _ => 0))), (tk2, .inl (y 0, 401, .inl (fun _ => 0))), (tk3, .inl (y 0, 401, .inl (fun _ => 0))), (tk4, .inl (y 0, 401, .inl (fun _ => 0))), (tp, .inl (y 0, 400, .inl f)), (sp, .inr (4, [.ref sp1, .ref sp2, .ref sp3, .int 0, .ref sp4, .int 0, .ref sp5, .ref sp6, .int 0, .ref sp7, .ref sp8, .ref sp9, .ref sp10, .int 0]))] s.heap.size = A at hD ⊢
  have hA : ∀ q : Nat, s.heap.size ≤ q → A q := fun q h => by rw [← hAe]; exact Or.inr h
  have hS : va_S A s.heap s.heap [] := va_S.rf
  have hP : va_P G vwCl [(pr, .inr (5, [.ref tk])), (tk, .inr (8, [.ref tk1, .ref tk2, .ref tk3, .ref tk4, .int 0, .int 0, .int 0, .int 0, .int (-1)])), (tk1, .inl (y 0, 401, .inl (fun _ => 0))), (tk2, .inl (y 0, 401, .inl (fun _ => 0))), (tk3, .inl (y 0, 401, .inl (fun _ => 0))), (tk4, .inl (y 0, 401, .inl (fun _ => 0))), (tp, .inl (y 0, 400, .inl f)), (sp, .inr (4, [.ref sp1, .ref sp2, .ref sp3, .int 0, .ref sp4, .int 0, .ref sp5, .ref sp6, .int 0, .ref sp7, .ref sp8, .ref sp9, .ref sp10, .int 0]))] s.heap := hP
  have inX5 : ∀ w ∈ wsX50, w ∈ wsX5_read := by decide +kernel
  have inX8 : ∀ w ∈ wsX80, w ∈ wsX5_read := by decide +kernel
  have hl := lv_entry ([.ref pr, .ref tp, .int 0, .ref sp]) (n := 5) (Nat.le_of_ble_eq_true rfl)
  rw [lg_entry_eq]
  generalize (lg_sl ([.ref pr, .ref tp, .int 0, .ref sp]) ++ List.replicate (5 - (lg_sl ([.ref pr, .ref tp, .int 0, .ref sp])).length) Slot.unset).toArray = ls at hl ⊢
  have hl : lv_has ls 5 [(0, .ref pr), (1, .ref tp), (2, .int 0), (3, .ref sp)] := hl
  refine lv_aload_n hx hb dX5_read_0 rfl (lv_at hl 0 rfl) ?_
  refine va_get (D := G) (ci := 5) (v := .ref tk) (C := RX5) (T := TX5) (N := 1) hx hb hts inX5 hown hK.1 hP 0 rfl rfl 0 (by decide) (hts (.fieldLink RX5 9 "NestQuery$PathReader" "tokens" "LNestQuery$Tokens;") (by decide +kernel)) (fun _ h9 => h9) rfl dX5_read_1 ?_
  refine lv_aload_n hx hb dX5_read_4 rfl (lv_at hl 1 rfl) ?_
  refine lv_iload_n hx hb dX5_read_5 rfl (lv_at hl 2 rfl) ?_
  refine nq_wrv (wr := [(pr, .inr (5, [.ref tk])), (sp, .inr (4, [.ref sp1, .ref sp2, .ref sp3, .int 0, .ref sp4, .int 0, .ref sp5, .ref sp6, .int 0, .ref sp7, .ref sp8, .ref sp9, .ref sp10, .int 0]))]) (va_runV (As := [.ref tp, .int 0]) (rest := []) ⟨hx, hb, hml, hown, hts⟩ (c_begin l G y s.heap.size tk tk1 tk2 tk3 tk4 tp f ) (cwV 2 hts gX5_read_X8_begin rfl rfl rfl (by decide +kernel) ⟨Nat.le_of_ble_eq_true rfl, Nat.le_of_ble_eq_true rfl⟩) (nq_PV hK hP hD [1, 2, 3, 4, 5, 6] rfl rfl 1 rfl rfl) rfl rfl hl.1 rfl (lv_room (Nat.le_of_ble_eq_true rfl)) dX5_read_6 ⟨Nat.le_of_ble_eq_true rfl, Nat.le_of_ble_eq_true rfl⟩) hP hD hS hA [1, 2, 3, 4, 5, 6] [0, 7] rfl rfl (by decide) (by decide) (fun u_1 H locs hw_2 hP hD hS => ?_)
  have hP : va_P G vwCl [(pr, .inr (5, [.ref tk])), (sp, .inr (4, [.ref sp1, .ref sp2, .ref sp3, .int 0, .ref sp4, .int 0, .ref sp5, .ref sp6, .int 0, .ref sp7, .ref sp8, .ref sp9, .ref sp10, .int 0])), (tk, .inr (8, [.ref tk1, .ref tk2, .ref tk3, .ref tk4, .int 1, .int 0, .int 259, .int 0, .int (-1)])), (tk2, .inl (y 0, 401, .inl (upd (fun _ => 0) 0 0)))] H := hP
  have hD : va_D A [(pr, .inr (5, [.ref tk])), (sp, .inr (4, [.ref sp1, .ref sp2, .ref sp3, .int 0, .ref sp4, .int 0, .ref sp5, .ref sp6, .int 0, .ref sp7, .ref sp8, .ref sp9, .ref sp10, .int 0])), (tk, .inr (8, [.ref tk1, .ref tk2, .ref tk3, .ref tk4, .int 1, .int 0, .int 259, .int 0, .int (-1)])), (tk2, .inl (y 0, 401, .inl (upd (fun _ => 0) 0 0)))] := hD
  refine lv_aload_n hx hb dX5_read_9 rfl (lv_at hl 3 rfl) ?_
  refine nq_wrv (wr := [(pr, .inr (5, [.ref tk])), (tk, .inr (8, [.ref tk1, .ref tk2, .ref tk3, .ref tk4, .int 1, .int 0, .int 259, .int 0, .int (-1)])), (tk2, .inl (y 0, 401, .inl (upd (fun _ => 0) 0 0)))]) (va_runV (As := []) (rest := []) ⟨hx, hb, hml, hown, hts⟩ (c_Path_clear l G y H.size sp sp1 sp2 sp3 sp4 sp5 sp6 sp7 sp8 sp9 sp10 ) (cwV 0 hts gX5_read_X4_clear rfl rfl rfl (by decide +kernel) ⟨Nat.le_of_ble_eq_true rfl, Nat.le_of_ble_eq_true rfl⟩) (nq_PV hK hP hD [1] rfl rfl 1 rfl rfl) rfl rfl hl.1 rfl (lv_room (Nat.le_of_ble_eq_true rfl)) dX5_read_10 ⟨Nat.le_of_ble_eq_true rfl, Nat.le_of_ble_eq_true rfl⟩) hP hD hS hA [1] [0, 2, 3] rfl rfl (by decide) (by decide) (fun u_4 H locs hw_5 hP hD hS => ?_)
  have hP : va_P G vwCl [(pr, .inr (5, [.ref tk])), (tk, .inr (8, [.ref tk1, .ref tk2, .ref tk3, .ref tk4, .int 1, .int 0, .int 259, .int 0, .int (-1)])), (tk2, .inl (y 0, 401, .inl (upd (fun _ => 0) 0 0))), (sp, .inr (4, [.ref sp1, .ref sp2, .ref sp3, .int 0, .ref sp4, .int 0, .ref sp5, .ref sp6, .int 0, .ref sp7, .ref sp8, .ref sp9, .ref sp10, .int 0]))] H := hP
  have hD : va_D A [(pr, .inr (5, [.ref tk])), (tk, .inr (8, [.ref tk1, .ref tk2, .ref tk3, .ref tk4, .int 1, .int 0, .int 259, .int 0, .int (-1)])), (tk2, .inl (y 0, 401, .inl (upd (fun _ => 0) 0 0))), (sp, .inr (4, [.ref sp1, .ref sp2, .ref sp3, .int 0, .ref sp4, .int 0, .ref sp5, .ref sp6, .int 0, .ref sp7, .ref sp8, .ref sp9, .ref sp10, .int 0]))] := hD
  refine lv_iconst (v := 0) hx hb dX5_read_13 (by decide) ?_
  refine lv_istore (lv' := [(4, .int 0), (0, .ref pr), (1, .ref tp), (2, .int 0), (3, .ref sp)]) hx hb dX5_read_14 hl (by decide) rfl (fun ls hl => ?_)
  refine lv_aload_n hx hb dX5_read_16 rfl (lv_at hl 1 rfl) ?_
  refine va_get (D := G) (ci := 5) (v := .ref tk) (C := RX5) (T := TX5) (N := 1) hx hb hts inX5 hown hK.1 hP 0 rfl rfl 0 (by decide) (hts (.fieldLink RX5 9 "NestQuery$PathReader" "tokens" "LNestQuery$Tokens;") (by decide +kernel)) (fun _ h9 => h9) rfl dX5_read_17 ?_
  refine va_getN (D := G) (ci := 8) (v := .int 0) (C := RX8) (T := TX8) (N := 9) hx hb hts inX8 hown hK.1 hP 1 rfl rfl 7 (by decide) (va_Nw.use rfl (hK.2.1.1 _ (List.mem_of_getElem? (i := 6) rfl))) (fun _ h9 => h9) rfl dX5_read_20 ?_
  refine lv_if_ne (tgt := 58) hx hb dX5_read_23 (by decide) (fun c_7 => absurd c_7 (by decide)) (fun _ => ?_)
  refine lv_aload_n hx hb dX5_read_26 rfl (lv_at hl 1 rfl) ?_
  refine va_get (D := G) (ci := 5) (v := .ref tk) (C := RX5) (T := TX5) (N := 1) hx hb hts inX5 hown hK.1 hP 0 rfl rfl 0 (by decide) (hts (.fieldLink RX5 9 "NestQuery$PathReader" "tokens" "LNestQuery$Tokens;") (by decide +kernel)) (fun _ h9 => h9) rfl dX5_read_27 ?_
  refine va_getN (D := G) (ci := 8) (v := .int 259) (C := RX8) (T := TX8) (N := 9) hx hb hts inX8 hown hK.1 hP 1 rfl rfl 6 (by decide) (va_Nw.use rfl (hK.2.1.1 _ (List.mem_of_getElem? (i := 5) rfl))) (fun _ h9 => h9) rfl dX5_read_30 ?_
  refine lv_sipush (v := 259) hx hb dX5_read_33 (by decide) ?_
  refine lv_icmp_eq (tgt := 58) hx hb dX5_read_36 (by decide) (fun _ => ?_) (fun c_8 => absurd c_8 (by decide))
  refine lv_aload_n hx hb dX5_read_58 rfl (lv_at hl 1 rfl) ?_
  refine va_get (D := G) (ci := 5) (v := .ref tk) (C := RX5) (T := TX5) (N := 1) hx hb hts inX5 hown hK.1 hP 0 rfl rfl 0 (by decide) (hts (.fieldLink RX5 9 "NestQuery$PathReader" "tokens" "LNestQuery$Tokens;") (by decide +kernel)) (fun _ h9 => h9) rfl dX5_read_59 ?_
  refine va_getN (D := G) (ci := 8) (v := .int 0) (C := RX8) (T := TX8) (N := 9) hx hb hts inX8 hown hK.1 hP 1 rfl rfl 7 (by decide) (va_Nw.use rfl (hK.2.1.1 _ (List.mem_of_getElem? (i := 6) rfl))) (fun _ h9 => h9) rfl dX5_read_62 ?_
  have hP9 := hP.sub (ws' := [(tk, .inr (8, [.ref tk1, .ref tk2, .ref tk3, .ref tk4, .int 1, .int 0, .int 259, .int 0, .int (-1)])), (sp, .inr (4, [.ref sp1, .ref sp2, .ref sp3, .int 0, .ref sp4, .int 0, .ref sp5, .ref sp6, .int 0, .ref sp7, .ref sp8, .ref sp9, .ref sp10, .int 0]))]) [1, 3] rfl
  have hD9 := hD.sub (ws' := [(tk, .inr (8, [.ref tk1, .ref tk2, .ref tk3, .ref tk4, .int 1, .int 0, .int 259, .int 0, .int (-1)])), (sp, .inr (4, [.ref sp1, .ref sp2, .ref sp3, .int 0, .ref sp4, .int 0, .ref sp5, .ref sp6, .int 0, .ref sp7, .ref sp8, .ref sp9, .ref sp10, .int 0]))]) [1, 3] (by decide) rfl
  refine W.widen (k := 0) (n := 0) (Nat.le_of_ble_eq_true rfl) (Nat.le_of_ble_eq_true rfl) ?_
  exact W.iret (v := 0) hx hb hr (fun t ht hW => ⟨⟨0, (), rfl, rfl, by rw [ht]; exact hP9, by first | exact hD9 | (rw [hAe]; exact hD9)⟩, hS.F ht⟩) hS.2.2 dX5_read_65

set_option maxHeartbeats 4000000 in
set_option maxRecDepth 100000 in
theorem c_refusedUnread (l : Launch) (G : va_G) (y : Nat → ClassId) (sz : Nat) (h0 : Nat) (tp : Nat) (ps : Nat) (sp : Nat) (tk : Nat) (dr : Nat) (pr : Nat) (da : Nat) (nw : Nat) (im : Nat) (ac : Nat) (ke : Nat) (si : Nat) (tx : Nat) (an : Nat) (dw : Nat) (nwt : Nat) (nwb : Nat) (nwn : Nat) (nwi : Nat) (nwr : Nat)  : Met l yX10_refusedUnread wsX10_refusedUnread ({ frames := 1, cells := 0, slots := 0, locals := 21 }) (nq_P G y sz [.ref h0] [(h0, .inr (10, [.ref tp, .int 0, .int (-1), .ref ps, .ref sp, .ref tk, .ref dr, .ref pr, .ref da, .ref nw, .ref im, .int 0, .ref ac, .ref ke, .ref si, .ref tx, .ref an, .ref dw])), (nw, .inr (6, [.ref nwt, .ref nwb, .int 0, .ref nwn, .ref nwi, .int 0, .ref nwr])), (nwr, .inl (y 0, 3, .inl (fun _ => 0)))]) (va_Qi (fun (r : Int32) (_ : Unit) => r = (-1)) (fun (u : Unit) t9 => va_P G vwCl ([]) t9.heap ∧ va_D (va_A [(h0, .inr (10, [.ref tp, .int 0, .int (-1), .ref ps, .ref sp, .ref tk, .ref dr, .ref pr, .ref da, .ref nw, .ref im, .int 0, .ref ac, .ref ke, .ref si, .ref tx, .ref an, .ref dw])), (nw, .inr (6, [.ref nwt, .ref nwb, .int 0, .ref nwn, .ref nwi, .int 0, .ref nwr])), (nwr, .inl (y 0, 3, .inl (fun _ => 0)))] sz) ([])) (va_A [(h0, .inr (10, [.ref tp, .int 0, .int (-1), .ref ps, .ref sp, .ref tk, .ref dr, .ref pr, .ref da, .ref nw, .ref im, .int 0, .ref ac, .ref ke, .ref si, .ref tx, .ref an, .ref dw])), (nw, .inr (6, [.ref nwt, .ref nwb, .int 0, .ref nwn, .ref nwi, .int 0, .ref nwr])), (nwr, .inl (y 0, 3, .inl (fun _ => 0)))] sz)) 0 0 (va_A [(h0, .inr (10, [.ref tp, .int 0, .int (-1), .ref ps, .ref sp, .ref tk, .ref dr, .ref pr, .ref da, .ref nw, .ref im, .int 0, .ref ac, .ref ke, .ref si, .ref tx, .ref an, .ref dw])), (nw, .inr (6, [.ref nwt, .ref nwb, .int 0, .ref nwn, .ref nwi, .int 0, .ref nwr])), (nwr, .inl (y 0, 3, .inl (fun _ => 0)))] sz) := by
  refine Met.ofW (cc := cX10_refusedUnread) (maxL := 1) (ret := (some .int)) (by decide) rfl ?_
  intro p e s m args below meth c s₁ B hml hv
  obtain ⟨rfl, hsz, hP, hK, hD0⟩ := hv
  have hx := B.exec
  have hb := B.bytes
  have hr := B.returns
  have hts := atoms_spec (ws := wsX10_refusedUnread) B.pre
  have hown : s.vm.findClass RX10 = some m.cls := findClass_of_methodNamed B.named
  have hlocks := B.notSynchronized
  subst hsz
  have hD := hD0.self (sz := s.heap.size)
  generalize hAe : va_A [(h0, .inr (10, [.ref tp, .int 0, .int (-1), .ref ps, .ref sp, .ref tk, .ref dr, .ref pr, .ref da, .ref nw, .ref im, .int 0, .ref ac, .ref ke, .ref si, .ref tx, .ref an, .ref dw])), (nw, .inr (6, [.ref nwt, .ref nwb, .int 0, .ref nwn, .ref nwi, .int 0, .ref nwr])), (nwr, .inl (y 0, 3, .inl (fun _ => 0)))] s.heap.size = A at hD ⊢
  have hA : ∀ q : Nat, s.heap.size ≤ q → A q := fun q h => by rw [← hAe]; exact Or.inr h
  have hS : va_S A s.heap s.heap [] := va_S.rf
  have hP : va_P G vwCl [(h0, .inr (10, [.ref tp, .int 0, .int (-1), .ref ps, .ref sp, .ref tk, .ref dr, .ref pr, .ref da, .ref nw, .ref im, .int 0, .ref ac, .ref ke, .ref si, .ref tx, .ref an, .ref dw])), (nw, .inr (6, [.ref nwt, .ref nwb, .int 0, .ref nwn, .ref nwi, .int 0, .ref nwr])), (nwr, .inl (y 0, 3, .inl (fun _ => 0)))] s.heap := hP
  have inX10 : ∀ w ∈ wsX100, w ∈ wsX10_refusedUnread := by decide +kernel
  have hl := lv_entry ([.ref h0]) (n := 1) (Nat.le_of_ble_eq_true rfl)
  rw [lg_entry_eq]
  generalize (lg_sl ([.ref h0]) ++ List.replicate (1 - (lg_sl ([.ref h0])).length) Slot.unset).toArray = ls at hl ⊢
  have hl : lv_has ls 1 [(0, .ref h0)] := hl
  refine lv_aload_n hx hb dX10_refusedUnread_0 rfl (lv_at hl 0 rfl) ?_
  refine lv_iconst (v := 0) hx hb dX10_refusedUnread_1 (by decide) ?_
  refine va_put (D := G) (ci := 10) (v := .int 0) (ty := .int) (C := RX10) (T := TX10) (N := 18) hx hb hts inX10 tyX10 tyX10_ok nmX10 hown hK.1 hP hD hS 0 rfl rfl 1 (by decide) (hts (.fieldLink RX10 114 "NestQuery" "tapeCount" "I") (by decide +kernel)) (fun _ h9 => h9) rfl (by decide +kernel) rfl rfl (Nat.le_of_ble_eq_true rfl) dX10_refusedUnread_2 (fun H locs hP hD hS => ?_)
  have hP : va_P G vwCl [(h0, .inr (10, [.ref tp, .int 0, .int (-1), .ref ps, .ref sp, .ref tk, .ref dr, .ref pr, .ref da, .ref nw, .ref im, .int 0, .ref ac, .ref ke, .ref si, .ref tx, .ref an, .ref dw])), (nw, .inr (6, [.ref nwt, .ref nwb, .int 0, .ref nwn, .ref nwi, .int 0, .ref nwr])), (nwr, .inl (y 0, 3, .inl (fun _ => 0)))] H := hP
  have hD : va_D A [(h0, .inr (10, [.ref tp, .int 0, .int (-1), .ref ps, .ref sp, .ref tk, .ref dr, .ref pr, .ref da, .ref nw, .ref im, .int 0, .ref ac, .ref ke, .ref si, .ref tx, .ref an, .ref dw])), (nw, .inr (6, [.ref nwt, .ref nwb, .int 0, .ref nwn, .ref nwi, .int 0, .ref nwr])), (nwr, .inl (y 0, 3, .inl (fun _ => 0)))] := hD
  refine lv_aload_n hx hb dX10_refusedUnread_5 rfl (lv_at hl 0 rfl) ?_
  refine va_get (D := G) (ci := 10) (v := .ref nw) (C := RX10) (T := TX10) (N := 18) hx hb hts inX10 hown hK.1 hP 0 rfl rfl 9 (by decide) (hts (.fieldLink RX10 63 "NestQuery" "now" "LNestQuery$State;") (by decide +kernel)) (fun _ h9 => h9) rfl dX10_refusedUnread_6 ?_
  refine lv_iconst (v := 1) hx hb dX10_refusedUnread_9 (by decide) ?_
  refine nq_wrv (wr := [(h0, .inr (10, [.ref tp, .int 0, .int (-1), .ref ps, .ref sp, .ref tk, .ref dr, .ref pr, .ref da, .ref nw, .ref im, .int 0, .ref ac, .ref ke, .ref si, .ref tx, .ref an, .ref dw]))]) (va_runV (As := [.int 1]) (rest := []) ⟨hx, hb, hml, hown, hts⟩ (c_refuse1 l G y H.size nw nwt nwb nwn nwi nwr ) (cwV 1 hts gX10_refusedUnread_X6_refuse rfl rfl rfl (by decide +kernel) ⟨Nat.le_of_ble_eq_true rfl, Nat.le_of_ble_eq_true rfl⟩) (nq_PV hK hP hD [1, 2] rfl rfl 1 rfl rfl) rfl rfl hl.1 rfl (lv_room (Nat.le_of_ble_eq_true rfl)) dX10_refusedUnread_10 ⟨Nat.le_of_ble_eq_true rfl, Nat.le_of_ble_eq_true rfl⟩) hP hD hS hA [1, 2] [0] rfl rfl (by decide) (by decide) (fun u_1 H locs hw_2 hP hD hS => ?_)
  have hP : va_P G vwCl [(h0, .inr (10, [.ref tp, .int 0, .int (-1), .ref ps, .ref sp, .ref tk, .ref dr, .ref pr, .ref da, .ref nw, .ref im, .int 0, .ref ac, .ref ke, .ref si, .ref tx, .ref an, .ref dw]))] H := hP
  have hD : va_D A [(h0, .inr (10, [.ref tp, .int 0, .int (-1), .ref ps, .ref sp, .ref tk, .ref dr, .ref pr, .ref da, .ref nw, .ref im, .int 0, .ref ac, .ref ke, .ref si, .ref tx, .ref an, .ref dw]))] := hD
  refine lv_iconst (v := (-1)) hx hb dX10_refusedUnread_13 (by decide) ?_
  have hP9 := hP.sub (ws' := []) [] rfl
  have hD9 := hD.sub (ws' := []) [] (by decide) rfl
  refine W.widen (k := 0) (n := 0) (Nat.le_of_ble_eq_true rfl) (Nat.le_of_ble_eq_true rfl) ?_
  exact W.iret (v := (-1)) hx hb hr (fun t ht hW => ⟨⟨(-1), (), rfl, rfl, by rw [ht]; exact hP9, by first | exact hD9 | (rw [hAe]; exact hD9)⟩, hS.F ht⟩) hS.2.2 dX10_refusedUnread_14

set_option maxHeartbeats 4000000 in
set_option maxRecDepth 100000 in
theorem c_Text_clear (l : Launch) (G : va_G) (y : Nat → ClassId) (sz : Nat) (tx : Nat) (txb : Nat)  : Met l yX7_clear wsX7_clear ({ frames := 0, cells := 0, slots := 0, locals := 0 }) (nq_P G y sz [.ref tx] [(tx, .inr (7, [.ref txb, .int 0]))]) (va_Qv (fun (_ : Unit) => True) (fun (u : Unit) t9 => va_P G vwCl ([(tx, .inr (7, [.ref txb, .int 0]))]) t9.heap ∧ va_D (va_A [(tx, .inr (7, [.ref txb, .int 0]))] sz) ([(tx, .inr (7, [.ref txb, .int 0]))])) (va_A [(tx, .inr (7, [.ref txb, .int 0]))] sz)) 0 0 (va_A [(tx, .inr (7, [.ref txb, .int 0]))] sz) := by
  refine Met.ofW (cc := cX7_clear) (maxL := 1) (ret := none) (by decide) rfl ?_
  intro p e s m args below meth c s₁ B hml hv
  obtain ⟨rfl, hsz, hP, hK, hD0⟩ := hv
  have hx := B.exec
  have hb := B.bytes
  have hr := B.returns
  have hts := atoms_spec (ws := wsX7_clear) B.pre
  have hown : s.vm.findClass RX7 = some m.cls := findClass_of_methodNamed B.named
  have hlocks := B.notSynchronized
  subst hsz
  have hD := hD0.self (sz := s.heap.size)
  generalize hAe : va_A [(tx, .inr (7, [.ref txb, .int 0]))] s.heap.size = A at hD ⊢
  have hA : ∀ q : Nat, s.heap.size ≤ q → A q := fun q h => by rw [← hAe]; exact Or.inr h
  have hS : va_S A s.heap s.heap [] := va_S.rf
  have hP : va_P G vwCl [(tx, .inr (7, [.ref txb, .int 0]))] s.heap := hP
  have inX7 : ∀ w ∈ wsX70, w ∈ wsX7_clear := by decide +kernel
  have hl := lv_entry ([.ref tx]) (n := 1) (Nat.le_of_ble_eq_true rfl)
  rw [lg_entry_eq]
  generalize (lg_sl ([.ref tx]) ++ List.replicate (1 - (lg_sl ([.ref tx])).length) Slot.unset).toArray = ls at hl ⊢
  have hl : lv_has ls 1 [(0, .ref tx)] := hl
  refine lv_aload_n hx hb dX7_clear_0 rfl (lv_at hl 0 rfl) ?_
  refine lv_iconst (v := 0) hx hb dX7_clear_1 (by decide) ?_
  refine va_put (D := G) (ci := 7) (v := .int 0) (ty := .int) (C := RX7) (T := TX7) (N := 2) hx hb hts inX7 tyX7 tyX7_ok nmX7 hown hK.1 hP hD hS 0 rfl rfl 1 (by decide) (hts (.fieldLink RX7 15 "NestQuery$TextOut" "length" "I") (by decide +kernel)) (fun _ h9 => h9) rfl (by decide +kernel) rfl rfl (Nat.le_of_ble_eq_true rfl) dX7_clear_2 (fun H locs hP hD hS => ?_)
  have hP : va_P G vwCl [(tx, .inr (7, [.ref txb, .int 0]))] H := hP
  have hD : va_D A [(tx, .inr (7, [.ref txb, .int 0]))] := hD
  have hP9 := hP.sub (ws' := [(tx, .inr (7, [.ref txb, .int 0]))]) [0] rfl
  have hD9 := hD.sub (ws' := [(tx, .inr (7, [.ref txb, .int 0]))]) [0] (by decide) rfl
  refine W.widen (k := 0) (n := 0) (Nat.le_of_ble_eq_true rfl) (Nat.le_of_ble_eq_true rfl) ?_
  exact W.vret hx hb hr (fun t ht hW => ⟨⟨(), rfl, trivial, by rw [ht]; exact hP9, by first | exact hD9 | (rw [hAe]; exact hD9)⟩, hS.F ht⟩) hS.2.2 dX7_clear_5

set_option maxHeartbeats 4000000 in
set_option maxRecDepth 100000 in
theorem c_write0 (l : Launch) (G : va_G) (y : Nat → ClassId) (sz : Nat) (tx : Nat) (txb : Nat)  : Met l yX7_write wsX7_write ({ frames := 0, cells := 0, slots := 0, locals := 0 }) (nq_P G y sz [.ref tx, .int 123] [(tx, .inr (7, [.ref txb, .int 0])), (txb, .inl (y 0, 1024, .inl (fun _ => 0)))]) (va_Qv (fun (_ : Unit) => True) (fun (u : Unit) t9 => va_P G vwCl ([(tx, .inr (7, [.ref txb, .int 1])), (txb, .inl (y 0, 1024, .inl (upd (fun _ => 0) 0 123)))]) t9.heap ∧ va_D (va_A [(tx, .inr (7, [.ref txb, .int 0])), (txb, .inl (y 0, 1024, .inl (fun _ => 0)))] sz) ([(tx, .inr (7, [.ref txb, .int 1])), (txb, .inl (y 0, 1024, .inl (upd (fun _ => 0) 0 123)))])) (va_A [(tx, .inr (7, [.ref txb, .int 0])), (txb, .inl (y 0, 1024, .inl (fun _ => 0)))] sz)) 0 0 (va_A [(tx, .inr (7, [.ref txb, .int 0])), (txb, .inl (y 0, 1024, .inl (fun _ => 0)))] sz) := by
  refine Met.ofW (cc := cX7_write) (maxL := 2) (ret := none) (by decide) rfl ?_
  intro p e s m args below meth c s₁ B hml hv
  obtain ⟨rfl, hsz, hP, hK, hD0⟩ := hv
  have hx := B.exec
  have hb := B.bytes
  have hr := B.returns
  have hts := atoms_spec (ws := wsX7_write) B.pre
  have hown : s.vm.findClass RX7 = some m.cls := findClass_of_methodNamed B.named
  have hlocks := B.notSynchronized
  subst hsz
  have hD := hD0.self (sz := s.heap.size)
  generalize hAe : va_A [(tx, .inr (7, [.ref txb, .int 0])), (txb, .inl (y 0, 1024, .inl (fun _ => 0)))] s.heap.size = A at hD ⊢
  have hA : ∀ q : Nat, s.heap.size ≤ q → A q := fun q h => by rw [← hAe]; exact Or.inr h
  have hS : va_S A s.heap s.heap [] := va_S.rf
  have hP : va_P G vwCl [(tx, .inr (7, [.ref txb, .int 0])), (txb, .inl (y 0, 1024, .inl (fun _ => 0)))] s.heap := hP
  have inX7 : ∀ w ∈ wsX70, w ∈ wsX7_write := by decide +kernel
  have hl := lv_entry ([.ref tx, .int 123]) (n := 2) (Nat.le_of_ble_eq_true rfl)
  rw [lg_entry_eq]
  generalize (lg_sl ([.ref tx, .int 123]) ++ List.replicate (2 - (lg_sl ([.ref tx, .int 123])).length) Slot.unset).toArray = ls at hl ⊢
  have hl : lv_has ls 2 [(0, .ref tx), (1, .int 123)] := hl
  refine lv_aload_n hx hb dX7_write_0 rfl (lv_at hl 0 rfl) ?_
  refine va_get (D := G) (ci := 7) (v := .int 0) (C := RX7) (T := TX7) (N := 2) hx hb hts inX7 hown hK.1 hP 0 rfl rfl 1 (by decide) (hts (.fieldLink RX7 15 "NestQuery$TextOut" "length" "I") (by decide +kernel)) (fun _ h9 => h9) rfl dX7_write_1 ?_
  refine lv_if_lt (tgt := 37) hx hb dX7_write_4 (by decide) (fun c_1 => absurd c_1 (by decide)) (fun _ => ?_)
  refine lv_aload_n hx hb dX7_write_7 rfl (lv_at hl 0 rfl) ?_
  refine va_get (D := G) (ci := 7) (v := .int 0) (C := RX7) (T := TX7) (N := 2) hx hb hts inX7 hown hK.1 hP 0 rfl rfl 1 (by decide) (hts (.fieldLink RX7 15 "NestQuery$TextOut" "length" "I") (by decide +kernel)) (fun _ h9 => h9) rfl dX7_write_8 ?_
  refine lv_sipush (v := 1024) hx hb dX7_write_11 (by decide) ?_
  refine lv_icmp_ge (tgt := 37) hx hb dX7_write_14 (by decide) (fun c_2 => absurd c_2 (by decide)) (fun _ => ?_)
  refine lv_aload_n hx hb dX7_write_17 rfl (lv_at hl 0 rfl) ?_
  refine va_get (D := G) (ci := 7) (v := .ref txb) (C := RX7) (T := TX7) (N := 2) hx hb hts inX7 hown hK.1 hP 0 rfl rfl 0 (by decide) (hts (.fieldLink RX7 11 "NestQuery$TextOut" "bytes" "[I") (by decide +kernel)) (fun _ h9 => h9) rfl dX7_write_18 ?_
  refine lv_aload_n hx hb dX7_write_21 rfl (lv_at hl 0 rfl) ?_
  refine va_get (D := G) (ci := 7) (v := .int 0) (C := RX7) (T := TX7) (N := 2) hx hb hts inX7 hown hK.1 hP 0 rfl rfl 1 (by decide) (hts (.fieldLink RX7 15 "NestQuery$TextOut" "length" "I") (by decide +kernel)) (fun _ h9 => h9) rfl dX7_write_22 ?_
  refine lv_iload_n hx hb dX7_write_25 rfl (lv_at hl 1 rfl) ?_
  refine va_iast hx hb hK.1 hP hD hS 1 0 rfl rfl (i := 0) (nq_in (by decide)) dX7_write_26 (fun H locs hP hD hS => ?_)
  have hP : va_P G vwCl [(tx, .inr (7, [.ref txb, .int 0])), (txb, .inl (y 0, 1024, .inl (upd (fun _ => 0) 0 123)))] H := hP
  have hD : va_D A [(tx, .inr (7, [.ref txb, .int 0])), (txb, .inl (y 0, 1024, .inl (upd (fun _ => 0) 0 123)))] := hD
  refine lv_aload_n hx hb dX7_write_27 rfl (lv_at hl 0 rfl) ?_
  refine lv_dup hx hb dX7_write_28 rfl ?_
  refine va_get (D := G) (ci := 7) (v := .int 0) (C := RX7) (T := TX7) (N := 2) hx hb hts inX7 hown hK.1 hP 0 rfl rfl 1 (by decide) (hts (.fieldLink RX7 15 "NestQuery$TextOut" "length" "I") (by decide +kernel)) (fun _ h9 => h9) rfl dX7_write_29 ?_
  refine lv_iconst (v := 1) hx hb dX7_write_32 (by decide) ?_
  refine lv_iadd hx hb dX7_write_33 ?_
  refine nq_top (z := 1) (by decide) ?_
  refine va_put (D := G) (ci := 7) (v := .int 1) (ty := .int) (C := RX7) (T := TX7) (N := 2) hx hb hts inX7 tyX7 tyX7_ok nmX7 hown hK.1 hP hD hS 0 rfl rfl 1 (by decide) (hts (.fieldLink RX7 15 "NestQuery$TextOut" "length" "I") (by decide +kernel)) (fun _ h9 => h9) rfl (by decide +kernel) rfl rfl (Nat.le_of_ble_eq_true rfl) dX7_write_34 (fun H locs hP hD hS => ?_)
  have hP : va_P G vwCl [(tx, .inr (7, [.ref txb, .int 1])), (txb, .inl (y 0, 1024, .inl (upd (fun _ => 0) 0 123)))] H := hP
  have hD : va_D A [(tx, .inr (7, [.ref txb, .int 1])), (txb, .inl (y 0, 1024, .inl (upd (fun _ => 0) 0 123)))] := hD
  have hP9 := hP.sub (ws' := [(tx, .inr (7, [.ref txb, .int 1])), (txb, .inl (y 0, 1024, .inl (upd (fun _ => 0) 0 123)))]) [0, 1] rfl
  have hD9 := hD.sub (ws' := [(tx, .inr (7, [.ref txb, .int 1])), (txb, .inl (y 0, 1024, .inl (upd (fun _ => 0) 0 123)))]) [0, 1] (by decide) rfl
  refine W.widen (k := 0) (n := 0) (Nat.le_of_ble_eq_true rfl) (Nat.le_of_ble_eq_true rfl) ?_
  exact W.vret hx hb hr (fun t ht hW => ⟨⟨(), rfl, trivial, by rw [ht]; exact hP9, by first | exact hD9 | (rw [hAe]; exact hD9)⟩, hS.F ht⟩) hS.2.2 dX7_write_37

set_option maxHeartbeats 4000000 in
set_option maxRecDepth 100000 in
theorem c_write1 (l : Launch) (G : va_G) (y : Nat → ClassId) (sz : Nat) (tx : Nat) (txb : Nat)  : Met l yX7_write wsX7_write ({ frames := 0, cells := 0, slots := 0, locals := 0 }) (nq_P G y sz [.ref tx, .int 125] [(tx, .inr (7, [.ref txb, .int 1])), (txb, .inl (y 0, 1024, .inl (upd (fun _ => 0) 0 123)))]) (va_Qv (fun (_ : Unit) => True) (fun (u : Unit) t9 => va_P G vwCl ([(tx, .inr (7, [.ref txb, .int 2])), (txb, .inl (y 0, 1024, .inl (upd (upd (fun _ => 0) 0 123) 1 125)))]) t9.heap ∧ va_D (va_A [(tx, .inr (7, [.ref txb, .int 1])), (txb, .inl (y 0, 1024, .inl (upd (fun _ => 0) 0 123)))] sz) ([(tx, .inr (7, [.ref txb, .int 2])), (txb, .inl (y 0, 1024, .inl (upd (upd (fun _ => 0) 0 123) 1 125)))])) (va_A [(tx, .inr (7, [.ref txb, .int 1])), (txb, .inl (y 0, 1024, .inl (upd (fun _ => 0) 0 123)))] sz)) 0 0 (va_A [(tx, .inr (7, [.ref txb, .int 1])), (txb, .inl (y 0, 1024, .inl (upd (fun _ => 0) 0 123)))] sz) := by
  refine Met.ofW (cc := cX7_write) (maxL := 2) (ret := none) (by decide) rfl ?_
  intro p e s m args below meth c s₁ B hml hv
  obtain ⟨rfl, hsz, hP, hK, hD0⟩ := hv
  have hx := B.exec
  have hb := B.bytes
  have hr := B.returns
  have hts := atoms_spec (ws := wsX7_write) B.pre
  have hown : s.vm.findClass RX7 = some m.cls := findClass_of_methodNamed B.named
  have hlocks := B.notSynchronized
  subst hsz
  have hD := hD0.self (sz := s.heap.size)
  generalize hAe : va_A [(tx, .inr (7, [.ref txb, .int 1])), (txb, .inl (y 0, 1024, .inl (upd (fun _ => 0) 0 123)))] s.heap.size = A at hD ⊢
  have hA : ∀ q : Nat, s.heap.size ≤ q → A q := fun q h => by rw [← hAe]; exact Or.inr h
  have hS : va_S A s.heap s.heap [] := va_S.rf
  have hP : va_P G vwCl [(tx, .inr (7, [.ref txb, .int 1])), (txb, .inl (y 0, 1024, .inl (upd (fun _ => 0) 0 123)))] s.heap := hP
  have inX7 : ∀ w ∈ wsX70, w ∈ wsX7_write := by decide +kernel
  have hl := lv_entry ([.ref tx, .int 125]) (n := 2) (Nat.le_of_ble_eq_true rfl)
  rw [lg_entry_eq]
  generalize (lg_sl ([.ref tx, .int 125]) ++ List.replicate (2 - (lg_sl ([.ref tx, .int 125])).length) Slot.unset).toArray = ls at hl ⊢
  have hl : lv_has ls 2 [(0, .ref tx), (1, .int 125)] := hl
  refine lv_aload_n hx hb dX7_write_0 rfl (lv_at hl 0 rfl) ?_
  refine va_get (D := G) (ci := 7) (v := .int 1) (C := RX7) (T := TX7) (N := 2) hx hb hts inX7 hown hK.1 hP 0 rfl rfl 1 (by decide) (hts (.fieldLink RX7 15 "NestQuery$TextOut" "length" "I") (by decide +kernel)) (fun _ h9 => h9) rfl dX7_write_1 ?_
  refine lv_if_lt (tgt := 37) hx hb dX7_write_4 (by decide) (fun c_1 => absurd c_1 (by decide)) (fun _ => ?_)
  refine lv_aload_n hx hb dX7_write_7 rfl (lv_at hl 0 rfl) ?_
  refine va_get (D := G) (ci := 7) (v := .int 1) (C := RX7) (T := TX7) (N := 2) hx hb hts inX7 hown hK.1 hP 0 rfl rfl 1 (by decide) (hts (.fieldLink RX7 15 "NestQuery$TextOut" "length" "I") (by decide +kernel)) (fun _ h9 => h9) rfl dX7_write_8 ?_
  refine lv_sipush (v := 1024) hx hb dX7_write_11 (by decide) ?_
  refine lv_icmp_ge (tgt := 37) hx hb dX7_write_14 (by decide) (fun c_2 => absurd c_2 (by decide)) (fun _ => ?_)
  refine lv_aload_n hx hb dX7_write_17 rfl (lv_at hl 0 rfl) ?_
  refine va_get (D := G) (ci := 7) (v := .ref txb) (C := RX7) (T := TX7) (N := 2) hx hb hts inX7 hown hK.1 hP 0 rfl rfl 0 (by decide) (hts (.fieldLink RX7 11 "NestQuery$TextOut" "bytes" "[I") (by decide +kernel)) (fun _ h9 => h9) rfl dX7_write_18 ?_
  refine lv_aload_n hx hb dX7_write_21 rfl (lv_at hl 0 rfl) ?_
  refine va_get (D := G) (ci := 7) (v := .int 1) (C := RX7) (T := TX7) (N := 2) hx hb hts inX7 hown hK.1 hP 0 rfl rfl 1 (by decide) (hts (.fieldLink RX7 15 "NestQuery$TextOut" "length" "I") (by decide +kernel)) (fun _ h9 => h9) rfl dX7_write_22 ?_
  refine lv_iload_n hx hb dX7_write_25 rfl (lv_at hl 1 rfl) ?_
  refine va_iast hx hb hK.1 hP hD hS 1 0 rfl rfl (i := 1) (nq_in (by decide)) dX7_write_26 (fun H locs hP hD hS => ?_)
  have hP : va_P G vwCl [(tx, .inr (7, [.ref txb, .int 1])), (txb, .inl (y 0, 1024, .inl (upd (upd (fun _ => 0) 0 123) 1 125)))] H := hP
  have hD : va_D A [(tx, .inr (7, [.ref txb, .int 1])), (txb, .inl (y 0, 1024, .inl (upd (upd (fun _ => 0) 0 123) 1 125)))] := hD
  refine lv_aload_n hx hb dX7_write_27 rfl (lv_at hl 0 rfl) ?_
  refine lv_dup hx hb dX7_write_28 rfl ?_
  refine va_get (D := G) (ci := 7) (v := .int 1) (C := RX7) (T := TX7) (N := 2) hx hb hts inX7 hown hK.1 hP 0 rfl rfl 1 (by decide) (hts (.fieldLink RX7 15 "NestQuery$TextOut" "length" "I") (by decide +kernel)) (fun _ h9 => h9) rfl dX7_write_29 ?_
  refine lv_iconst (v := 1) hx hb dX7_write_32 (by decide) ?_
  refine lv_iadd hx hb dX7_write_33 ?_
  refine nq_top (z := 2) (by decide) ?_
  refine va_put (D := G) (ci := 7) (v := .int 2) (ty := .int) (C := RX7) (T := TX7) (N := 2) hx hb hts inX7 tyX7 tyX7_ok nmX7 hown hK.1 hP hD hS 0 rfl rfl 1 (by decide) (hts (.fieldLink RX7 15 "NestQuery$TextOut" "length" "I") (by decide +kernel)) (fun _ h9 => h9) rfl (by decide +kernel) rfl rfl (Nat.le_of_ble_eq_true rfl) dX7_write_34 (fun H locs hP hD hS => ?_)
  have hP : va_P G vwCl [(tx, .inr (7, [.ref txb, .int 2])), (txb, .inl (y 0, 1024, .inl (upd (upd (fun _ => 0) 0 123) 1 125)))] H := hP
  have hD : va_D A [(tx, .inr (7, [.ref txb, .int 2])), (txb, .inl (y 0, 1024, .inl (upd (upd (fun _ => 0) 0 123) 1 125)))] := hD
  have hP9 := hP.sub (ws' := [(tx, .inr (7, [.ref txb, .int 2])), (txb, .inl (y 0, 1024, .inl (upd (upd (fun _ => 0) 0 123) 1 125)))]) [0, 1] rfl
  have hD9 := hD.sub (ws' := [(tx, .inr (7, [.ref txb, .int 2])), (txb, .inl (y 0, 1024, .inl (upd (upd (fun _ => 0) 0 123) 1 125)))]) [0, 1] (by decide) rfl
  refine W.widen (k := 0) (n := 0) (Nat.le_of_ble_eq_true rfl) (Nat.le_of_ble_eq_true rfl) ?_
  exact W.vret hx hb hr (fun t ht hW => ⟨⟨(), rfl, trivial, by rw [ht]; exact hP9, by first | exact hD9 | (rw [hAe]; exact hD9)⟩, hS.F ht⟩) hS.2.2 dX7_write_37

set_option maxHeartbeats 4000000 in
set_option maxRecDepth 100000 in
theorem c_writePath (l : Launch) (G : va_G) (y : Nat → ClassId) (sz : Nat) (tx : Nat) (txb : Nat) (nwt : Nat) (nwtk : Nat) (nwtv : Nat) (nwte : Nat) (nwtd : Nat)  : Met l yX7_writePath wsX7_writePath ({ frames := 1, cells := 0, slots := 0, locals := 21 }) (nq_P G y sz [.ref tx, .ref nwt, .int 0] [(tx, .inr (7, [.ref txb, .int 0])), (nwt, .inr (9, [.ref nwtk, .ref nwtv, .ref nwte, .ref nwtd, .int 1])), (nwtd, .inl (y 0, 60, .inl (upd (fun _ => 0) 0 0)))]) (va_Qv (fun (_ : Unit) => True) (fun (u : Unit) t9 => va_P G vwCl ([(tx, .inr (7, [.ref txb, .int 0]))]) t9.heap ∧ va_D (va_A [(tx, .inr (7, [.ref txb, .int 0])), (nwt, .inr (9, [.ref nwtk, .ref nwtv, .ref nwte, .ref nwtd, .int 1])), (nwtd, .inl (y 0, 60, .inl (upd (fun _ => 0) 0 0)))] sz) ([(tx, .inr (7, [.ref txb, .int 0]))])) (va_A [(tx, .inr (7, [.ref txb, .int 0])), (nwt, .inr (9, [.ref nwtk, .ref nwtv, .ref nwte, .ref nwtd, .int 1])), (nwtd, .inl (y 0, 60, .inl (upd (fun _ => 0) 0 0)))] sz)) 0 0 (va_A [(tx, .inr (7, [.ref txb, .int 0])), (nwt, .inr (9, [.ref nwtk, .ref nwtv, .ref nwte, .ref nwtd, .int 1])), (nwtd, .inl (y 0, 60, .inl (upd (fun _ => 0) 0 0)))] sz) := by
  refine Met.ofW (cc := cX7_writePath) (maxL := 6) (ret := none) (by decide) rfl ?_
  intro p e s m args below meth c s₁ B hml hv
  obtain ⟨rfl, hsz, hP, hK, hD0⟩ := hv
  have hx := B.exec
  have hb := B.bytes
  have hr := B.returns
  have hts := atoms_spec (ws := wsX7_writePath) B.pre
  have hown : s.vm.findClass RX7 = some m.cls := findClass_of_methodNamed B.named
  have hlocks := B.notSynchronized
  subst hsz
  have hD := hD0.self (sz := s.heap.size)
  generalize hAe : va_A [(tx, .inr (7, [.ref txb, .int 0])), (nwt, .inr (9, [.ref nwtk, .ref nwtv, .ref nwte, .ref nwtd, .int 1])), (nwtd, .inl (y 0, 60, .inl (upd (fun _ => 0) 0 0)))] s.heap.size = A at hD ⊢
  have hA : ∀ q : Nat, s.heap.size ≤ q → A q := fun q h => by rw [← hAe]; exact Or.inr h
  have hS : va_S A s.heap s.heap [] := va_S.rf
  have hP : va_P G vwCl [(tx, .inr (7, [.ref txb, .int 0])), (nwt, .inr (9, [.ref nwtk, .ref nwtv, .ref nwte, .ref nwtd, .int 1])), (nwtd, .inl (y 0, 60, .inl (upd (fun _ => 0) 0 0)))] s.heap := hP
  have hl := lv_entry ([.ref tx, .ref nwt, .int 0]) (n := 6) (Nat.le_of_ble_eq_true rfl)
  rw [lg_entry_eq]
  generalize (lg_sl ([.ref tx, .ref nwt, .int 0]) ++ List.replicate (6 - (lg_sl ([.ref tx, .ref nwt, .int 0])).length) Slot.unset).toArray = ls at hl ⊢
  have hl : lv_has ls 6 [(0, .ref tx), (1, .ref nwt), (2, .int 0)] := hl
  refine lv_aload_n hx hb dX7_writePath_0 rfl (lv_at hl 1 rfl) ?_
  refine lv_iload_n hx hb dX7_writePath_1 rfl (lv_at hl 2 rfl) ?_
  refine nq_rdi (va_runV (As := [.int 0]) (rest := []) ⟨hx, hb, hml, hown, hts⟩ (c_depthAt l G y s.heap.size nwt nwtk nwtv nwte nwtd (upd (fun _ => 0) 0 0) (pk_us)) (cwV 1 hts gX7_writePath_X9_depthAt rfl rfl rfl (by decide +kernel) ⟨Nat.le_of_ble_eq_true rfl, Nat.le_of_ble_eq_true rfl⟩) (nq_PV hK hP hD [1, 2] rfl rfl 1 rfl rfl) rfl rfl hl.1 rfl (lv_room (Nat.le_of_ble_eq_true rfl)) dX7_writePath_2 ⟨Nat.le_of_ble_eq_true rfl, Nat.le_of_ble_eq_true rfl⟩) hP hS hA (fun r_1 H locs hw_2 hP hS => ?_)
  subst hw_2
  refine lv_istore_n (lv' := [(3, .int 0), (0, .ref tx), (1, .ref nwt), (2, .int 0)]) hx hb dX7_writePath_5 rfl hl (by decide) rfl (fun ls hl => ?_)
  refine lv_iconst (v := 1) hx hb dX7_writePath_6 (by decide) ?_
  refine lv_istore (lv' := [(4, .int 1), (3, .int 0), (0, .ref tx), (1, .ref nwt), (2, .int 0)]) hx hb dX7_writePath_7 hl (by decide) rfl (fun ls hl => ?_)
  refine lv_iload hx hb dX7_writePath_9 (lv_at hl 0 rfl) ?_
  refine lv_iload_n hx hb dX7_writePath_11 rfl (lv_at hl 1 rfl) ?_
  refine lv_icmp_gt (tgt := 85) hx hb dX7_writePath_12 (by decide) (fun _ => ?_) (fun c_3 => absurd c_3 (by decide))
  have hP9 := hP.sub (ws' := [(tx, .inr (7, [.ref txb, .int 0]))]) [0] rfl
  have hD9 := hD.sub (ws' := [(tx, .inr (7, [.ref txb, .int 0]))]) [0] (by decide) rfl
  refine W.widen (k := 0) (n := 0) (Nat.le_of_ble_eq_true rfl) (Nat.le_of_ble_eq_true rfl) ?_
  exact W.vret hx hb hr (fun t ht hW => ⟨⟨(), rfl, trivial, by rw [ht]; exact hP9, by first | exact hD9 | (rw [hAe]; exact hD9)⟩, hS.F ht⟩) hS.2.2 dX7_writePath_85

set_option maxHeartbeats 4000000 in
set_option maxRecDepth 100000 in
theorem c_writeHolder (l : Launch) (G : va_G) (y : Nat → ClassId) (sz : Nat) (tx : Nat) (txb : Nat) (nwt : Nat) (nwtk : Nat) (nwtv : Nat) (nwte : Nat) (nwtd : Nat)  : Met l yX7_writeHolder wsX7_writeHolder ({ frames := 1, cells := 0, slots := 0, locals := 23 }) (nq_P G y sz [.ref tx, .ref nwt, .int 0, .int 0] [(tx, .inr (7, [.ref txb, .int 0])), (txb, .inl (y 0, 1024, .inl (fun _ => 0))), (nwt, .inr (9, [.ref nwtk, .ref nwtv, .ref nwte, .ref nwtd, .int 1])), (nwtk, .inl (y 0, 60, .inl (upd (fun _ => 0) 0 3)))]) (va_Qv (fun (_ : Unit) => True) (fun (u : Unit) t9 => va_P G vwCl ([(tx, .inr (7, [.ref txb, .int 2])), (txb, .inl (y 0, 1024, .inl (upd (upd (fun _ => 0) 0 123) 1 125)))]) t9.heap ∧ va_D (va_A [(tx, .inr (7, [.ref txb, .int 0])), (txb, .inl (y 0, 1024, .inl (fun _ => 0))), (nwt, .inr (9, [.ref nwtk, .ref nwtv, .ref nwte, .ref nwtd, .int 1])), (nwtk, .inl (y 0, 60, .inl (upd (fun _ => 0) 0 3)))] sz) ([(tx, .inr (7, [.ref txb, .int 2])), (txb, .inl (y 0, 1024, .inl (upd (upd (fun _ => 0) 0 123) 1 125)))])) (va_A [(tx, .inr (7, [.ref txb, .int 0])), (txb, .inl (y 0, 1024, .inl (fun _ => 0))), (nwt, .inr (9, [.ref nwtk, .ref nwtv, .ref nwte, .ref nwtd, .int 1])), (nwtk, .inl (y 0, 60, .inl (upd (fun _ => 0) 0 3)))] sz)) 0 0 (va_A [(tx, .inr (7, [.ref txb, .int 0])), (txb, .inl (y 0, 1024, .inl (fun _ => 0))), (nwt, .inr (9, [.ref nwtk, .ref nwtv, .ref nwte, .ref nwtd, .int 1])), (nwtk, .inl (y 0, 60, .inl (upd (fun _ => 0) 0 3)))] sz) := by
  refine Met.ofW (cc := cX7_writeHolder) (maxL := 8) (ret := none) (by decide) rfl ?_
  intro p e s m args below meth c s₁ B hml hv
  obtain ⟨rfl, hsz, hP, hK, hD0⟩ := hv
  have hx := B.exec
  have hb := B.bytes
  have hr := B.returns
  have hts := atoms_spec (ws := wsX7_writeHolder) B.pre
  have hown : s.vm.findClass RX7 = some m.cls := findClass_of_methodNamed B.named
  have hlocks := B.notSynchronized
  subst hsz
  have hD := hD0.self (sz := s.heap.size)
  generalize hAe : va_A [(tx, .inr (7, [.ref txb, .int 0])), (txb, .inl (y 0, 1024, .inl (fun _ => 0))), (nwt, .inr (9, [.ref nwtk, .ref nwtv, .ref nwte, .ref nwtd, .int 1])), (nwtk, .inl (y 0, 60, .inl (upd (fun _ => 0) 0 3)))] s.heap.size = A at hD ⊢
  have hA : ∀ q : Nat, s.heap.size ≤ q → A q := fun q h => by rw [← hAe]; exact Or.inr h
  have hS : va_S A s.heap s.heap [] := va_S.rf
  have hP : va_P G vwCl [(tx, .inr (7, [.ref txb, .int 0])), (txb, .inl (y 0, 1024, .inl (fun _ => 0))), (nwt, .inr (9, [.ref nwtk, .ref nwtv, .ref nwte, .ref nwtd, .int 1])), (nwtk, .inl (y 0, 60, .inl (upd (fun _ => 0) 0 3)))] s.heap := hP
  have hl := lv_entry ([.ref tx, .ref nwt, .int 0, .int 0]) (n := 8) (Nat.le_of_ble_eq_true rfl)
  rw [lg_entry_eq]
  generalize (lg_sl ([.ref tx, .ref nwt, .int 0, .int 0]) ++ List.replicate (8 - (lg_sl ([.ref tx, .ref nwt, .int 0, .int 0])).length) Slot.unset).toArray = ls at hl ⊢
  have hl : lv_has ls 8 [(0, .ref tx), (1, .ref nwt), (2, .int 0), (3, .int 0)] := hl
  refine lv_aload_n hx hb dX7_writeHolder_0 rfl (lv_at hl 1 rfl) ?_
  refine lv_iload_n hx hb dX7_writeHolder_1 rfl (lv_at hl 2 rfl) ?_
  refine nq_rdi (va_runV (As := [.int 0]) (rest := []) ⟨hx, hb, hml, hown, hts⟩ (c_kindAt l G y s.heap.size nwt nwtk nwtv nwte nwtd (upd (fun _ => 0) 0 3) (pk_us)) (cwV 1 hts gX7_writeHolder_X9_kindAt rfl rfl rfl (by decide +kernel) ⟨Nat.le_of_ble_eq_true rfl, Nat.le_of_ble_eq_true rfl⟩) (nq_PV hK hP hD [2, 3] rfl rfl 2 rfl rfl) rfl rfl hl.1 rfl (lv_room (Nat.le_of_ble_eq_true rfl)) dX7_writeHolder_2 ⟨Nat.le_of_ble_eq_true rfl, Nat.le_of_ble_eq_true rfl⟩) hP hS hA (fun r_1 H locs hw_2 hP hS => ?_)
  subst hw_2
  refine lv_iconst (v := 3) hx hb dX7_writeHolder_5 (by decide) ?_
  refine lv_icmp_ne (tgt := 13) hx hb dX7_writeHolder_6 (by decide) (fun c_3 => absurd c_3 (by decide)) (fun _ => ?_)
  refine lv_iconst (v := 1) hx hb dX7_writeHolder_9 (by decide) ?_
  refine lv_goto (tgt := 14) hx hb dX7_writeHolder_10 (by decide) ?_
  refine lv_istore (lv' := [(4, .int 1), (0, .ref tx), (1, .ref nwt), (2, .int 0), (3, .int 0)]) hx hb dX7_writeHolder_14 hl (by decide) rfl (fun ls hl => ?_)
  refine lv_aload_n hx hb dX7_writeHolder_16 rfl (lv_at hl 2 rfl) ?_
  refine lv_iload_n hx hb dX7_writeHolder_17 rfl (lv_at hl 3 rfl) ?_
  refine nq_rdi (va_runV (As := [.int 0]) (rest := []) ⟨hx, hb, hml, hown, hts⟩ (c_childCount l G y H.size nwt nwtk nwtv nwte nwtd ) (cwV 1 hts gX7_writeHolder_X9_childCount rfl rfl rfl (by decide +kernel) ⟨Nat.le_of_ble_eq_true rfl, Nat.le_of_ble_eq_true rfl⟩) (nq_PV hK hP hD [2] rfl rfl 2 rfl rfl) rfl rfl hl.1 rfl (lv_room (Nat.le_of_ble_eq_true rfl)) dX7_writeHolder_18 ⟨Nat.le_of_ble_eq_true rfl, Nat.le_of_ble_eq_true rfl⟩) hP hS hA (fun r_4 H locs hw_5 hP hS => ?_)
  subst hw_5
  refine lv_istore (lv' := [(5, .int 0), (4, .int 1), (0, .ref tx), (1, .ref nwt), (2, .int 0), (3, .int 0)]) hx hb dX7_writeHolder_21 hl (by decide) rfl (fun ls hl => ?_)
  refine lv_iload_n hx hb dX7_writeHolder_23 rfl (lv_at hl 4 rfl) ?_
  refine lv_iconst (v := 1) hx hb dX7_writeHolder_24 (by decide) ?_
  refine lv_iadd hx hb dX7_writeHolder_25 ?_
  refine nq_top (z := 1) (by decide) ?_
  refine lv_istore (lv' := [(6, .int 1), (5, .int 0), (4, .int 1), (0, .ref tx), (1, .ref nwt), (2, .int 0), (3, .int 0)]) hx hb dX7_writeHolder_26 hl (by decide) rfl (fun ls hl => ?_)
  refine lv_aload_n hx hb dX7_writeHolder_28 rfl (lv_at hl 3 rfl) ?_
  refine lv_iload hx hb dX7_writeHolder_29 (lv_at hl 2 rfl) ?_
  refine lv_if_eq (tgt := 39) hx hb dX7_writeHolder_31 (by decide) (fun c_6 => absurd c_6 (by decide)) (fun _ => ?_)
  refine lv_bipush (v := 123) hx hb dX7_writeHolder_34 (by decide) ?_
  refine lv_goto (tgt := 41) hx hb dX7_writeHolder_36 (by decide) ?_
  refine nq_wrv (wr := [(nwt, .inr (9, [.ref nwtk, .ref nwtv, .ref nwte, .ref nwtd, .int 1])), (nwtk, .inl (y 0, 60, .inl (upd (fun _ => 0) 0 3)))]) (va_runV (As := [.int 123]) (rest := []) ⟨hx, hb, hml, hown, hts⟩ (c_write0 l G y H.size tx txb ) (cwV 1 hts gX7_writeHolder_X7_write rfl rfl rfl (by decide +kernel) ⟨Nat.le_of_ble_eq_true rfl, Nat.le_of_ble_eq_true rfl⟩) (nq_PV hK hP hD [0, 1] rfl rfl 0 rfl rfl) rfl rfl hl.1 rfl (lv_room (Nat.le_of_ble_eq_true rfl)) dX7_writeHolder_41 ⟨Nat.le_of_ble_eq_true rfl, Nat.le_of_ble_eq_true rfl⟩) hP hD hS hA [0, 1] [2, 3] rfl rfl (by decide) (by decide) (fun u_7 H locs hw_8 hP hD hS => ?_)
  have hP : va_P G vwCl [(nwt, .inr (9, [.ref nwtk, .ref nwtv, .ref nwte, .ref nwtd, .int 1])), (nwtk, .inl (y 0, 60, .inl (upd (fun _ => 0) 0 3))), (tx, .inr (7, [.ref txb, .int 1])), (txb, .inl (y 0, 1024, .inl (upd (fun _ => 0) 0 123)))] H := hP
  have hD : va_D A [(nwt, .inr (9, [.ref nwtk, .ref nwtv, .ref nwte, .ref nwtd, .int 1])), (nwtk, .inl (y 0, 60, .inl (upd (fun _ => 0) 0 3))), (tx, .inr (7, [.ref txb, .int 1])), (txb, .inl (y 0, 1024, .inl (upd (fun _ => 0) 0 123)))] := hD
  refine lv_iconst (v := 0) hx hb dX7_writeHolder_44 (by decide) ?_
  refine lv_istore (lv' := [(7, .int 0), (6, .int 1), (5, .int 0), (4, .int 1), (0, .ref tx), (1, .ref nwt), (2, .int 0), (3, .int 0)]) hx hb dX7_writeHolder_45 hl (by decide) rfl (fun ls hl => ?_)
  refine lv_iload hx hb dX7_writeHolder_47 (lv_at hl 0 rfl) ?_
  refine lv_iload hx hb dX7_writeHolder_49 (lv_at hl 2 rfl) ?_
  refine lv_icmp_ge (tgt := 112) hx hb dX7_writeHolder_51 (by decide) (fun _ => ?_) (fun c_10 => absurd c_10 (by decide))
  refine lv_aload_n hx hb dX7_writeHolder_112 rfl (lv_at hl 4 rfl) ?_
  refine lv_iload hx hb dX7_writeHolder_113 (lv_at hl 3 rfl) ?_
  refine lv_if_eq (tgt := 123) hx hb dX7_writeHolder_115 (by decide) (fun c_11 => absurd c_11 (by decide)) (fun _ => ?_)
  refine lv_bipush (v := 125) hx hb dX7_writeHolder_118 (by decide) ?_
  refine lv_goto (tgt := 125) hx hb dX7_writeHolder_120 (by decide) ?_
  refine nq_wrv (wr := [(nwt, .inr (9, [.ref nwtk, .ref nwtv, .ref nwte, .ref nwtd, .int 1])), (nwtk, .inl (y 0, 60, .inl (upd (fun _ => 0) 0 3)))]) (va_runV (As := [.int 125]) (rest := []) ⟨hx, hb, hml, hown, hts⟩ (c_write1 l G y H.size tx txb ) (cwV 1 hts gX7_writeHolder_X7_write rfl rfl rfl (by decide +kernel) ⟨Nat.le_of_ble_eq_true rfl, Nat.le_of_ble_eq_true rfl⟩) (nq_PV hK hP hD [2, 3] rfl rfl 2 rfl rfl) rfl rfl hl.1 rfl (lv_room (Nat.le_of_ble_eq_true rfl)) dX7_writeHolder_125 ⟨Nat.le_of_ble_eq_true rfl, Nat.le_of_ble_eq_true rfl⟩) hP hD hS hA [2, 3] [0, 1] rfl rfl (by decide) (by decide) (fun u_12 H locs hw_13 hP hD hS => ?_)
  have hP : va_P G vwCl [(nwt, .inr (9, [.ref nwtk, .ref nwtv, .ref nwte, .ref nwtd, .int 1])), (nwtk, .inl (y 0, 60, .inl (upd (fun _ => 0) 0 3))), (tx, .inr (7, [.ref txb, .int 2])), (txb, .inl (y 0, 1024, .inl (upd (upd (fun _ => 0) 0 123) 1 125)))] H := hP
  have hD : va_D A [(nwt, .inr (9, [.ref nwtk, .ref nwtv, .ref nwte, .ref nwtd, .int 1])), (nwtk, .inl (y 0, 60, .inl (upd (fun _ => 0) 0 3))), (tx, .inr (7, [.ref txb, .int 2])), (txb, .inl (y 0, 1024, .inl (upd (upd (fun _ => 0) 0 123) 1 125)))] := hD
  have hP9 := hP.sub (ws' := [(tx, .inr (7, [.ref txb, .int 2])), (txb, .inl (y 0, 1024, .inl (upd (upd (fun _ => 0) 0 123) 1 125)))]) [2, 3] rfl
  have hD9 := hD.sub (ws' := [(tx, .inr (7, [.ref txb, .int 2])), (txb, .inl (y 0, 1024, .inl (upd (upd (fun _ => 0) 0 123) 1 125)))]) [2, 3] (by decide) rfl
  refine W.widen (k := 0) (n := 0) (Nat.le_of_ble_eq_true rfl) (Nat.le_of_ble_eq_true rfl) ?_
  exact W.vret hx hb hr (fun t ht hW => ⟨⟨(), rfl, trivial, by rw [ht]; exact hP9, by first | exact hD9 | (rw [hAe]; exact hD9)⟩, hS.F ht⟩) hS.2.2 dX7_writeHolder_128

set_option maxHeartbeats 4000000 in
set_option maxRecDepth 100000 in
theorem c_writeThing (l : Launch) (G : va_G) (y : Nat → ClassId) (sz : Nat) (tx : Nat) (txb : Nat) (nwt : Nat) (nwtk : Nat) (nwtv : Nat) (nwte : Nat) (nwtd : Nat)  : Met l yX7_writeThing wsX7_writeThing ({ frames := 2, cells := 0, slots := 0, locals := 50 }) (nq_P G y sz [.ref tx, .ref nwt, .int 0, .int 0] [(tx, .inr (7, [.ref txb, .int 0])), (txb, .inl (y 0, 1024, .inl (fun _ => 0))), (nwt, .inr (9, [.ref nwtk, .ref nwtv, .ref nwte, .ref nwtd, .int 1])), (nwtk, .inl (y 0, 60, .inl (upd (fun _ => 0) 0 3)))]) (va_Qv (fun (_ : Unit) => True) (fun (u : Unit) t9 => va_P G vwCl ([(tx, .inr (7, [.ref txb, .int 2])), (txb, .inl (y 0, 1024, .inl (upd (upd (fun _ => 0) 0 123) 1 125)))]) t9.heap ∧ va_D (va_A [(tx, .inr (7, [.ref txb, .int 0])), (txb, .inl (y 0, 1024, .inl (fun _ => 0))), (nwt, .inr (9, [.ref nwtk, .ref nwtv, .ref nwte, .ref nwtd, .int 1])), (nwtk, .inl (y 0, 60, .inl (upd (fun _ => 0) 0 3)))] sz) ([(tx, .inr (7, [.ref txb, .int 2])), (txb, .inl (y 0, 1024, .inl (upd (upd (fun _ => 0) 0 123) 1 125)))])) (va_A [(tx, .inr (7, [.ref txb, .int 0])), (txb, .inl (y 0, 1024, .inl (fun _ => 0))), (nwt, .inr (9, [.ref nwtk, .ref nwtv, .ref nwte, .ref nwtd, .int 1])), (nwtk, .inl (y 0, 60, .inl (upd (fun _ => 0) 0 3)))] sz)) 0 0 (va_A [(tx, .inr (7, [.ref txb, .int 0])), (txb, .inl (y 0, 1024, .inl (fun _ => 0))), (nwt, .inr (9, [.ref nwtk, .ref nwtv, .ref nwte, .ref nwtd, .int 1])), (nwtk, .inl (y 0, 60, .inl (upd (fun _ => 0) 0 3)))] sz) := by
  refine Met.ofW (cc := cX7_writeThing) (maxL := 5) (ret := none) (by decide) rfl ?_
  intro p e s m args below meth c s₁ B hml hv
  obtain ⟨rfl, hsz, hP, hK, hD0⟩ := hv
  have hx := B.exec
  have hb := B.bytes
  have hr := B.returns
  have hts := atoms_spec (ws := wsX7_writeThing) B.pre
  have hown : s.vm.findClass RX7 = some m.cls := findClass_of_methodNamed B.named
  have hlocks := B.notSynchronized
  subst hsz
  have hD := hD0.self (sz := s.heap.size)
  generalize hAe : va_A [(tx, .inr (7, [.ref txb, .int 0])), (txb, .inl (y 0, 1024, .inl (fun _ => 0))), (nwt, .inr (9, [.ref nwtk, .ref nwtv, .ref nwte, .ref nwtd, .int 1])), (nwtk, .inl (y 0, 60, .inl (upd (fun _ => 0) 0 3)))] s.heap.size = A at hD ⊢
  have hA : ∀ q : Nat, s.heap.size ≤ q → A q := fun q h => by rw [← hAe]; exact Or.inr h
  have hS : va_S A s.heap s.heap [] := va_S.rf
  have hP : va_P G vwCl [(tx, .inr (7, [.ref txb, .int 0])), (txb, .inl (y 0, 1024, .inl (fun _ => 0))), (nwt, .inr (9, [.ref nwtk, .ref nwtv, .ref nwte, .ref nwtd, .int 1])), (nwtk, .inl (y 0, 60, .inl (upd (fun _ => 0) 0 3)))] s.heap := hP
  have hl := lv_entry ([.ref tx, .ref nwt, .int 0, .int 0]) (n := 5) (Nat.le_of_ble_eq_true rfl)
  rw [lg_entry_eq]
  generalize (lg_sl ([.ref tx, .ref nwt, .int 0, .int 0]) ++ List.replicate (5 - (lg_sl ([.ref tx, .ref nwt, .int 0, .int 0])).length) Slot.unset).toArray = ls at hl ⊢
  have hl : lv_has ls 5 [(0, .ref tx), (1, .ref nwt), (2, .int 0), (3, .int 0)] := hl
  refine lv_aload_n hx hb dX7_writeThing_0 rfl (lv_at hl 1 rfl) ?_
  refine lv_iload_n hx hb dX7_writeThing_1 rfl (lv_at hl 2 rfl) ?_
  refine nq_rdi (va_runV (As := [.int 0]) (rest := []) ⟨hx, hb, hml, hown, hts⟩ (c_kindAt l G y s.heap.size nwt nwtk nwtv nwte nwtd (upd (fun _ => 0) 0 3) (pk_us)) (cwV 1 hts gX7_writeThing_X9_kindAt rfl rfl rfl (by decide +kernel) ⟨Nat.le_of_ble_eq_true rfl, Nat.le_of_ble_eq_true rfl⟩) (nq_PV hK hP hD [2, 3] rfl rfl 2 rfl rfl) rfl rfl hl.1 rfl (lv_room (Nat.le_of_ble_eq_true rfl)) dX7_writeThing_2 ⟨Nat.le_of_ble_eq_true rfl, Nat.le_of_ble_eq_true rfl⟩) hP hS hA (fun r_1 H locs hw_2 hP hS => ?_)
  subst hw_2
  refine lv_istore (lv' := [(4, .int 3), (0, .ref tx), (1, .ref nwt), (2, .int 0), (3, .int 0)]) hx hb dX7_writeThing_5 hl (by decide) rfl (fun ls hl => ?_)
  refine lv_iload hx hb dX7_writeThing_7 (lv_at hl 0 rfl) ?_
  refine lv_if_ne (tgt := 24) hx hb dX7_writeThing_9 (by decide) (fun _ => ?_) (fun c_3 => absurd c_3 (by decide))
  refine lv_iload hx hb dX7_writeThing_24 (lv_at hl 0 rfl) ?_
  refine lv_iconst (v := 1) hx hb dX7_writeThing_26 (by decide) ?_
  refine lv_icmp_ne (tgt := 42) hx hb dX7_writeThing_27 (by decide) (fun _ => ?_) (fun c_4 => absurd c_4 (by decide))
  refine lv_iload_n hx hb dX7_writeThing_42 rfl (lv_at hl 4 rfl) ?_
  refine lv_bipush (v := 16) hx hb dX7_writeThing_43 (by decide) ?_
  refine lv_icmp_gt (tgt := 55) hx hb dX7_writeThing_45 (by decide) (fun c_5 => absurd c_5 (by decide)) (fun _ => ?_)
  refine lv_aload_n hx hb dX7_writeThing_48 rfl (lv_at hl 1 rfl) ?_
  refine lv_aload_n hx hb dX7_writeThing_49 rfl (lv_at hl 2 rfl) ?_
  refine lv_iload_n hx hb dX7_writeThing_50 rfl (lv_at hl 3 rfl) ?_
  refine lv_iload_n hx hb dX7_writeThing_51 rfl (lv_at hl 4 rfl) ?_
  refine nq_wrv (wr := []) (va_runV (As := [.ref nwt, .int 0, .int 0]) (rest := []) ⟨hx, hb, hml, hown, hts⟩ (c_writeHolder l G y H.size tx txb nwt nwtk nwtv nwte nwtd ) (cwV 3 hts gX7_writeThing_X7_writeHolder rfl rfl rfl (by decide +kernel) ⟨Nat.le_of_ble_eq_true rfl, Nat.le_of_ble_eq_true rfl⟩) (nq_PV hK hP hD [0, 1, 2, 3] rfl rfl 0 rfl rfl) rfl rfl hl.1 rfl (lv_room (Nat.le_of_ble_eq_true rfl)) dX7_writeThing_52 ⟨Nat.le_of_ble_eq_true rfl, Nat.le_of_ble_eq_true rfl⟩) hP hD hS hA [0, 1, 2, 3] [] rfl rfl (by decide) (by decide) (fun u_6 H locs hw_7 hP hD hS => ?_)
  have hP : va_P G vwCl [(tx, .inr (7, [.ref txb, .int 2])), (txb, .inl (y 0, 1024, .inl (upd (upd (fun _ => 0) 0 123) 1 125)))] H := hP
  have hD : va_D A [(tx, .inr (7, [.ref txb, .int 2])), (txb, .inl (y 0, 1024, .inl (upd (upd (fun _ => 0) 0 123) 1 125)))] := hD
  have hP9 := hP.sub (ws' := [(tx, .inr (7, [.ref txb, .int 2])), (txb, .inl (y 0, 1024, .inl (upd (upd (fun _ => 0) 0 123) 1 125)))]) [0, 1] rfl
  have hD9 := hD.sub (ws' := [(tx, .inr (7, [.ref txb, .int 2])), (txb, .inl (y 0, 1024, .inl (upd (upd (fun _ => 0) 0 123) 1 125)))]) [0, 1] (by decide) rfl
  refine W.widen (k := 0) (n := 0) (Nat.le_of_ble_eq_true rfl) (Nat.le_of_ble_eq_true rfl) ?_
  exact W.vret hx hb hr (fun t ht hW => ⟨⟨(), rfl, trivial, by rw [ht]; exact hP9, by first | exact hD9 | (rw [hAe]; exact hD9)⟩, hS.F ht⟩) hS.2.2 dX7_writeThing_55

set_option maxHeartbeats 4000000 in
set_option maxRecDepth 100000 in
theorem c_byteAt0 (l : Launch) (G : va_G) (y : Nat → ClassId) (sz : Nat) (tx : Nat) (txb : Nat)  : Met l yX7_byteAt wsX7_byteAt ({ frames := 0, cells := 0, slots := 0, locals := 0 }) (nq_P G y sz [.ref tx, .int 0] [(tx, .inr (7, [.ref txb, .int 2])), (txb, .inl (y 0, 1024, .inl (upd (upd (fun _ => 0) 0 123) 1 125)))]) (va_Qi (fun (r : Int32) (_ : Unit) => r = 123) (fun _ _ => True) (va_A [] sz)) 0 0 (va_A [] sz) := by
  refine Met.ofW (cc := cX7_byteAt) (maxL := 2) (ret := (some .int)) (by decide) rfl ?_
  intro p e s m args below meth c s₁ B hml hv
  obtain ⟨rfl, hsz, hP, hK, hD0⟩ := hv
  have hx := B.exec
  have hb := B.bytes
  have hr := B.returns
  have hts := atoms_spec (ws := wsX7_byteAt) B.pre
  have hown : s.vm.findClass RX7 = some m.cls := findClass_of_methodNamed B.named
  have hlocks := B.notSynchronized
  subst hsz
  have hD := hD0
  have hA : ∀ q : Nat, s.heap.size ≤ q → va_A [] s.heap.size q := fun q h => Or.inr h
  have hS : va_S (va_A [] s.heap.size) s.heap s.heap [] := va_S.rf
  have hP : va_P G vwCl [(tx, .inr (7, [.ref txb, .int 2])), (txb, .inl (y 0, 1024, .inl (upd (upd (fun _ => 0) 0 123) 1 125)))] s.heap := hP
  have inX7 : ∀ w ∈ wsX70, w ∈ wsX7_byteAt := by decide +kernel
  have hl := lv_entry ([.ref tx, .int 0]) (n := 2) (Nat.le_of_ble_eq_true rfl)
  rw [lg_entry_eq]
  generalize (lg_sl ([.ref tx, .int 0]) ++ List.replicate (2 - (lg_sl ([.ref tx, .int 0])).length) Slot.unset).toArray = ls at hl ⊢
  have hl : lv_has ls 2 [(0, .ref tx), (1, .int 0)] := hl
  refine lv_iload_n hx hb dX7_byteAt_0 rfl (lv_at hl 1 rfl) ?_
  refine lv_if_lt (tgt := 12) hx hb dX7_byteAt_1 (by decide) (fun c_1 => absurd c_1 (by decide)) (fun _ => ?_)
  refine lv_iload_n hx hb dX7_byteAt_4 rfl (lv_at hl 1 rfl) ?_
  refine lv_aload_n hx hb dX7_byteAt_5 rfl (lv_at hl 0 rfl) ?_
  refine va_get (D := G) (ci := 7) (v := .int 2) (C := RX7) (T := TX7) (N := 2) hx hb hts inX7 hown hK.1 hP 0 rfl rfl 1 (by decide) (hts (.fieldLink RX7 15 "NestQuery$TextOut" "length" "I") (by decide +kernel)) (fun _ h9 => h9) rfl dX7_byteAt_6 ?_
  refine lv_icmp_lt (tgt := 16) hx hb dX7_byteAt_9 (by decide) (fun _ => ?_) (fun c_2 => absurd c_2 (by decide))
  refine lv_aload_n hx hb dX7_byteAt_16 rfl (lv_at hl 0 rfl) ?_
  refine va_get (D := G) (ci := 7) (v := .ref txb) (C := RX7) (T := TX7) (N := 2) hx hb hts inX7 hown hK.1 hP 0 rfl rfl 0 (by decide) (hts (.fieldLink RX7 11 "NestQuery$TextOut" "bytes" "[I") (by decide +kernel)) (fun _ h9 => h9) rfl dX7_byteAt_17 ?_
  refine lv_iload_n hx hb dX7_byteAt_20 rfl (lv_at hl 1 rfl) ?_
  refine va_iald hx hb hK.1 hP 1 0 rfl rfl (i := 0) (nq_in (by decide)) dX7_byteAt_21 ?_
  refine nq_top (z := 123) ((pk_un (by decide)).trans (pk_us)) ?_
  refine W.widen (k := 0) (n := 0) (Nat.le_of_ble_eq_true rfl) (Nat.le_of_ble_eq_true rfl) ?_
  exact W.iret (v := 123) hx hb hr (fun t ht hW => ⟨⟨123, (), rfl, rfl, trivial⟩, hS.F ht⟩) hS.2.2 dX7_byteAt_22

set_option maxHeartbeats 4000000 in
set_option maxRecDepth 100000 in
theorem c_byteAt1 (l : Launch) (G : va_G) (y : Nat → ClassId) (sz : Nat) (tx : Nat) (txb : Nat)  : Met l yX7_byteAt wsX7_byteAt ({ frames := 0, cells := 0, slots := 0, locals := 0 }) (nq_P G y sz [.ref tx, .int 1] [(tx, .inr (7, [.ref txb, .int 2])), (txb, .inl (y 0, 1024, .inl (upd (upd (fun _ => 0) 0 123) 1 125)))]) (va_Qi (fun (r : Int32) (_ : Unit) => r = 125) (fun _ _ => True) (va_A [] sz)) 0 0 (va_A [] sz) := by
  refine Met.ofW (cc := cX7_byteAt) (maxL := 2) (ret := (some .int)) (by decide) rfl ?_
  intro p e s m args below meth c s₁ B hml hv
  obtain ⟨rfl, hsz, hP, hK, hD0⟩ := hv
  have hx := B.exec
  have hb := B.bytes
  have hr := B.returns
  have hts := atoms_spec (ws := wsX7_byteAt) B.pre
  have hown : s.vm.findClass RX7 = some m.cls := findClass_of_methodNamed B.named
  have hlocks := B.notSynchronized
  subst hsz
  have hD := hD0
  have hA : ∀ q : Nat, s.heap.size ≤ q → va_A [] s.heap.size q := fun q h => Or.inr h
  have hS : va_S (va_A [] s.heap.size) s.heap s.heap [] := va_S.rf
  have hP : va_P G vwCl [(tx, .inr (7, [.ref txb, .int 2])), (txb, .inl (y 0, 1024, .inl (upd (upd (fun _ => 0) 0 123) 1 125)))] s.heap := hP
  have inX7 : ∀ w ∈ wsX70, w ∈ wsX7_byteAt := by decide +kernel
  have hl := lv_entry ([.ref tx, .int 1]) (n := 2) (Nat.le_of_ble_eq_true rfl)
  rw [lg_entry_eq]
  generalize (lg_sl ([.ref tx, .int 1]) ++ List.replicate (2 - (lg_sl ([.ref tx, .int 1])).length) Slot.unset).toArray = ls at hl ⊢
  have hl : lv_has ls 2 [(0, .ref tx), (1, .int 1)] := hl
  refine lv_iload_n hx hb dX7_byteAt_0 rfl (lv_at hl 1 rfl) ?_
  refine lv_if_lt (tgt := 12) hx hb dX7_byteAt_1 (by decide) (fun c_1 => absurd c_1 (by decide)) (fun _ => ?_)
  refine lv_iload_n hx hb dX7_byteAt_4 rfl (lv_at hl 1 rfl) ?_
  refine lv_aload_n hx hb dX7_byteAt_5 rfl (lv_at hl 0 rfl) ?_
  refine va_get (D := G) (ci := 7) (v := .int 2) (C := RX7) (T := TX7) (N := 2) hx hb hts inX7 hown hK.1 hP 0 rfl rfl 1 (by decide) (hts (.fieldLink RX7 15 "NestQuery$TextOut" "length" "I") (by decide +kernel)) (fun _ h9 => h9) rfl dX7_byteAt_6 ?_
  refine lv_icmp_lt (tgt := 16) hx hb dX7_byteAt_9 (by decide) (fun _ => ?_) (fun c_2 => absurd c_2 (by decide))
  refine lv_aload_n hx hb dX7_byteAt_16 rfl (lv_at hl 0 rfl) ?_
  refine va_get (D := G) (ci := 7) (v := .ref txb) (C := RX7) (T := TX7) (N := 2) hx hb hts inX7 hown hK.1 hP 0 rfl rfl 0 (by decide) (hts (.fieldLink RX7 11 "NestQuery$TextOut" "bytes" "[I") (by decide +kernel)) (fun _ h9 => h9) rfl dX7_byteAt_17 ?_
  refine lv_iload_n hx hb dX7_byteAt_20 rfl (lv_at hl 1 rfl) ?_
  refine va_iald hx hb hK.1 hP 1 0 rfl rfl (i := 1) (nq_in (by decide)) dX7_byteAt_21 ?_
  refine nq_top (z := 125) (pk_us) ?_
  refine W.widen (k := 0) (n := 0) (Nat.le_of_ble_eq_true rfl) (Nat.le_of_ble_eq_true rfl) ?_
  exact W.iret (v := 125) hx hb hr (fun t ht hW => ⟨⟨125, (), rfl, rfl, trivial⟩, hS.F ht⟩) hS.2.2 dX7_byteAt_22

set_option maxHeartbeats 4000000 in
set_option maxRecDepth 100000 in
theorem c_like (l : Launch) (G : va_G) (y : Nat → ClassId) (sz : Nat) (h0 : Nat) (ak : Nat) (av : Nat) (ae : Nat) (ad : Nat) (fk : Nat → Int32) (hfk0 : fk 0 = 3) : Met l yX9_like wsX9_like ({ frames := 2, cells := 0, slots := 0, locals := 44 }) (nq_P G y sz [.ref h0, .int 0, .ref h0, .int 0, .int 0] [(h0, .inr (9, [.ref ak, .ref av, .ref ae, .ref ad, .int 1])), (ak, .inl (y 0, 60, .inl fk))]) (va_Qi (fun (r : Int32) (_ : Unit) => r = 1) (fun _ _ => True) (va_A [] sz)) 0 0 (va_A [] sz) := by
  refine Met.ofW (cc := cX9_like) (maxL := 11) (ret := (some .boolean)) (by decide) rfl ?_
  intro p e s m args below meth c s₁ B hml hv
  obtain ⟨rfl, hsz, hP, hK, hD0⟩ := hv
  have hx := B.exec
  have hb := B.bytes
  have hr := B.returns
  have hts := atoms_spec (ws := wsX9_like) B.pre
  have hown : s.vm.findClass RX9 = some m.cls := findClass_of_methodNamed B.named
  have hlocks := B.notSynchronized
  subst hsz
  have hD := hD0
  have hA : ∀ q : Nat, s.heap.size ≤ q → va_A [] s.heap.size q := fun q h => Or.inr h
  have hS : va_S (va_A [] s.heap.size) s.heap s.heap [] := va_S.rf
  have hP : va_P G vwCl [(h0, .inr (9, [.ref ak, .ref av, .ref ae, .ref ad, .int 1])), (ak, .inl (y 0, 60, .inl fk))] s.heap := hP
  have hl := lv_entry ([.ref h0, .int 0, .ref h0, .int 0, .int 0]) (n := 11) (Nat.le_of_ble_eq_true rfl)
  rw [lg_entry_eq]
  generalize (lg_sl ([.ref h0, .int 0, .ref h0, .int 0, .int 0]) ++ List.replicate (11 - (lg_sl ([.ref h0, .int 0, .ref h0, .int 0, .int 0])).length) Slot.unset).toArray = ls at hl ⊢
  have hl : lv_has ls 11 [(0, .ref h0), (1, .int 0), (2, .ref h0), (3, .int 0), (4, .int 0)] := hl
  refine lv_aload_n hx hb dX9_like_0 rfl (lv_at hl 0 rfl) ?_
  refine lv_iload_n hx hb dX9_like_1 rfl (lv_at hl 1 rfl) ?_
  refine nq_rdi (va_runV (As := [.int 0]) (rest := []) ⟨hx, hb, hml, hown, hts⟩ (c_kindAt l G y s.heap.size h0 ak av ae ad fk (hfk0)) (cwV 1 hts gX9_like_X9_kindAt rfl rfl rfl (by decide +kernel) ⟨Nat.le_of_ble_eq_true rfl, Nat.le_of_ble_eq_true rfl⟩) (nq_PV hK hP hD [0, 1] rfl rfl 0 rfl rfl) rfl rfl hl.1 rfl (lv_room (Nat.le_of_ble_eq_true rfl)) dX9_like_2 ⟨Nat.le_of_ble_eq_true rfl, Nat.le_of_ble_eq_true rfl⟩) hP hS hA (fun r_1 H locs hw_2 hP hS => ?_)
  subst hw_2
  refine lv_istore (lv' := [(5, .int 3), (0, .ref h0), (1, .int 0), (2, .ref h0), (3, .int 0), (4, .int 0)]) hx hb dX9_like_5 hl (by decide) rfl (fun ls hl => ?_)
  refine lv_iload hx hb dX9_like_7 (lv_at hl 0 rfl) ?_
  refine lv_if_lt (tgt := 29) hx hb dX9_like_9 (by decide) (fun c_3 => absurd c_3 (by decide)) (fun _ => ?_)
  refine lv_iload hx hb dX9_like_12 (lv_at hl 0 rfl) ?_
  refine lv_aload_n hx hb dX9_like_14 rfl (lv_at hl 3 rfl) ?_
  refine lv_iload_n hx hb dX9_like_15 rfl (lv_at hl 4 rfl) ?_
  refine nq_rdi (va_runV (As := [.int 0]) (rest := [.int 3]) ⟨hx, hb, hml, hown, hts⟩ (c_kindAt l G y H.size h0 ak av ae ad fk (hfk0)) (cwV 1 hts gX9_like_X9_kindAt rfl rfl rfl (by decide +kernel) ⟨Nat.le_of_ble_eq_true rfl, Nat.le_of_ble_eq_true rfl⟩) (nq_PV hK hP hD [0, 1] rfl rfl 0 rfl rfl) rfl rfl hl.1 rfl (lv_room (Nat.le_of_ble_eq_true rfl)) dX9_like_16 ⟨Nat.le_of_ble_eq_true rfl, Nat.le_of_ble_eq_true rfl⟩) hP hS hA (fun r_4 H locs hw_5 hP hS => ?_)
  subst hw_5
  refine lv_icmp_ne (tgt := 29) hx hb dX9_like_19 (by decide) (fun c_6 => absurd c_6 (by decide)) (fun _ => ?_)
  refine lv_iload hx hb dX9_like_22 (lv_at hl 5 rfl) ?_
  refine lv_bipush (v := 16) hx hb dX9_like_24 (by decide) ?_
  refine lv_icmp_le (tgt := 31) hx hb dX9_like_26 (by decide) (fun _ => ?_) (fun c_7 => absurd c_7 (by decide))
  refine lv_iload hx hb dX9_like_31 (lv_at hl 0 rfl) ?_
  refine lv_if_eq (tgt := 42) hx hb dX9_like_33 (by decide) (fun c_8 => absurd c_8 (by decide)) (fun _ => ?_)
  refine lv_iload hx hb dX9_like_36 (lv_at hl 0 rfl) ?_
  refine lv_iconst (v := 1) hx hb dX9_like_38 (by decide) ?_
  refine lv_icmp_ne (tgt := 61) hx hb dX9_like_39 (by decide) (fun _ => ?_) (fun c_9 => absurd c_9 (by decide))
  refine lv_aload_n hx hb dX9_like_61 rfl (lv_at hl 1 rfl) ?_
  refine lv_iload_n hx hb dX9_like_62 rfl (lv_at hl 2 rfl) ?_
  refine nq_rdi (va_runV (As := [.int 0]) (rest := []) ⟨hx, hb, hml, hown, hts⟩ (c_sizeOf l G y H.size h0 ak av ae ad ) (cwV 1 hts gX9_like_X9_sizeOf rfl rfl rfl (by decide +kernel) ⟨Nat.le_of_ble_eq_true rfl, Nat.le_of_ble_eq_true rfl⟩) (nq_PV hK hP hD [0] rfl rfl 0 rfl rfl) rfl rfl hl.1 rfl (lv_room (Nat.le_of_ble_eq_true rfl)) dX9_like_63 ⟨Nat.le_of_ble_eq_true rfl, Nat.le_of_ble_eq_true rfl⟩) hP hS hA (fun r_10 H locs hw_11 hP hS => ?_)
  subst hw_11
  refine lv_aload_n hx hb dX9_like_66 rfl (lv_at hl 3 rfl) ?_
  refine lv_iload_n hx hb dX9_like_67 rfl (lv_at hl 4 rfl) ?_
  refine nq_rdi (va_runV (As := [.int 0]) (rest := [.int 1]) ⟨hx, hb, hml, hown, hts⟩ (c_sizeOf l G y H.size h0 ak av ae ad ) (cwV 1 hts gX9_like_X9_sizeOf rfl rfl rfl (by decide +kernel) ⟨Nat.le_of_ble_eq_true rfl, Nat.le_of_ble_eq_true rfl⟩) (nq_PV hK hP hD [0] rfl rfl 0 rfl rfl) rfl rfl hl.1 rfl (lv_room (Nat.le_of_ble_eq_true rfl)) dX9_like_68 ⟨Nat.le_of_ble_eq_true rfl, Nat.le_of_ble_eq_true rfl⟩) hP hS hA (fun r_12 H locs hw_13 hP hS => ?_)
  subst hw_13
  refine lv_icmp_eq (tgt := 76) hx hb dX9_like_71 (by decide) (fun _ => ?_) (fun c_14 => absurd c_14 (by decide))
  refine lv_aload_n hx hb dX9_like_76 rfl (lv_at hl 1 rfl) ?_
  refine lv_iload_n hx hb dX9_like_77 rfl (lv_at hl 2 rfl) ?_
  refine nq_rdi (va_runV (As := [.int 0]) (rest := []) ⟨hx, hb, hml, hown, hts⟩ (c_childCount l G y H.size h0 ak av ae ad ) (cwV 1 hts gX9_like_X9_childCount rfl rfl rfl (by decide +kernel) ⟨Nat.le_of_ble_eq_true rfl, Nat.le_of_ble_eq_true rfl⟩) (nq_PV hK hP hD [0] rfl rfl 0 rfl rfl) rfl rfl hl.1 rfl (lv_room (Nat.le_of_ble_eq_true rfl)) dX9_like_78 ⟨Nat.le_of_ble_eq_true rfl, Nat.le_of_ble_eq_true rfl⟩) hP hS hA (fun r_15 H locs hw_16 hP hS => ?_)
  subst hw_16
  refine lv_istore (lv' := [(6, .int 0), (5, .int 3), (0, .ref h0), (1, .int 0), (2, .ref h0), (3, .int 0), (4, .int 0)]) hx hb dX9_like_81 hl (by decide) rfl (fun ls hl => ?_)
  refine lv_iload hx hb dX9_like_83 (lv_at hl 0 rfl) ?_
  refine lv_aload_n hx hb dX9_like_85 rfl (lv_at hl 4 rfl) ?_
  refine lv_iload_n hx hb dX9_like_86 rfl (lv_at hl 5 rfl) ?_
  refine nq_rdi (va_runV (As := [.int 0]) (rest := [.int 0]) ⟨hx, hb, hml, hown, hts⟩ (c_childCount l G y H.size h0 ak av ae ad ) (cwV 1 hts gX9_like_X9_childCount rfl rfl rfl (by decide +kernel) ⟨Nat.le_of_ble_eq_true rfl, Nat.le_of_ble_eq_true rfl⟩) (nq_PV hK hP hD [0] rfl rfl 0 rfl rfl) rfl rfl hl.1 rfl (lv_room (Nat.le_of_ble_eq_true rfl)) dX9_like_87 ⟨Nat.le_of_ble_eq_true rfl, Nat.le_of_ble_eq_true rfl⟩) hP hS hA (fun r_17 H locs hw_18 hP hS => ?_)
  subst hw_18
  refine lv_icmp_eq (tgt := 95) hx hb dX9_like_90 (by decide) (fun _ => ?_) (fun c_19 => absurd c_19 (by decide))
  refine lv_iload_n hx hb dX9_like_95 rfl (lv_at hl 3 rfl) ?_
  refine lv_iconst (v := 1) hx hb dX9_like_96 (by decide) ?_
  refine lv_iadd hx hb dX9_like_97 ?_
  refine nq_top (z := 1) (by decide) ?_
  refine lv_istore (lv' := [(7, .int 1), (6, .int 0), (5, .int 3), (0, .ref h0), (1, .int 0), (2, .ref h0), (3, .int 0), (4, .int 0)]) hx hb dX9_like_98 hl (by decide) rfl (fun ls hl => ?_)
  refine lv_iload_n hx hb dX9_like_100 rfl (lv_at hl 6 rfl) ?_
  refine lv_iconst (v := 1) hx hb dX9_like_101 (by decide) ?_
  refine lv_iadd hx hb dX9_like_102 ?_
  refine nq_top (z := 1) (by decide) ?_
  refine lv_istore (lv' := [(8, .int 1), (7, .int 1), (6, .int 0), (5, .int 3), (0, .ref h0), (1, .int 0), (2, .ref h0), (3, .int 0), (4, .int 0)]) hx hb dX9_like_103 hl (by decide) rfl (fun ls hl => ?_)
  refine lv_iconst (v := 0) hx hb dX9_like_105 (by decide) ?_
  refine lv_istore (lv' := [(9, .int 0), (8, .int 1), (7, .int 1), (6, .int 0), (5, .int 3), (0, .ref h0), (1, .int 0), (2, .ref h0), (3, .int 0), (4, .int 0)]) hx hb dX9_like_106 hl (by decide) rfl (fun ls hl => ?_)
  refine lv_iload hx hb dX9_like_108 (lv_at hl 0 rfl) ?_
  refine lv_iload hx hb dX9_like_110 (lv_at hl 3 rfl) ?_
  refine lv_icmp_ge (tgt := 183) hx hb dX9_like_112 (by decide) (fun _ => ?_) (fun c_20 => absurd c_20 (by decide))
  refine lv_iconst (v := 1) hx hb dX9_like_183 (by decide) ?_
  refine W.widen (k := 0) (n := 0) (Nat.le_of_ble_eq_true rfl) (Nat.le_of_ble_eq_true rfl) ?_
  exact W.zret (v := 1) hx hb hr (by decide) (fun t ht hW => ⟨⟨1, (), rfl, rfl, trivial⟩, hS.F ht⟩) hS.2.2 dX9_like_184

set_option maxHeartbeats 4000000 in
set_option maxRecDepth 100000 in
theorem x_ofText0 (l : Launch) (hl0 : l.stackTraces = false) (G : va_G) (y : Nat → ClassId) (sz : Nat) (h0 : Nat) (tp : Nat) (ps : Nat) (sp : Nat) (tk : Nat) (dr : Nat) (pr : Nat) (da : Nat) (nw : Nat) (im : Nat) (ac : Nat) (ke : Nat) (si : Nat) (tx : Nat) (an : Nat) (dw : Nat) (txb : Nat) (i : Int32)  : vx_Met l yX10_ofText wsX10_ofText ({ frames := 6, cells := 1, slots := 6, locals := 100 }) (nq_PX G y sz [.ref h0, .int i] [(h0, .inr (10, [.ref tp, .int 0, .int (-1), .ref ps, .ref sp, .ref tk, .ref dr, .ref pr, .ref da, .ref nw, .ref im, .int 0, .ref ac, .ref ke, .ref si, .ref tx, .ref an, .ref dw])), (tx, .inr (7, [.ref txb, .int 0]))]) (va_Qi (fun (r : Int32) (_ : Unit) => i = (-1) ∧ r = 0) (fun (u : Unit) t9 => va_P G vwCl ([]) t9.heap ∧ va_D (va_A [(h0, .inr (10, [.ref tp, .int 0, .int (-1), .ref ps, .ref sp, .ref tk, .ref dr, .ref pr, .ref da, .ref nw, .ref im, .int 0, .ref ac, .ref ke, .ref si, .ref tx, .ref an, .ref dw])), (tx, .inr (7, [.ref txb, .int 0]))] sz) ([])) (va_A [(h0, .inr (10, [.ref tp, .int 0, .int (-1), .ref ps, .ref sp, .ref tk, .ref dr, .ref pr, .ref da, .ref nw, .ref im, .int 0, .ref ac, .ref ke, .ref si, .ref tx, .ref an, .ref dw])), (tx, .inr (7, [.ref txb, .int 0]))] sz)) (vx_X (fun (_ : Unit) => True) (fun E _ _ => E = nq_NSE ∧ ¬ i = (-1)) (va_A [(h0, .inr (10, [.ref tp, .int 0, .int (-1), .ref ps, .ref sp, .ref tk, .ref dr, .ref pr, .ref da, .ref nw, .ref im, .int 0, .ref ac, .ref ke, .ref si, .ref tx, .ref an, .ref dw])), (tx, .inr (7, [.ref txb, .int 0]))] sz)) 1 6 (va_A [(h0, .inr (10, [.ref tp, .int 0, .int (-1), .ref ps, .ref sp, .ref tk, .ref dr, .ref pr, .ref da, .ref nw, .ref im, .int 0, .ref ac, .ref ke, .ref si, .ref tx, .ref an, .ref dw])), (tx, .inr (7, [.ref txb, .int 0]))] sz) := by
  refine vx_ofW (cc := cX10_ofText) (maxL := 2) (ret := (some .int)) (by decide) rfl ?_
  intro p e s m args below meth c s₁ B hml htab hv
  obtain ⟨rfl, hsz, hP, hK, hD0, hXs⟩ := hv
  have hx := B.exec
  have hb := B.bytes
  have hr := B.returns
  have hts := atoms_spec (ws := wsX10_ofText) B.pre
  have hown : s.vm.findClass RX10 = some m.cls := findClass_of_methodNamed B.named
  have hlocks := B.notSynchronized
  subst hsz
  have hD := hD0.self (sz := s.heap.size)
  generalize hAe : va_A [(h0, .inr (10, [.ref tp, .int 0, .int (-1), .ref ps, .ref sp, .ref tk, .ref dr, .ref pr, .ref da, .ref nw, .ref im, .int 0, .ref ac, .ref ke, .ref si, .ref tx, .ref an, .ref dw])), (tx, .inr (7, [.ref txb, .int 0]))] s.heap.size = A at hD hXs ⊢
  have hA : ∀ q : Nat, s.heap.size ≤ q → A q := fun q h => by rw [← hAe]; exact Or.inr h
  have hS : va_S A s.heap s.heap [] := va_S.rf
  have hP : va_P G vwCl [(h0, .inr (10, [.ref tp, .int 0, .int (-1), .ref ps, .ref sp, .ref tk, .ref dr, .ref pr, .ref da, .ref nw, .ref im, .int 0, .ref ac, .ref ke, .ref si, .ref tx, .ref an, .ref dw])), (tx, .inr (7, [.ref txb, .int 0]))] s.heap := hP
  have inX10 : ∀ w ∈ wsX100, w ∈ wsX10_ofText := by decide +kernel
  have inX7 : ∀ w ∈ wsX70, w ∈ wsX10_ofText := by decide +kernel
  have hl := lv_entry ([.ref h0, .int i]) (n := 2) (Nat.le_of_ble_eq_true rfl)
  rw [lg_entry_eq]
  generalize (lg_sl ([.ref h0, .int i]) ++ List.replicate (2 - (lg_sl ([.ref h0, .int i])).length) Slot.unset).toArray = ls at hl ⊢
  have hl : lv_has ls 2 [(0, .ref h0), (1, .int i)] := hl
  refine lv_iload_n hx hb dX10_ofText_0 rfl (lv_at hl 1 rfl) ?_
  refine lv_iconst (v := (-1)) hx hb dX10_ofText_1 (by decide) ?_
  refine lv_icmp_ne (tgt := 13) hx hb dX10_ofText_2 (by decide) (fun c_1 => ?_) (fun c_1 => ?_)
  · refine lv_iload_n hx hb dX10_ofText_13 rfl (lv_at hl 1 rfl) ?_
    refine lv_if_lt (tgt := 28) hx hb dX10_ofText_14 (by decide) (fun c_2 => ?_) (fun c_2 => ?_)
    · exact nq_throwNW (BX := fun E => E = nq_NSE ∧ ¬ i = (-1)) (text := "no such byte") hx hb hl0 hown hts (by first | exact fun w h => List.mem_cons_of_mem _ (List.mem_append_right _ h) | exact fun w h => List.mem_cons_of_mem _ (List.mem_append_left _ (List.mem_append_right _ h)) | decide +kernel) (by decide +kernel) (by decide +kernel) hXs hS (hl.1.trans hml.symm) htab hlocks (List.mem_of_getElem? (i := 6) rfl) dX10_ofText_28 dX10_ofText_31 dX10_ofText_32 dX10_ofText_35 dX10_ofText_38 (Nat.le_of_ble_eq_true rfl) (Nat.le_of_ble_eq_true rfl) (Nat.le_of_ble_eq_true rfl) (Nat.le_of_ble_eq_true rfl) (⟨rfl, c_1⟩) (Nat.le_of_ble_eq_true rfl) (Nat.le_of_ble_eq_true rfl)
    · refine lv_iload_n hx hb dX10_ofText_17 rfl (lv_at hl 1 rfl) ?_
      refine lv_aload_n hx hb dX10_ofText_18 rfl (lv_at hl 0 rfl) ?_
      refine va_get (D := G) (ci := 10) (v := .ref tx) (C := RX10) (T := TX10) (N := 18) hx hb hts inX10 hown hK.1 hP 0 rfl rfl 15 (by decide) (hts (.fieldLink RX10 92 "NestQuery" "text" "LNestQuery$TextOut;") (by decide +kernel)) (fun _ h9 => h9) rfl dX10_ofText_19 ?_
      refine va_getN (D := G) (ci := 7) (v := .int 0) (C := RX7) (T := TX7) (N := 2) hx hb hts inX7 hown hK.1 hP 1 rfl rfl 1 (by decide) (va_Nw.use rfl (hK.2.1.1 _ (List.mem_of_getElem? (i := 19) rfl))) (fun _ h9 => h9) rfl dX10_ofText_22 ?_
      refine lv_icmp_lt (tgt := 39) hx hb dX10_ofText_25 (by decide) (fun c_3 => absurd c_3 (nq_nlt c_2 (by decide))) (fun _ => ?_)
      exact nq_throwNW (BX := fun E => E = nq_NSE ∧ ¬ i = (-1)) (text := "no such byte") hx hb hl0 hown hts (by first | exact fun w h => List.mem_cons_of_mem _ (List.mem_append_right _ h) | exact fun w h => List.mem_cons_of_mem _ (List.mem_append_left _ (List.mem_append_right _ h)) | decide +kernel) (by decide +kernel) (by decide +kernel) hXs hS (hl.1.trans hml.symm) htab hlocks (List.mem_of_getElem? (i := 6) rfl) dX10_ofText_28 dX10_ofText_31 dX10_ofText_32 dX10_ofText_35 dX10_ofText_38 (Nat.le_of_ble_eq_true rfl) (Nat.le_of_ble_eq_true rfl) (Nat.le_of_ble_eq_true rfl) (Nat.le_of_ble_eq_true rfl) (⟨rfl, c_1⟩) (Nat.le_of_ble_eq_true rfl) (Nat.le_of_ble_eq_true rfl)
  · subst c_1
    refine lv_aload_n hx hb dX10_ofText_5 rfl (lv_at hl 0 rfl) ?_
    refine va_get (D := G) (ci := 10) (v := .ref tx) (C := RX10) (T := TX10) (N := 18) hx hb hts inX10 hown hK.1 hP 0 rfl rfl 15 (by decide) (hts (.fieldLink RX10 92 "NestQuery" "text" "LNestQuery$TextOut;") (by decide +kernel)) (fun _ h9 => h9) rfl dX10_ofText_6 ?_
    refine va_getN (D := G) (ci := 7) (v := .int 0) (C := RX7) (T := TX7) (N := 2) hx hb hts inX7 hown hK.1 hP 1 rfl rfl 1 (by decide) (va_Nw.use rfl (hK.2.1.1 _ (List.mem_of_getElem? (i := 19) rfl))) (fun _ h9 => h9) rfl dX10_ofText_9 ?_
    have hP9 := hP.sub (ws' := []) [] rfl
    have hD9 := hD.sub (ws' := []) [] (by decide) rfl
    refine vx_ret ?_
    refine W.widen (k := 1) (n := 6) (Nat.le_of_ble_eq_true rfl) (Nat.le_of_ble_eq_true rfl) ?_
    exact W.iret (v := 0) hx hb hr (fun t ht hW => ⟨⟨0, (), rfl, ⟨by decide, rfl⟩, by rw [ht]; exact hP9, by first | exact hD9 | (rw [hAe]; exact hD9)⟩, hS.F ht⟩) hS.2.2 dX10_ofText_12

set_option maxHeartbeats 4000000 in
set_option maxRecDepth 100000 in
theorem x_ofText2 (l : Launch) (hl0 : l.stackTraces = false) (G : va_G) (y : Nat → ClassId) (sz : Nat) (h0 : Nat) (tp : Nat) (ps : Nat) (sp : Nat) (tk : Nat) (dr : Nat) (pr : Nat) (da : Nat) (nw : Nat) (im : Nat) (ac : Nat) (ke : Nat) (si : Nat) (tx : Nat) (an : Nat) (dw : Nat) (txb : Nat) (i : Int32)  : vx_Met l yX10_ofText wsX10_ofText ({ frames := 6, cells := 1, slots := 6, locals := 100 }) (nq_PX G y sz [.ref h0, .int i] [(h0, .inr (10, [.ref tp, .int 0, .int (-1), .ref ps, .ref sp, .ref tk, .ref dr, .ref pr, .ref da, .ref nw, .ref im, .int 0, .ref ac, .ref ke, .ref si, .ref tx, .ref an, .ref dw])), (tx, .inr (7, [.ref txb, .int 2])), (txb, .inl (y 0, 1024, .inl (upd (upd (fun _ => 0) 0 123) 1 125)))]) (va_Qi (fun (r : Int32) (_ : Unit) => (i = (-1) ∧ r = 2) ∨ (i = 0 ∧ r = 123) ∨ (i = 1 ∧ r = 125)) (fun (u : Unit) t9 => va_P G vwCl ([]) t9.heap ∧ va_D (va_A [(h0, .inr (10, [.ref tp, .int 0, .int (-1), .ref ps, .ref sp, .ref tk, .ref dr, .ref pr, .ref da, .ref nw, .ref im, .int 0, .ref ac, .ref ke, .ref si, .ref tx, .ref an, .ref dw])), (tx, .inr (7, [.ref txb, .int 2])), (txb, .inl (y 0, 1024, .inl (upd (upd (fun _ => 0) 0 123) 1 125)))] sz) ([])) (va_A [(h0, .inr (10, [.ref tp, .int 0, .int (-1), .ref ps, .ref sp, .ref tk, .ref dr, .ref pr, .ref da, .ref nw, .ref im, .int 0, .ref ac, .ref ke, .ref si, .ref tx, .ref an, .ref dw])), (tx, .inr (7, [.ref txb, .int 2])), (txb, .inl (y 0, 1024, .inl (upd (upd (fun _ => 0) 0 123) 1 125)))] sz)) (vx_X (fun (_ : Unit) => True) (fun E _ _ => E = nq_NSE ∧ ¬ i = (-1) ∧ ¬ i = 0 ∧ ¬ i = 1) (va_A [(h0, .inr (10, [.ref tp, .int 0, .int (-1), .ref ps, .ref sp, .ref tk, .ref dr, .ref pr, .ref da, .ref nw, .ref im, .int 0, .ref ac, .ref ke, .ref si, .ref tx, .ref an, .ref dw])), (tx, .inr (7, [.ref txb, .int 2])), (txb, .inl (y 0, 1024, .inl (upd (upd (fun _ => 0) 0 123) 1 125)))] sz)) 1 6 (va_A [(h0, .inr (10, [.ref tp, .int 0, .int (-1), .ref ps, .ref sp, .ref tk, .ref dr, .ref pr, .ref da, .ref nw, .ref im, .int 0, .ref ac, .ref ke, .ref si, .ref tx, .ref an, .ref dw])), (tx, .inr (7, [.ref txb, .int 2])), (txb, .inl (y 0, 1024, .inl (upd (upd (fun _ => 0) 0 123) 1 125)))] sz) := by
  refine vx_ofW (cc := cX10_ofText) (maxL := 2) (ret := (some .int)) (by decide) rfl ?_
  intro p e s m args below meth c s₁ B hml htab hv
  obtain ⟨rfl, hsz, hP, hK, hD0, hXs⟩ := hv
  have hx := B.exec
  have hb := B.bytes
  have hr := B.returns
  have hts := atoms_spec (ws := wsX10_ofText) B.pre
  have hown : s.vm.findClass RX10 = some m.cls := findClass_of_methodNamed B.named
  have hlocks := B.notSynchronized
  subst hsz
  have hD := hD0.self (sz := s.heap.size)
  generalize hAe : va_A [(h0, .inr (10, [.ref tp, .int 0, .int (-1), .ref ps, .ref sp, .ref tk, .ref dr, .ref pr, .ref da, .ref nw, .ref im, .int 0, .ref ac, .ref ke, .ref si, .ref tx, .ref an, .ref dw])), (tx, .inr (7, [.ref txb, .int 2])), (txb, .inl (y 0, 1024, .inl (upd (upd (fun _ => 0) 0 123) 1 125)))] s.heap.size = A at hD hXs ⊢
  have hA : ∀ q : Nat, s.heap.size ≤ q → A q := fun q h => by rw [← hAe]; exact Or.inr h
  have hS : va_S A s.heap s.heap [] := va_S.rf
  have hP : va_P G vwCl [(h0, .inr (10, [.ref tp, .int 0, .int (-1), .ref ps, .ref sp, .ref tk, .ref dr, .ref pr, .ref da, .ref nw, .ref im, .int 0, .ref ac, .ref ke, .ref si, .ref tx, .ref an, .ref dw])), (tx, .inr (7, [.ref txb, .int 2])), (txb, .inl (y 0, 1024, .inl (upd (upd (fun _ => 0) 0 123) 1 125)))] s.heap := hP
  have inX10 : ∀ w ∈ wsX100, w ∈ wsX10_ofText := by decide +kernel
  have inX7 : ∀ w ∈ wsX70, w ∈ wsX10_ofText := by decide +kernel
  have hl := lv_entry ([.ref h0, .int i]) (n := 2) (Nat.le_of_ble_eq_true rfl)
  rw [lg_entry_eq]
  generalize (lg_sl ([.ref h0, .int i]) ++ List.replicate (2 - (lg_sl ([.ref h0, .int i])).length) Slot.unset).toArray = ls at hl ⊢
  have hl : lv_has ls 2 [(0, .ref h0), (1, .int i)] := hl
  refine lv_iload_n hx hb dX10_ofText_0 rfl (lv_at hl 1 rfl) ?_
  refine lv_iconst (v := (-1)) hx hb dX10_ofText_1 (by decide) ?_
  refine lv_icmp_ne (tgt := 13) hx hb dX10_ofText_2 (by decide) (fun c_1 => ?_) (fun c_1 => ?_)
  · refine lv_iload_n hx hb dX10_ofText_13 rfl (lv_at hl 1 rfl) ?_
    refine lv_if_lt (tgt := 28) hx hb dX10_ofText_14 (by decide) (fun c_2 => ?_) (fun c_2 => ?_)
    · exact nq_throwNW (BX := fun E => E = nq_NSE ∧ ¬ i = (-1) ∧ ¬ i = 0 ∧ ¬ i = 1) (text := "no such byte") hx hb hl0 hown hts (by first | exact fun w h => List.mem_cons_of_mem _ (List.mem_append_right _ h) | exact fun w h => List.mem_cons_of_mem _ (List.mem_append_left _ (List.mem_append_right _ h)) | decide +kernel) (by decide +kernel) (by decide +kernel) hXs hS (hl.1.trans hml.symm) htab hlocks (List.mem_of_getElem? (i := 6) rfl) dX10_ofText_28 dX10_ofText_31 dX10_ofText_32 dX10_ofText_35 dX10_ofText_38 (Nat.le_of_ble_eq_true rfl) (Nat.le_of_ble_eq_true rfl) (Nat.le_of_ble_eq_true rfl) (Nat.le_of_ble_eq_true rfl) (⟨rfl, c_1, nq_xeU (nq_hlt c_2 (j := (-1)) (by decide)) (by decide), nq_xeU (nq_hlt c_2 (j := (-1)) (by decide)) (by decide)⟩) (Nat.le_of_ble_eq_true rfl) (Nat.le_of_ble_eq_true rfl)
    · refine lv_iload_n hx hb dX10_ofText_17 rfl (lv_at hl 1 rfl) ?_
      refine lv_aload_n hx hb dX10_ofText_18 rfl (lv_at hl 0 rfl) ?_
      refine va_get (D := G) (ci := 10) (v := .ref tx) (C := RX10) (T := TX10) (N := 18) hx hb hts inX10 hown hK.1 hP 0 rfl rfl 15 (by decide) (hts (.fieldLink RX10 92 "NestQuery" "text" "LNestQuery$TextOut;") (by decide +kernel)) (fun _ h9 => h9) rfl dX10_ofText_19 ?_
      refine va_getN (D := G) (ci := 7) (v := .int 2) (C := RX7) (T := TX7) (N := 2) hx hb hts inX7 hown hK.1 hP 1 rfl rfl 1 (by decide) (va_Nw.use rfl (hK.2.1.1 _ (List.mem_of_getElem? (i := 19) rfl))) (fun _ h9 => h9) rfl dX10_ofText_22 ?_
      refine lv_icmp_lt (tgt := 39) hx hb dX10_ofText_25 (by decide) (fun c_3 => ?_) (fun c_3 => ?_)
      · by_cases c_4 : i = 0
        · subst c_4
          refine lv_aload_n hx hb dX10_ofText_39 rfl (lv_at hl 0 rfl) ?_
          refine va_get (D := G) (ci := 10) (v := .ref tx) (C := RX10) (T := TX10) (N := 18) hx hb hts inX10 hown hK.1 hP 0 rfl rfl 15 (by decide) (hts (.fieldLink RX10 92 "NestQuery" "text" "LNestQuery$TextOut;") (by decide +kernel)) (fun _ h9 => h9) rfl dX10_ofText_40 ?_
          refine lv_iload_n hx hb dX10_ofText_43 rfl (lv_at hl 1 rfl) ?_
          refine nq_rdi (va_runV (As := [.int 0]) (rest := []) ⟨hx, hb, hml, hown, hts⟩ (c_byteAt0 l G y s.heap.size tx txb ) (cwV 1 hts gX10_ofText_X7_byteAt rfl rfl rfl (by decide +kernel) ⟨Nat.le_of_ble_eq_true rfl, Nat.le_of_ble_eq_true rfl⟩) (nq_PV hK hP hD [1, 2] rfl rfl 1 rfl rfl) rfl rfl hl.1 rfl (lv_room (Nat.le_of_ble_eq_true rfl)) dX10_ofText_44 ⟨Nat.le_of_ble_eq_true rfl, Nat.le_of_ble_eq_true rfl⟩) hP hS hA (fun r_5 H locs hw_6 hP hS => ?_)
          subst hw_6
          have hP9 := hP.sub (ws' := []) [] rfl
          have hD9 := hD.sub (ws' := []) [] (by decide) rfl
          refine vx_ret ?_
          refine W.widen (k := 1) (n := 6) (Nat.le_of_ble_eq_true rfl) (Nat.le_of_ble_eq_true rfl) ?_
          exact W.iret (v := 123) hx hb hr (fun t ht hW => ⟨⟨123, (), rfl, Or.inr (Or.inl (⟨by decide, rfl⟩)), by rw [ht]; exact hP9, by first | exact hD9 | (rw [hAe]; exact hD9)⟩, hS.F ht⟩) hS.2.2 dX10_ofText_47
        · have e_7 : i = 1 := nq_pin 1 (nq_up c_2 c_4 (by decide)) (nq_hlt c_3 (j := 1) (by decide))
          subst e_7
          refine lv_aload_n hx hb dX10_ofText_39 rfl (lv_at hl 0 rfl) ?_
          refine va_get (D := G) (ci := 10) (v := .ref tx) (C := RX10) (T := TX10) (N := 18) hx hb hts inX10 hown hK.1 hP 0 rfl rfl 15 (by decide) (hts (.fieldLink RX10 92 "NestQuery" "text" "LNestQuery$TextOut;") (by decide +kernel)) (fun _ h9 => h9) rfl dX10_ofText_40 ?_
          refine lv_iload_n hx hb dX10_ofText_43 rfl (lv_at hl 1 rfl) ?_
          refine nq_rdi (va_runV (As := [.int 1]) (rest := []) ⟨hx, hb, hml, hown, hts⟩ (c_byteAt1 l G y s.heap.size tx txb ) (cwV 1 hts gX10_ofText_X7_byteAt rfl rfl rfl (by decide +kernel) ⟨Nat.le_of_ble_eq_true rfl, Nat.le_of_ble_eq_true rfl⟩) (nq_PV hK hP hD [1, 2] rfl rfl 1 rfl rfl) rfl rfl hl.1 rfl (lv_room (Nat.le_of_ble_eq_true rfl)) dX10_ofText_44 ⟨Nat.le_of_ble_eq_true rfl, Nat.le_of_ble_eq_true rfl⟩) hP hS hA (fun r_8 H locs hw_9 hP hS => ?_)
          subst hw_9
          have hP9 := hP.sub (ws' := []) [] rfl
          have hD9 := hD.sub (ws' := []) [] (by decide) rfl
          refine vx_ret ?_
          refine W.widen (k := 1) (n := 6) (Nat.le_of_ble_eq_true rfl) (Nat.le_of_ble_eq_true rfl) ?_
          exact W.iret (v := 125) hx hb hr (fun t ht hW => ⟨⟨125, (), rfl, Or.inr (Or.inr (⟨by decide, rfl⟩)), by rw [ht]; exact hP9, by first | exact hD9 | (rw [hAe]; exact hD9)⟩, hS.F ht⟩) hS.2.2 dX10_ofText_47
      · exact nq_throwNW (BX := fun E => E = nq_NSE ∧ ¬ i = (-1) ∧ ¬ i = 0 ∧ ¬ i = 1) (text := "no such byte") hx hb hl0 hown hts (by first | exact fun w h => List.mem_cons_of_mem _ (List.mem_append_right _ h) | exact fun w h => List.mem_cons_of_mem _ (List.mem_append_left _ (List.mem_append_right _ h)) | decide +kernel) (by decide +kernel) (by decide +kernel) hXs hS (hl.1.trans hml.symm) htab hlocks (List.mem_of_getElem? (i := 6) rfl) dX10_ofText_28 dX10_ofText_31 dX10_ofText_32 dX10_ofText_35 dX10_ofText_38 (Nat.le_of_ble_eq_true rfl) (Nat.le_of_ble_eq_true rfl) (Nat.le_of_ble_eq_true rfl) (Nat.le_of_ble_eq_true rfl) (⟨rfl, c_1, nq_xeL c_3 (by decide), nq_xeL c_3 (by decide)⟩) (Nat.le_of_ble_eq_true rfl) (Nat.le_of_ble_eq_true rfl)
  · subst c_1
    refine lv_aload_n hx hb dX10_ofText_5 rfl (lv_at hl 0 rfl) ?_
    refine va_get (D := G) (ci := 10) (v := .ref tx) (C := RX10) (T := TX10) (N := 18) hx hb hts inX10 hown hK.1 hP 0 rfl rfl 15 (by decide) (hts (.fieldLink RX10 92 "NestQuery" "text" "LNestQuery$TextOut;") (by decide +kernel)) (fun _ h9 => h9) rfl dX10_ofText_6 ?_
    refine va_getN (D := G) (ci := 7) (v := .int 2) (C := RX7) (T := TX7) (N := 2) hx hb hts inX7 hown hK.1 hP 1 rfl rfl 1 (by decide) (va_Nw.use rfl (hK.2.1.1 _ (List.mem_of_getElem? (i := 19) rfl))) (fun _ h9 => h9) rfl dX10_ofText_9 ?_
    have hP9 := hP.sub (ws' := []) [] rfl
    have hD9 := hD.sub (ws' := []) [] (by decide) rfl
    refine vx_ret ?_
    refine W.widen (k := 1) (n := 6) (Nat.le_of_ble_eq_true rfl) (Nat.le_of_ble_eq_true rfl) ?_
    exact W.iret (v := 2) hx hb hr (fun t ht hW => ⟨⟨2, (), rfl, Or.inl (⟨by decide, rfl⟩), by rw [ht]; exact hP9, by first | exact hD9 | (rw [hAe]; exact hD9)⟩, hS.F ht⟩) hS.2.2 dX10_ofText_12

set_option maxHeartbeats 4000000 in
set_option maxRecDepth 100000 in
theorem x_mustBeThere (l : Launch) (hl0 : l.stackTraces = false) (G : va_G) (y : Nat → ClassId) (sz : Nat) (h0 : Nat) (tp : Nat) (ps : Nat) (sp : Nat) (tk : Nat) (dr : Nat) (pr : Nat) (da : Nat) (nw : Nat) (im : Nat) (ac : Nat) (ke : Nat) (si : Nat) (tx : Nat) (an : Nat) (dw : Nat) (nwt : Nat) (nwb : Nat) (nwn : Nat) (nwi : Nat) (nwr : Nat) (nwtk : Nat) (nwtv : Nat) (nwte : Nat) (nwtd : Nat) (i : Int32)  : vx_Met l yX10_mustBeThere wsX10_mustBeThere ({ frames := 6, cells := 1, slots := 6, locals := 100 }) (nq_PX G y sz [.ref h0, .int i] [(h0, .inr (10, [.ref tp, .int 0, .int (-1), .ref ps, .ref sp, .ref tk, .ref dr, .ref pr, .ref da, .ref nw, .ref im, .int 0, .ref ac, .ref ke, .ref si, .ref tx, .ref an, .ref dw])), (nw, .inr (6, [.ref nwt, .ref nwb, .int 0, .ref nwn, .ref nwi, .int 0, .ref nwr])), (nwt, .inr (9, [.ref nwtk, .ref nwtv, .ref nwte, .ref nwtd, .int 1])), (nwtk, .inl (y 0, 60, .inl (upd (fun _ => 0) 0 3)))]) (va_Qv (fun (_ : Unit) => i = 0) (fun (u : Unit) t9 => va_P G vwCl ([(h0, .inr (10, [.ref tp, .int 0, .int (-1), .ref ps, .ref sp, .ref tk, .ref dr, .ref pr, .ref da, .ref nw, .ref im, .int 0, .ref ac, .ref ke, .ref si, .ref tx, .ref an, .ref dw])), (nw, .inr (6, [.ref nwt, .ref nwb, .int 0, .ref nwn, .ref nwi, .int 0, .ref nwr])), (nwt, .inr (9, [.ref nwtk, .ref nwtv, .ref nwte, .ref nwtd, .int 1])), (nwtk, .inl (y 0, 60, .inl (upd (fun _ => 0) 0 3)))]) t9.heap ∧ va_D (va_A [(h0, .inr (10, [.ref tp, .int 0, .int (-1), .ref ps, .ref sp, .ref tk, .ref dr, .ref pr, .ref da, .ref nw, .ref im, .int 0, .ref ac, .ref ke, .ref si, .ref tx, .ref an, .ref dw])), (nw, .inr (6, [.ref nwt, .ref nwb, .int 0, .ref nwn, .ref nwi, .int 0, .ref nwr])), (nwt, .inr (9, [.ref nwtk, .ref nwtv, .ref nwte, .ref nwtd, .int 1])), (nwtk, .inl (y 0, 60, .inl (upd (fun _ => 0) 0 3)))] sz) ([(h0, .inr (10, [.ref tp, .int 0, .int (-1), .ref ps, .ref sp, .ref tk, .ref dr, .ref pr, .ref da, .ref nw, .ref im, .int 0, .ref ac, .ref ke, .ref si, .ref tx, .ref an, .ref dw])), (nw, .inr (6, [.ref nwt, .ref nwb, .int 0, .ref nwn, .ref nwi, .int 0, .ref nwr])), (nwt, .inr (9, [.ref nwtk, .ref nwtv, .ref nwte, .ref nwtd, .int 1])), (nwtk, .inl (y 0, 60, .inl (upd (fun _ => 0) 0 3)))])) (va_A [(h0, .inr (10, [.ref tp, .int 0, .int (-1), .ref ps, .ref sp, .ref tk, .ref dr, .ref pr, .ref da, .ref nw, .ref im, .int 0, .ref ac, .ref ke, .ref si, .ref tx, .ref an, .ref dw])), (nw, .inr (6, [.ref nwt, .ref nwb, .int 0, .ref nwn, .ref nwi, .int 0, .ref nwr])), (nwt, .inr (9, [.ref nwtk, .ref nwtv, .ref nwte, .ref nwtd, .int 1])), (nwtk, .inl (y 0, 60, .inl (upd (fun _ => 0) 0 3)))] sz)) (vx_X (fun (_ : Unit) => True) (fun E _ _ => E = nq_NSE ∧ ¬ i = 0) (va_A [(h0, .inr (10, [.ref tp, .int 0, .int (-1), .ref ps, .ref sp, .ref tk, .ref dr, .ref pr, .ref da, .ref nw, .ref im, .int 0, .ref ac, .ref ke, .ref si, .ref tx, .ref an, .ref dw])), (nw, .inr (6, [.ref nwt, .ref nwb, .int 0, .ref nwn, .ref nwi, .int 0, .ref nwr])), (nwt, .inr (9, [.ref nwtk, .ref nwtv, .ref nwte, .ref nwtd, .int 1])), (nwtk, .inl (y 0, 60, .inl (upd (fun _ => 0) 0 3)))] sz)) 1 6 (va_A [(h0, .inr (10, [.ref tp, .int 0, .int (-1), .ref ps, .ref sp, .ref tk, .ref dr, .ref pr, .ref da, .ref nw, .ref im, .int 0, .ref ac, .ref ke, .ref si, .ref tx, .ref an, .ref dw])), (nw, .inr (6, [.ref nwt, .ref nwb, .int 0, .ref nwn, .ref nwi, .int 0, .ref nwr])), (nwt, .inr (9, [.ref nwtk, .ref nwtv, .ref nwte, .ref nwtd, .int 1])), (nwtk, .inl (y 0, 60, .inl (upd (fun _ => 0) 0 3)))] sz) := by
  refine vx_ofW (cc := cX10_mustBeThere) (maxL := 2) (ret := none) (by decide) rfl ?_
  intro p e s m args below meth c s₁ B hml htab hv
  obtain ⟨rfl, hsz, hP, hK, hD0, hXs⟩ := hv
  have hx := B.exec
  have hb := B.bytes
  have hr := B.returns
  have hts := atoms_spec (ws := wsX10_mustBeThere) B.pre
  have hown : s.vm.findClass RX10 = some m.cls := findClass_of_methodNamed B.named
  have hlocks := B.notSynchronized
  subst hsz
  have hD := hD0.self (sz := s.heap.size)
  generalize hAe : va_A [(h0, .inr (10, [.ref tp, .int 0, .int (-1), .ref ps, .ref sp, .ref tk, .ref dr, .ref pr, .ref da, .ref nw, .ref im, .int 0, .ref ac, .ref ke, .ref si, .ref tx, .ref an, .ref dw])), (nw, .inr (6, [.ref nwt, .ref nwb, .int 0, .ref nwn, .ref nwi, .int 0, .ref nwr])), (nwt, .inr (9, [.ref nwtk, .ref nwtv, .ref nwte, .ref nwtd, .int 1])), (nwtk, .inl (y 0, 60, .inl (upd (fun _ => 0) 0 3)))] s.heap.size = A at hD hXs ⊢
  have hA : ∀ q : Nat, s.heap.size ≤ q → A q := fun q h => by rw [← hAe]; exact Or.inr h
  have hS : va_S A s.heap s.heap [] := va_S.rf
  have hP : va_P G vwCl [(h0, .inr (10, [.ref tp, .int 0, .int (-1), .ref ps, .ref sp, .ref tk, .ref dr, .ref pr, .ref da, .ref nw, .ref im, .int 0, .ref ac, .ref ke, .ref si, .ref tx, .ref an, .ref dw])), (nw, .inr (6, [.ref nwt, .ref nwb, .int 0, .ref nwn, .ref nwi, .int 0, .ref nwr])), (nwt, .inr (9, [.ref nwtk, .ref nwtv, .ref nwte, .ref nwtd, .int 1])), (nwtk, .inl (y 0, 60, .inl (upd (fun _ => 0) 0 3)))] s.heap := hP
  have inX10 : ∀ w ∈ wsX100, w ∈ wsX10_mustBeThere := by decide +kernel
  have inX6 : ∀ w ∈ wsX60, w ∈ wsX10_mustBeThere := by decide +kernel
  have hl := lv_entry ([.ref h0, .int i]) (n := 2) (Nat.le_of_ble_eq_true rfl)
  rw [lg_entry_eq]
  generalize (lg_sl ([.ref h0, .int i]) ++ List.replicate (2 - (lg_sl ([.ref h0, .int i])).length) Slot.unset).toArray = ls at hl ⊢
  have hl : lv_has ls 2 [(0, .ref h0), (1, .int i)] := hl
  refine lv_aload_n hx hb dX10_mustBeThere_0 rfl (lv_at hl 0 rfl) ?_
  refine va_get (D := G) (ci := 10) (v := .ref nw) (C := RX10) (T := TX10) (N := 18) hx hb hts inX10 hown hK.1 hP 0 rfl rfl 9 (by decide) (hts (.fieldLink RX10 63 "NestQuery" "now" "LNestQuery$State;") (by decide +kernel)) (fun _ h9 => h9) rfl dX10_mustBeThere_1 ?_
  refine va_getN (D := G) (ci := 6) (v := .ref nwt) (C := RX6) (T := TX6) (N := 7) hx hb hts inX6 hown hK.1 hP 1 rfl rfl 0 (by decide) (va_Nw.use rfl (hK.2.1.1 _ (List.mem_of_getElem? (i := 13) rfl))) (fun _ h9 => h9) rfl dX10_mustBeThere_4 ?_
  refine lv_iload_n hx hb dX10_mustBeThere_7 rfl (lv_at hl 1 rfl) ?_
  refine nq_rdi (va_runV (As := [.int i]) (rest := []) ⟨hx, hb, hml, hown, hts⟩ (c_has l G y s.heap.size nwt nwtk nwtv nwte nwtd (upd (fun _ => 0) 0 3) i (pk_us)) (cwV 1 hts gX10_mustBeThere_X9_has rfl rfl rfl (by decide +kernel) ⟨Nat.le_of_ble_eq_true rfl, Nat.le_of_ble_eq_true rfl⟩) (nq_PV hK hP hD [2, 3] rfl rfl 2 rfl rfl) rfl rfl hl.1 rfl (lv_room (Nat.le_of_ble_eq_true rfl)) dX10_mustBeThere_8 ⟨Nat.le_of_ble_eq_true rfl, Nat.le_of_ble_eq_true rfl⟩) hP hS hA (fun r_1 H locs hw_2 hP hS => ?_)
  rcases hw_2 with ⟨c_3, hr_4⟩ | ⟨c_5, hr_6⟩
  · subst c_3
    subst hr_4
    refine lv_if_ne (tgt := 25) hx hb dX10_mustBeThere_11 (by decide) (fun _ => ?_) (fun c_7 => absurd c_7 (by decide))
    have hP9 := hP.sub (ws' := [(h0, .inr (10, [.ref tp, .int 0, .int (-1), .ref ps, .ref sp, .ref tk, .ref dr, .ref pr, .ref da, .ref nw, .ref im, .int 0, .ref ac, .ref ke, .ref si, .ref tx, .ref an, .ref dw])), (nw, .inr (6, [.ref nwt, .ref nwb, .int 0, .ref nwn, .ref nwi, .int 0, .ref nwr])), (nwt, .inr (9, [.ref nwtk, .ref nwtv, .ref nwte, .ref nwtd, .int 1])), (nwtk, .inl (y 0, 60, .inl (upd (fun _ => 0) 0 3)))]) [0, 1, 2, 3] rfl
    have hD9 := hD.sub (ws' := [(h0, .inr (10, [.ref tp, .int 0, .int (-1), .ref ps, .ref sp, .ref tk, .ref dr, .ref pr, .ref da, .ref nw, .ref im, .int 0, .ref ac, .ref ke, .ref si, .ref tx, .ref an, .ref dw])), (nw, .inr (6, [.ref nwt, .ref nwb, .int 0, .ref nwn, .ref nwi, .int 0, .ref nwr])), (nwt, .inr (9, [.ref nwtk, .ref nwtv, .ref nwte, .ref nwtd, .int 1])), (nwtk, .inl (y 0, 60, .inl (upd (fun _ => 0) 0 3)))]) [0, 1, 2, 3] (by decide) rfl
    refine vx_ret ?_
    refine W.widen (k := 1) (n := 6) (Nat.le_of_ble_eq_true rfl) (Nat.le_of_ble_eq_true rfl) ?_
    exact W.vret hx hb hr (fun t ht hW => ⟨⟨(), rfl, by decide, by rw [ht]; exact hP9, by first | exact hD9 | (rw [hAe]; exact hD9)⟩, hS.F ht⟩) hS.2.2 dX10_mustBeThere_25
  · subst hr_6
    refine lv_if_ne (tgt := 25) hx hb dX10_mustBeThere_11 (by decide) (fun c_8 => absurd c_8 (by decide)) (fun _ => ?_)
    exact nq_throwNW (BX := fun E => E = nq_NSE ∧ ¬ i = 0) (text := "no such thing") hx hb hl0 hown hts (by first | exact fun w h => List.mem_cons_of_mem _ (List.mem_append_right _ h) | exact fun w h => List.mem_cons_of_mem _ (List.mem_append_left _ (List.mem_append_right _ h)) | decide +kernel) (by decide +kernel) (by decide +kernel) hXs hS (hl.1.trans hml.symm) htab hlocks (List.mem_of_getElem? (i := 3) rfl) dX10_mustBeThere_14 dX10_mustBeThere_17 dX10_mustBeThere_18 dX10_mustBeThere_21 dX10_mustBeThere_24 (Nat.le_of_ble_eq_true rfl) (Nat.le_of_ble_eq_true rfl) (Nat.le_of_ble_eq_true rfl) (Nat.le_of_ble_eq_true rfl) (⟨rfl, c_5⟩) (Nat.le_of_ble_eq_true rfl) (Nat.le_of_ble_eq_true rfl)

set_option maxHeartbeats 4000000 in
set_option maxRecDepth 100000 in
theorem x_count (l : Launch) (hl0 : l.stackTraces = false) (G : va_G) (y : Nat → ClassId) (sz : Nat) (h0 : Nat) (tp : Nat) (ps : Nat) (sp : Nat) (tk : Nat) (dr : Nat) (pr : Nat) (da : Nat) (nw : Nat) (im : Nat) (ac : Nat) (ke : Nat) (si : Nat) (tx : Nat) (an : Nat) (dw : Nat) (nwt : Nat) (nwb : Nat) (nwn : Nat) (nwi : Nat) (nwr : Nat) (nwtk : Nat) (nwtv : Nat) (nwte : Nat) (nwtd : Nat) (ke1 : Nat) (ke2 : Nat) (ke3 : Nat) (ke4 : Nat) (i : Int32)  : vx_Met l yX10_count wsX10_count ({ frames := 6, cells := 1, slots := 6, locals := 100 }) (nq_PX G y sz [.ref h0, .int i] [(h0, .inr (10, [.ref tp, .int 0, .int (-1), .ref ps, .ref sp, .ref tk, .ref dr, .ref pr, .ref da, .ref nw, .ref im, .int 0, .ref ac, .ref ke, .ref si, .ref tx, .ref an, .ref dw])), (nw, .inr (6, [.ref nwt, .ref nwb, .int 0, .ref nwn, .ref nwi, .int 0, .ref nwr])), (nwt, .inr (9, [.ref nwtk, .ref nwtv, .ref nwte, .ref nwtd, .int 1])), (nwtk, .inl (y 0, 60, .inl (upd (fun _ => 0) 0 3))), (nwtd, .inl (y 0, 60, .inl (upd (fun _ => 0) 0 0))), (ps, .inl (y 3, 4, .inr (.inr (.inr (.inr (fun _ => none)))))), (an, .inl (y 1, 4, .inr (.inl (fun _ => 0)))), (ke, .inr (3, [.ref ke1, .ref ke2, .ref ke3, .ref ke4, .int 0])), (nwr, .inl (y 0, 3, .inl (fun _ => 0)))]) (va_Qi (fun (r : Int32) (_ : Unit) => (sp_count i).1 = 0 ∧ r = (sp_count i).2) (fun (u : Unit) t9 => va_P G vwCl ([]) t9.heap ∧ va_D (va_A [(h0, .inr (10, [.ref tp, .int 0, .int (-1), .ref ps, .ref sp, .ref tk, .ref dr, .ref pr, .ref da, .ref nw, .ref im, .int 0, .ref ac, .ref ke, .ref si, .ref tx, .ref an, .ref dw])), (nw, .inr (6, [.ref nwt, .ref nwb, .int 0, .ref nwn, .ref nwi, .int 0, .ref nwr])), (nwt, .inr (9, [.ref nwtk, .ref nwtv, .ref nwte, .ref nwtd, .int 1])), (nwtk, .inl (y 0, 60, .inl (upd (fun _ => 0) 0 3))), (nwtd, .inl (y 0, 60, .inl (upd (fun _ => 0) 0 0))), (ps, .inl (y 3, 4, .inr (.inr (.inr (.inr (fun _ => none)))))), (an, .inl (y 1, 4, .inr (.inl (fun _ => 0)))), (ke, .inr (3, [.ref ke1, .ref ke2, .ref ke3, .ref ke4, .int 0])), (nwr, .inl (y 0, 3, .inl (fun _ => 0)))] sz) ([])) (va_A [(h0, .inr (10, [.ref tp, .int 0, .int (-1), .ref ps, .ref sp, .ref tk, .ref dr, .ref pr, .ref da, .ref nw, .ref im, .int 0, .ref ac, .ref ke, .ref si, .ref tx, .ref an, .ref dw])), (nw, .inr (6, [.ref nwt, .ref nwb, .int 0, .ref nwn, .ref nwi, .int 0, .ref nwr])), (nwt, .inr (9, [.ref nwtk, .ref nwtv, .ref nwte, .ref nwtd, .int 1])), (nwtk, .inl (y 0, 60, .inl (upd (fun _ => 0) 0 3))), (nwtd, .inl (y 0, 60, .inl (upd (fun _ => 0) 0 0))), (ps, .inl (y 3, 4, .inr (.inr (.inr (.inr (fun _ => none)))))), (an, .inl (y 1, 4, .inr (.inl (fun _ => 0)))), (ke, .inr (3, [.ref ke1, .ref ke2, .ref ke3, .ref ke4, .int 0])), (nwr, .inl (y 0, 3, .inl (fun _ => 0)))] sz)) (vx_X (fun (_ : Unit) => True) (fun E _ _ => E = nq_NSE ∧ (sp_count i).1 = 1) (va_A [(h0, .inr (10, [.ref tp, .int 0, .int (-1), .ref ps, .ref sp, .ref tk, .ref dr, .ref pr, .ref da, .ref nw, .ref im, .int 0, .ref ac, .ref ke, .ref si, .ref tx, .ref an, .ref dw])), (nw, .inr (6, [.ref nwt, .ref nwb, .int 0, .ref nwn, .ref nwi, .int 0, .ref nwr])), (nwt, .inr (9, [.ref nwtk, .ref nwtv, .ref nwte, .ref nwtd, .int 1])), (nwtk, .inl (y 0, 60, .inl (upd (fun _ => 0) 0 3))), (nwtd, .inl (y 0, 60, .inl (upd (fun _ => 0) 0 0))), (ps, .inl (y 3, 4, .inr (.inr (.inr (.inr (fun _ => none)))))), (an, .inl (y 1, 4, .inr (.inl (fun _ => 0)))), (ke, .inr (3, [.ref ke1, .ref ke2, .ref ke3, .ref ke4, .int 0])), (nwr, .inl (y 0, 3, .inl (fun _ => 0)))] sz)) 1 6 (va_A [(h0, .inr (10, [.ref tp, .int 0, .int (-1), .ref ps, .ref sp, .ref tk, .ref dr, .ref pr, .ref da, .ref nw, .ref im, .int 0, .ref ac, .ref ke, .ref si, .ref tx, .ref an, .ref dw])), (nw, .inr (6, [.ref nwt, .ref nwb, .int 0, .ref nwn, .ref nwi, .int 0, .ref nwr])), (nwt, .inr (9, [.ref nwtk, .ref nwtv, .ref nwte, .ref nwtd, .int 1])), (nwtk, .inl (y 0, 60, .inl (upd (fun _ => 0) 0 3))), (nwtd, .inl (y 0, 60, .inl (upd (fun _ => 0) 0 0))), (ps, .inl (y 3, 4, .inr (.inr (.inr (.inr (fun _ => none)))))), (an, .inl (y 1, 4, .inr (.inl (fun _ => 0)))), (ke, .inr (3, [.ref ke1, .ref ke2, .ref ke3, .ref ke4, .int 0])), (nwr, .inl (y 0, 3, .inl (fun _ => 0)))] sz) := by
  refine vx_ofW (cc := cX10_count) (maxL := 2) (ret := (some .int)) (by decide) rfl ?_
  intro p e s m args below meth c s₁ B hml htab hv
  obtain ⟨rfl, hsz, hP, hK, hD0, hXs⟩ := hv
  have hx := B.exec
  have hb := B.bytes
  have hr := B.returns
  have hts := atoms_spec (ws := wsX10_count) B.pre
  have hown : s.vm.findClass RX10 = some m.cls := findClass_of_methodNamed B.named
  have hlocks := B.notSynchronized
  subst hsz
  have hD := hD0.self (sz := s.heap.size)
  generalize hAe : va_A [(h0, .inr (10, [.ref tp, .int 0, .int (-1), .ref ps, .ref sp, .ref tk, .ref dr, .ref pr, .ref da, .ref nw, .ref im, .int 0, .ref ac, .ref ke, .ref si, .ref tx, .ref an, .ref dw])), (nw, .inr (6, [.ref nwt, .ref nwb, .int 0, .ref nwn, .ref nwi, .int 0, .ref nwr])), (nwt, .inr (9, [.ref nwtk, .ref nwtv, .ref nwte, .ref nwtd, .int 1])), (nwtk, .inl (y 0, 60, .inl (upd (fun _ => 0) 0 3))), (nwtd, .inl (y 0, 60, .inl (upd (fun _ => 0) 0 0))), (ps, .inl (y 3, 4, .inr (.inr (.inr (.inr (fun _ => none)))))), (an, .inl (y 1, 4, .inr (.inl (fun _ => 0)))), (ke, .inr (3, [.ref ke1, .ref ke2, .ref ke3, .ref ke4, .int 0])), (nwr, .inl (y 0, 3, .inl (fun _ => 0)))] s.heap.size = A at hD hXs ⊢
  have hA : ∀ q : Nat, s.heap.size ≤ q → A q := fun q h => by rw [← hAe]; exact Or.inr h
  have hS : va_S A s.heap s.heap [] := va_S.rf
  have hP : va_P G vwCl [(h0, .inr (10, [.ref tp, .int 0, .int (-1), .ref ps, .ref sp, .ref tk, .ref dr, .ref pr, .ref da, .ref nw, .ref im, .int 0, .ref ac, .ref ke, .ref si, .ref tx, .ref an, .ref dw])), (nw, .inr (6, [.ref nwt, .ref nwb, .int 0, .ref nwn, .ref nwi, .int 0, .ref nwr])), (nwt, .inr (9, [.ref nwtk, .ref nwtv, .ref nwte, .ref nwtd, .int 1])), (nwtk, .inl (y 0, 60, .inl (upd (fun _ => 0) 0 3))), (nwtd, .inl (y 0, 60, .inl (upd (fun _ => 0) 0 0))), (ps, .inl (y 3, 4, .inr (.inr (.inr (.inr (fun _ => none)))))), (an, .inl (y 1, 4, .inr (.inl (fun _ => 0)))), (ke, .inr (3, [.ref ke1, .ref ke2, .ref ke3, .ref ke4, .int 0])), (nwr, .inl (y 0, 3, .inl (fun _ => 0)))] s.heap := hP
  have inX10 : ∀ w ∈ wsX100, w ∈ wsX10_count := by decide +kernel
  have inX3 : ∀ w ∈ wsX30, w ∈ wsX10_count := by decide +kernel
  have inX6 : ∀ w ∈ wsX60, w ∈ wsX10_count := by decide +kernel
  have inX9 : ∀ w ∈ wsX90, w ∈ wsX10_count := by decide +kernel
  have hl := lv_entry ([.ref h0, .int i]) (n := 2) (Nat.le_of_ble_eq_true rfl)
  rw [lg_entry_eq]
  generalize (lg_sl ([.ref h0, .int i]) ++ List.replicate (2 - (lg_sl ([.ref h0, .int i])).length) Slot.unset).toArray = ls at hl ⊢
  have hl : lv_has ls 2 [(0, .ref h0), (1, .int i)] := hl
  refine lv_iload_n hx hb dX10_count_0 rfl (lv_at hl 1 rfl) ?_
  by_cases c_1 : i = 0
  · subst c_1
    refine lv_tableIn (tgt := 88) hx hb dX10_count_1 (by decide) (by decide) (by rfl) (by decide) ?_
    refine lv_aload_n hx hb dX10_count_88 rfl (lv_at hl 0 rfl) ?_
    refine va_get (D := G) (ci := 10) (v := .ref nw) (C := RX10) (T := TX10) (N := 18) hx hb hts inX10 hown hK.1 hP 0 rfl rfl 9 (by decide) (hts (.fieldLink RX10 63 "NestQuery" "now" "LNestQuery$State;") (by decide +kernel)) (fun _ h9 => h9) rfl dX10_count_89 ?_
    refine va_getN (D := G) (ci := 6) (v := .ref nwt) (C := RX6) (T := TX6) (N := 7) hx hb hts inX6 hown hK.1 hP 1 rfl rfl 0 (by decide) (va_Nw.use rfl (hK.2.1.1 _ (List.mem_of_getElem? (i := 13) rfl))) (fun _ h9 => h9) rfl dX10_count_92 ?_
    refine va_getN (D := G) (ci := 9) (v := .int 1) (C := RX9) (T := TX9) (N := 5) hx hb hts inX9 hown hK.1 hP 2 rfl rfl 4 (by decide) (va_Nw.use rfl (hK.2.1.1 _ (List.mem_of_getElem? (i := 11) rfl))) (fun _ h9 => h9) rfl dX10_count_95 ?_
    have hP9 := hP.sub (ws' := []) [] rfl
    have hD9 := hD.sub (ws' := []) [] (by decide) rfl
    refine vx_ret ?_
    refine W.widen (k := 1) (n := 6) (Nat.le_of_ble_eq_true rfl) (Nat.le_of_ble_eq_true rfl) ?_
    exact W.iret (v := 1) hx hb hr (fun t ht hW => ⟨⟨1, (), rfl, ⟨by decide, by decide⟩, by rw [ht]; exact hP9, by first | exact hD9 | (rw [hAe]; exact hD9)⟩, hS.F ht⟩) hS.2.2 dX10_count_98
  by_cases c_2 : i = 1
  · subst c_2
    refine lv_tableIn (tgt := 99) hx hb dX10_count_1 (by decide) (by decide) (by rfl) (by decide) ?_
    refine lv_aload_n hx hb dX10_count_99 rfl (lv_at hl 0 rfl) ?_
    refine va_get (D := G) (ci := 10) (v := .ref nw) (C := RX10) (T := TX10) (N := 18) hx hb hts inX10 hown hK.1 hP 0 rfl rfl 9 (by decide) (hts (.fieldLink RX10 63 "NestQuery" "now" "LNestQuery$State;") (by decide +kernel)) (fun _ h9 => h9) rfl dX10_count_100 ?_
    refine va_getN (D := G) (ci := 6) (v := .ref nwt) (C := RX6) (T := TX6) (N := 7) hx hb hts inX6 hown hK.1 hP 1 rfl rfl 0 (by decide) (va_Nw.use rfl (hK.2.1.1 _ (List.mem_of_getElem? (i := 13) rfl))) (fun _ h9 => h9) rfl dX10_count_103 ?_
    refine lv_iload_n hx hb dX10_count_106 rfl (lv_at hl 1 rfl) ?_
    refine lv_iconst (v := 1) hx hb dX10_count_107 (by decide) ?_
    refine lv_isub hx hb dX10_count_108 ?_
    refine nq_top (z := 0) (by decide) ?_
    refine nq_rdi (va_runV (As := [.int 0]) (rest := []) ⟨hx, hb, hml, hown, hts⟩ (c_countKind0 l G y s.heap.size nwt nwtk nwtv nwte nwtd (upd (fun _ => 0) 0 3) (pk_us)) (cwV 1 hts gX10_count_X9_countKind rfl rfl rfl (by decide +kernel) ⟨Nat.le_of_ble_eq_true rfl, Nat.le_of_ble_eq_true rfl⟩) (nq_PV hK hP hD [2, 3] rfl rfl 2 rfl rfl) rfl rfl hl.1 rfl (lv_room (Nat.le_of_ble_eq_true rfl)) dX10_count_109 ⟨Nat.le_of_ble_eq_true rfl, Nat.le_of_ble_eq_true rfl⟩) hP hS hA (fun r_3 H locs hw_4 hP hS => ?_)
    subst hw_4
    have hP9 := hP.sub (ws' := []) [] rfl
    have hD9 := hD.sub (ws' := []) [] (by decide) rfl
    refine vx_ret ?_
    refine W.widen (k := 1) (n := 6) (Nat.le_of_ble_eq_true rfl) (Nat.le_of_ble_eq_true rfl) ?_
    exact W.iret (v := 0) hx hb hr (fun t ht hW => ⟨⟨0, (), rfl, ⟨by decide, by decide⟩, by rw [ht]; exact hP9, by first | exact hD9 | (rw [hAe]; exact hD9)⟩, hS.F ht⟩) hS.2.2 dX10_count_112
  by_cases c_5 : i = 2
  · subst c_5
    refine lv_tableIn (tgt := 99) hx hb dX10_count_1 (by decide) (by decide) (by rfl) (by decide) ?_
    refine lv_aload_n hx hb dX10_count_99 rfl (lv_at hl 0 rfl) ?_
    refine va_get (D := G) (ci := 10) (v := .ref nw) (C := RX10) (T := TX10) (N := 18) hx hb hts inX10 hown hK.1 hP 0 rfl rfl 9 (by decide) (hts (.fieldLink RX10 63 "NestQuery" "now" "LNestQuery$State;") (by decide +kernel)) (fun _ h9 => h9) rfl dX10_count_100 ?_
    refine va_getN (D := G) (ci := 6) (v := .ref nwt) (C := RX6) (T := TX6) (N := 7) hx hb hts inX6 hown hK.1 hP 1 rfl rfl 0 (by decide) (va_Nw.use rfl (hK.2.1.1 _ (List.mem_of_getElem? (i := 13) rfl))) (fun _ h9 => h9) rfl dX10_count_103 ?_
    refine lv_iload_n hx hb dX10_count_106 rfl (lv_at hl 1 rfl) ?_
    refine lv_iconst (v := 1) hx hb dX10_count_107 (by decide) ?_
    refine lv_isub hx hb dX10_count_108 ?_
    refine nq_top (z := 1) (by decide) ?_
    refine nq_rdi (va_runV (As := [.int 1]) (rest := []) ⟨hx, hb, hml, hown, hts⟩ (c_countKind1 l G y s.heap.size nwt nwtk nwtv nwte nwtd (upd (fun _ => 0) 0 3) (pk_us)) (cwV 1 hts gX10_count_X9_countKind rfl rfl rfl (by decide +kernel) ⟨Nat.le_of_ble_eq_true rfl, Nat.le_of_ble_eq_true rfl⟩) (nq_PV hK hP hD [2, 3] rfl rfl 2 rfl rfl) rfl rfl hl.1 rfl (lv_room (Nat.le_of_ble_eq_true rfl)) dX10_count_109 ⟨Nat.le_of_ble_eq_true rfl, Nat.le_of_ble_eq_true rfl⟩) hP hS hA (fun r_6 H locs hw_7 hP hS => ?_)
    subst hw_7
    have hP9 := hP.sub (ws' := []) [] rfl
    have hD9 := hD.sub (ws' := []) [] (by decide) rfl
    refine vx_ret ?_
    refine W.widen (k := 1) (n := 6) (Nat.le_of_ble_eq_true rfl) (Nat.le_of_ble_eq_true rfl) ?_
    exact W.iret (v := 0) hx hb hr (fun t ht hW => ⟨⟨0, (), rfl, ⟨by decide, by decide⟩, by rw [ht]; exact hP9, by first | exact hD9 | (rw [hAe]; exact hD9)⟩, hS.F ht⟩) hS.2.2 dX10_count_112
  by_cases c_8 : i = 3
  · subst c_8
    refine lv_tableIn (tgt := 99) hx hb dX10_count_1 (by decide) (by decide) (by rfl) (by decide) ?_
    refine lv_aload_n hx hb dX10_count_99 rfl (lv_at hl 0 rfl) ?_
    refine va_get (D := G) (ci := 10) (v := .ref nw) (C := RX10) (T := TX10) (N := 18) hx hb hts inX10 hown hK.1 hP 0 rfl rfl 9 (by decide) (hts (.fieldLink RX10 63 "NestQuery" "now" "LNestQuery$State;") (by decide +kernel)) (fun _ h9 => h9) rfl dX10_count_100 ?_
    refine va_getN (D := G) (ci := 6) (v := .ref nwt) (C := RX6) (T := TX6) (N := 7) hx hb hts inX6 hown hK.1 hP 1 rfl rfl 0 (by decide) (va_Nw.use rfl (hK.2.1.1 _ (List.mem_of_getElem? (i := 13) rfl))) (fun _ h9 => h9) rfl dX10_count_103 ?_
    refine lv_iload_n hx hb dX10_count_106 rfl (lv_at hl 1 rfl) ?_
    refine lv_iconst (v := 1) hx hb dX10_count_107 (by decide) ?_
    refine lv_isub hx hb dX10_count_108 ?_
    refine nq_top (z := 2) (by decide) ?_
    refine nq_rdi (va_runV (As := [.int 2]) (rest := []) ⟨hx, hb, hml, hown, hts⟩ (c_countKind2 l G y s.heap.size nwt nwtk nwtv nwte nwtd (upd (fun _ => 0) 0 3) (pk_us)) (cwV 1 hts gX10_count_X9_countKind rfl rfl rfl (by decide +kernel) ⟨Nat.le_of_ble_eq_true rfl, Nat.le_of_ble_eq_true rfl⟩) (nq_PV hK hP hD [2, 3] rfl rfl 2 rfl rfl) rfl rfl hl.1 rfl (lv_room (Nat.le_of_ble_eq_true rfl)) dX10_count_109 ⟨Nat.le_of_ble_eq_true rfl, Nat.le_of_ble_eq_true rfl⟩) hP hS hA (fun r_9 H locs hw_10 hP hS => ?_)
    subst hw_10
    have hP9 := hP.sub (ws' := []) [] rfl
    have hD9 := hD.sub (ws' := []) [] (by decide) rfl
    refine vx_ret ?_
    refine W.widen (k := 1) (n := 6) (Nat.le_of_ble_eq_true rfl) (Nat.le_of_ble_eq_true rfl) ?_
    exact W.iret (v := 0) hx hb hr (fun t ht hW => ⟨⟨0, (), rfl, ⟨by decide, by decide⟩, by rw [ht]; exact hP9, by first | exact hD9 | (rw [hAe]; exact hD9)⟩, hS.F ht⟩) hS.2.2 dX10_count_112
  by_cases c_11 : i = 4
  · subst c_11
    refine lv_tableIn (tgt := 99) hx hb dX10_count_1 (by decide) (by decide) (by rfl) (by decide) ?_
    refine lv_aload_n hx hb dX10_count_99 rfl (lv_at hl 0 rfl) ?_
    refine va_get (D := G) (ci := 10) (v := .ref nw) (C := RX10) (T := TX10) (N := 18) hx hb hts inX10 hown hK.1 hP 0 rfl rfl 9 (by decide) (hts (.fieldLink RX10 63 "NestQuery" "now" "LNestQuery$State;") (by decide +kernel)) (fun _ h9 => h9) rfl dX10_count_100 ?_
    refine va_getN (D := G) (ci := 6) (v := .ref nwt) (C := RX6) (T := TX6) (N := 7) hx hb hts inX6 hown hK.1 hP 1 rfl rfl 0 (by decide) (va_Nw.use rfl (hK.2.1.1 _ (List.mem_of_getElem? (i := 13) rfl))) (fun _ h9 => h9) rfl dX10_count_103 ?_
    refine lv_iload_n hx hb dX10_count_106 rfl (lv_at hl 1 rfl) ?_
    refine lv_iconst (v := 1) hx hb dX10_count_107 (by decide) ?_
    refine lv_isub hx hb dX10_count_108 ?_
    refine nq_top (z := 3) (by decide) ?_
    refine nq_rdi (va_runV (As := [.int 3]) (rest := []) ⟨hx, hb, hml, hown, hts⟩ (c_countKind3 l G y s.heap.size nwt nwtk nwtv nwte nwtd (upd (fun _ => 0) 0 3) (pk_us)) (cwV 1 hts gX10_count_X9_countKind rfl rfl rfl (by decide +kernel) ⟨Nat.le_of_ble_eq_true rfl, Nat.le_of_ble_eq_true rfl⟩) (nq_PV hK hP hD [2, 3] rfl rfl 2 rfl rfl) rfl rfl hl.1 rfl (lv_room (Nat.le_of_ble_eq_true rfl)) dX10_count_109 ⟨Nat.le_of_ble_eq_true rfl, Nat.le_of_ble_eq_true rfl⟩) hP hS hA (fun r_12 H locs hw_13 hP hS => ?_)
    subst hw_13
    have hP9 := hP.sub (ws' := []) [] rfl
    have hD9 := hD.sub (ws' := []) [] (by decide) rfl
    refine vx_ret ?_
    refine W.widen (k := 1) (n := 6) (Nat.le_of_ble_eq_true rfl) (Nat.le_of_ble_eq_true rfl) ?_
    exact W.iret (v := 1) hx hb hr (fun t ht hW => ⟨⟨1, (), rfl, ⟨by decide, by decide⟩, by rw [ht]; exact hP9, by first | exact hD9 | (rw [hAe]; exact hD9)⟩, hS.F ht⟩) hS.2.2 dX10_count_112
  by_cases c_14 : i = 5
  · subst c_14
    refine lv_tableIn (tgt := 113) hx hb dX10_count_1 (by decide) (by decide) (by rfl) (by decide) ?_
    refine lv_aload_n hx hb dX10_count_113 rfl (lv_at hl 0 rfl) ?_
    refine va_get (D := G) (ci := 10) (v := .ref nw) (C := RX10) (T := TX10) (N := 18) hx hb hts inX10 hown hK.1 hP 0 rfl rfl 9 (by decide) (hts (.fieldLink RX10 63 "NestQuery" "now" "LNestQuery$State;") (by decide +kernel)) (fun _ h9 => h9) rfl dX10_count_114 ?_
    refine va_getN (D := G) (ci := 6) (v := .ref nwt) (C := RX6) (T := TX6) (N := 7) hx hb hts inX6 hown hK.1 hP 1 rfl rfl 0 (by decide) (va_Nw.use rfl (hK.2.1.1 _ (List.mem_of_getElem? (i := 13) rfl))) (fun _ h9 => h9) rfl dX10_count_117 ?_
    refine nq_rdi (va_runV (As := []) (rest := []) ⟨hx, hb, hml, hown, hts⟩ (c_deepest l G y s.heap.size nwt nwtk nwtv nwte nwtd (upd (fun _ => 0) 0 0) (pk_us)) (cwV 0 hts gX10_count_X9_deepest rfl rfl rfl (by decide +kernel) ⟨Nat.le_of_ble_eq_true rfl, Nat.le_of_ble_eq_true rfl⟩) (nq_PV hK hP hD [2, 4] rfl rfl 2 rfl rfl) rfl rfl hl.1 rfl (lv_room (Nat.le_of_ble_eq_true rfl)) dX10_count_120 ⟨Nat.le_of_ble_eq_true rfl, Nat.le_of_ble_eq_true rfl⟩) hP hS hA (fun r_15 H locs hw_16 hP hS => ?_)
    subst hw_16
    have hP9 := hP.sub (ws' := []) [] rfl
    have hD9 := hD.sub (ws' := []) [] (by decide) rfl
    refine vx_ret ?_
    refine W.widen (k := 1) (n := 6) (Nat.le_of_ble_eq_true rfl) (Nat.le_of_ble_eq_true rfl) ?_
    exact W.iret (v := 0) hx hb hr (fun t ht hW => ⟨⟨0, (), rfl, ⟨by decide, by decide⟩, by rw [ht]; exact hP9, by first | exact hD9 | (rw [hAe]; exact hD9)⟩, hS.F ht⟩) hS.2.2 dX10_count_123
  by_cases c_17 : i = 6
  · subst c_17
    refine lv_tableIn (tgt := 124) hx hb dX10_count_1 (by decide) (by decide) (by rfl) (by decide) ?_
    refine lv_aload_n hx hb dX10_count_124 rfl (lv_at hl 0 rfl) ?_
    refine nq_rdi (va_runV (As := []) (rest := []) ⟨hx, hb, hml, hown, hts⟩ (c_pathsThere l G y s.heap.size h0 tp ps sp tk dr pr da nw im ac ke si tx an dw ) (cwV 0 hts gX10_count_X10_pathsThere rfl rfl rfl (by decide +kernel) ⟨Nat.le_of_ble_eq_true rfl, Nat.le_of_ble_eq_true rfl⟩) (nq_PV hK hP hD [0, 5] rfl rfl 0 rfl rfl) rfl rfl hl.1 rfl (lv_room (Nat.le_of_ble_eq_true rfl)) dX10_count_125 ⟨Nat.le_of_ble_eq_true rfl, Nat.le_of_ble_eq_true rfl⟩) hP hS hA (fun r_18 H locs hw_19 hP hS => ?_)
    subst hw_19
    have hP9 := hP.sub (ws' := []) [] rfl
    have hD9 := hD.sub (ws' := []) [] (by decide) rfl
    refine vx_ret ?_
    refine W.widen (k := 1) (n := 6) (Nat.le_of_ble_eq_true rfl) (Nat.le_of_ble_eq_true rfl) ?_
    exact W.iret (v := 0) hx hb hr (fun t ht hW => ⟨⟨0, (), rfl, ⟨by decide, by decide⟩, by rw [ht]; exact hP9, by first | exact hD9 | (rw [hAe]; exact hD9)⟩, hS.F ht⟩) hS.2.2 dX10_count_128
  by_cases c_20 : i = 7
  · subst c_20
    refine lv_tableIn (tgt := 129) hx hb dX10_count_1 (by decide) (by decide) (by rfl) (by decide) ?_
    refine lv_aload_n hx hb dX10_count_129 rfl (lv_at hl 0 rfl) ?_
    refine va_get (D := G) (ci := 10) (v := .ref nw) (C := RX10) (T := TX10) (N := 18) hx hb hts inX10 hown hK.1 hP 0 rfl rfl 9 (by decide) (hts (.fieldLink RX10 63 "NestQuery" "now" "LNestQuery$State;") (by decide +kernel)) (fun _ h9 => h9) rfl dX10_count_130 ?_
    refine va_getN (D := G) (ci := 6) (v := .ref nwt) (C := RX6) (T := TX6) (N := 7) hx hb hts inX6 hown hK.1 hP 1 rfl rfl 0 (by decide) (va_Nw.use rfl (hK.2.1.1 _ (List.mem_of_getElem? (i := 13) rfl))) (fun _ h9 => h9) rfl dX10_count_133 ?_
    refine nq_rdi (va_runV (As := []) (rest := []) ⟨hx, hb, hml, hown, hts⟩ (c_unlike l G y s.heap.size nwt nwtk nwtv nwte nwtd ) (cwV 0 hts gX10_count_X9_unlike rfl rfl rfl (by decide +kernel) ⟨Nat.le_of_ble_eq_true rfl, Nat.le_of_ble_eq_true rfl⟩) (nq_PV hK hP hD [2] rfl rfl 2 rfl rfl) rfl rfl hl.1 rfl (lv_room (Nat.le_of_ble_eq_true rfl)) dX10_count_136 ⟨Nat.le_of_ble_eq_true rfl, Nat.le_of_ble_eq_true rfl⟩) hP hS hA (fun r_21 H locs hw_22 hP hS => ?_)
    subst hw_22
    have hP9 := hP.sub (ws' := []) [] rfl
    have hD9 := hD.sub (ws' := []) [] (by decide) rfl
    refine vx_ret ?_
    refine W.widen (k := 1) (n := 6) (Nat.le_of_ble_eq_true rfl) (Nat.le_of_ble_eq_true rfl) ?_
    exact W.iret (v := 1) hx hb hr (fun t ht hW => ⟨⟨1, (), rfl, ⟨by decide, by decide⟩, by rw [ht]; exact hP9, by first | exact hD9 | (rw [hAe]; exact hD9)⟩, hS.F ht⟩) hS.2.2 dX10_count_139
  by_cases c_23 : i = 8
  · subst c_23
    refine lv_tableIn (tgt := 140) hx hb dX10_count_1 (by decide) (by decide) (by rfl) (by decide) ?_
    refine lv_aload_n hx hb dX10_count_140 rfl (lv_at hl 0 rfl) ?_
    refine va_get (D := G) (ci := 10) (v := .ref ke) (C := RX10) (T := TX10) (N := 18) hx hb hts inX10 hown hK.1 hP 0 rfl rfl 13 (by decide) (hts (.fieldLink RX10 82 "NestQuery" "kept" "LNestQuery$Patch;") (by decide +kernel)) (fun _ h9 => h9) rfl dX10_count_141 ?_
    refine va_getN (D := G) (ci := 3) (v := .int 0) (C := RX3) (T := TX3) (N := 5) hx hb hts inX3 hown hK.1 hP 7 rfl rfl 4 (by decide) (va_Nw.use rfl (hK.2.1.1 _ (List.mem_of_getElem? (i := 17) rfl))) (fun _ h9 => h9) rfl dX10_count_144 ?_
    have hP9 := hP.sub (ws' := []) [] rfl
    have hD9 := hD.sub (ws' := []) [] (by decide) rfl
    refine vx_ret ?_
    refine W.widen (k := 1) (n := 6) (Nat.le_of_ble_eq_true rfl) (Nat.le_of_ble_eq_true rfl) ?_
    exact W.iret (v := 0) hx hb hr (fun t ht hW => ⟨⟨0, (), rfl, ⟨by decide, by decide⟩, by rw [ht]; exact hP9, by first | exact hD9 | (rw [hAe]; exact hD9)⟩, hS.F ht⟩) hS.2.2 dX10_count_147
  by_cases c_24 : i = 9
  · subst c_24
    refine lv_tableIn (tgt := 148) hx hb dX10_count_1 (by decide) (by decide) (by rfl) (by decide) ?_
    refine lv_aload_n hx hb dX10_count_148 rfl (lv_at hl 0 rfl) ?_
    refine va_get (D := G) (ci := 10) (v := .int 0) (C := RX10) (T := TX10) (N := 18) hx hb hts inX10 hown hK.1 hP 0 rfl rfl 11 (by decide) (hts (.fieldLink RX10 145 "NestQuery" "imageThere" "Z") (by decide +kernel)) (fun _ h9 => h9) rfl dX10_count_149 ?_
    refine lv_if_eq (tgt := 179) hx hb dX10_count_152 (by decide) (fun _ => ?_) (fun c_25 => absurd c_25 (by decide))
    refine lv_iconst (v := (-1)) hx hb dX10_count_179 (by decide) ?_
    have hP9 := hP.sub (ws' := []) [] rfl
    have hD9 := hD.sub (ws' := []) [] (by decide) rfl
    refine vx_ret ?_
    refine W.widen (k := 1) (n := 6) (Nat.le_of_ble_eq_true rfl) (Nat.le_of_ble_eq_true rfl) ?_
    exact W.iret (v := (-1)) hx hb hr (fun t ht hW => ⟨⟨(-1), (), rfl, ⟨by decide, by decide⟩, by rw [ht]; exact hP9, by first | exact hD9 | (rw [hAe]; exact hD9)⟩, hS.F ht⟩) hS.2.2 dX10_count_180
  by_cases c_26 : i = 10
  · subst c_26
    refine lv_tableIn (tgt := 181) hx hb dX10_count_1 (by decide) (by decide) (by rfl) (by decide) ?_
    refine lv_aload_n hx hb dX10_count_181 rfl (lv_at hl 0 rfl) ?_
    refine va_get (D := G) (ci := 10) (v := .ref nw) (C := RX10) (T := TX10) (N := 18) hx hb hts inX10 hown hK.1 hP 0 rfl rfl 9 (by decide) (hts (.fieldLink RX10 63 "NestQuery" "now" "LNestQuery$State;") (by decide +kernel)) (fun _ h9 => h9) rfl dX10_count_182 ?_
    refine va_getN (D := G) (ci := 6) (v := .int 0) (C := RX6) (T := TX6) (N := 7) hx hb hts inX6 hown hK.1 hP 1 rfl rfl 2 (by decide) (va_Nw.use rfl (hK.2.1.1 _ (List.mem_of_getElem? (i := 15) rfl))) (fun _ h9 => h9) rfl dX10_count_185 ?_
    have hP9 := hP.sub (ws' := []) [] rfl
    have hD9 := hD.sub (ws' := []) [] (by decide) rfl
    refine vx_ret ?_
    refine W.widen (k := 1) (n := 6) (Nat.le_of_ble_eq_true rfl) (Nat.le_of_ble_eq_true rfl) ?_
    exact W.iret (v := 0) hx hb hr (fun t ht hW => ⟨⟨0, (), rfl, ⟨by decide, by decide⟩, by rw [ht]; exact hP9, by first | exact hD9 | (rw [hAe]; exact hD9)⟩, hS.F ht⟩) hS.2.2 dX10_count_188
  by_cases c_27 : i = 11
  · subst c_27
    refine lv_tableIn (tgt := 189) hx hb dX10_count_1 (by decide) (by decide) (by rfl) (by decide) ?_
    refine lv_aload_n hx hb dX10_count_189 rfl (lv_at hl 0 rfl) ?_
    refine va_get (D := G) (ci := 10) (v := .ref nw) (C := RX10) (T := TX10) (N := 18) hx hb hts inX10 hown hK.1 hP 0 rfl rfl 9 (by decide) (hts (.fieldLink RX10 63 "NestQuery" "now" "LNestQuery$State;") (by decide +kernel)) (fun _ h9 => h9) rfl dX10_count_190 ?_
    refine va_getN (D := G) (ci := 6) (v := .int 0) (C := RX6) (T := TX6) (N := 7) hx hb hts inX6 hown hK.1 hP 1 rfl rfl 5 (by decide) (va_Nw.use rfl (hK.2.1.1 _ (List.mem_of_getElem? (i := 16) rfl))) (fun _ h9 => h9) rfl dX10_count_193 ?_
    have hP9 := hP.sub (ws' := []) [] rfl
    have hD9 := hD.sub (ws' := []) [] (by decide) rfl
    refine vx_ret ?_
    refine W.widen (k := 1) (n := 6) (Nat.le_of_ble_eq_true rfl) (Nat.le_of_ble_eq_true rfl) ?_
    exact W.iret (v := 0) hx hb hr (fun t ht hW => ⟨⟨0, (), rfl, ⟨by decide, by decide⟩, by rw [ht]; exact hP9, by first | exact hD9 | (rw [hAe]; exact hD9)⟩, hS.F ht⟩) hS.2.2 dX10_count_196
  by_cases c_28 : i = 12
  · subst c_28
    refine lv_tableIn (tgt := 197) hx hb dX10_count_1 (by decide) (by decide) (by rfl) (by decide) ?_
    refine lv_aload_n hx hb dX10_count_197 rfl (lv_at hl 0 rfl) ?_
    refine va_get (D := G) (ci := 10) (v := .int 0) (C := RX10) (T := TX10) (N := 18) hx hb hts inX10 hown hK.1 hP 0 rfl rfl 1 (by decide) (hts (.fieldLink RX10 114 "NestQuery" "tapeCount" "I") (by decide +kernel)) (fun _ h9 => h9) rfl dX10_count_198 ?_
    have hP9 := hP.sub (ws' := []) [] rfl
    have hD9 := hD.sub (ws' := []) [] (by decide) rfl
    refine vx_ret ?_
    refine W.widen (k := 1) (n := 6) (Nat.le_of_ble_eq_true rfl) (Nat.le_of_ble_eq_true rfl) ?_
    exact W.iret (v := 0) hx hb hr (fun t ht hW => ⟨⟨0, (), rfl, ⟨by decide, by decide⟩, by rw [ht]; exact hP9, by first | exact hD9 | (rw [hAe]; exact hD9)⟩, hS.F ht⟩) hS.2.2 dX10_count_201
  by_cases c_29 : i = 13
  · subst c_29
    refine lv_tableIn (tgt := 202) hx hb dX10_count_1 (by decide) (by decide) (by rfl) (by decide) ?_
    refine lv_aload_n hx hb dX10_count_202 rfl (lv_at hl 0 rfl) ?_
    refine va_get (D := G) (ci := 10) (v := .ref nw) (C := RX10) (T := TX10) (N := 18) hx hb hts inX10 hown hK.1 hP 0 rfl rfl 9 (by decide) (hts (.fieldLink RX10 63 "NestQuery" "now" "LNestQuery$State;") (by decide +kernel)) (fun _ h9 => h9) rfl dX10_count_203 ?_
    refine lv_iload_n hx hb dX10_count_206 rfl (lv_at hl 1 rfl) ?_
    refine lv_bipush (v := 13) hx hb dX10_count_207 (by decide) ?_
    refine lv_isub hx hb dX10_count_209 ?_
    refine nq_top (z := 0) (by decide) ?_
    refine nq_rdi (va_runV (As := [.int 0]) (rest := []) ⟨hx, hb, hml, hown, hts⟩ (c_refusedOf0 l G y s.heap.size nw nwt nwb nwn nwi nwr ) (cwV 1 hts gX10_count_X6_refusedOf rfl rfl rfl (by decide +kernel) ⟨Nat.le_of_ble_eq_true rfl, Nat.le_of_ble_eq_true rfl⟩) (nq_PV hK hP hD [1, 8] rfl rfl 1 rfl rfl) rfl rfl hl.1 rfl (lv_room (Nat.le_of_ble_eq_true rfl)) dX10_count_210 ⟨Nat.le_of_ble_eq_true rfl, Nat.le_of_ble_eq_true rfl⟩) hP hS hA (fun r_30 H locs hw_31 hP hS => ?_)
    subst hw_31
    have hP9 := hP.sub (ws' := []) [] rfl
    have hD9 := hD.sub (ws' := []) [] (by decide) rfl
    refine vx_ret ?_
    refine W.widen (k := 1) (n := 6) (Nat.le_of_ble_eq_true rfl) (Nat.le_of_ble_eq_true rfl) ?_
    exact W.iret (v := 0) hx hb hr (fun t ht hW => ⟨⟨0, (), rfl, ⟨by decide, by decide⟩, by rw [ht]; exact hP9, by first | exact hD9 | (rw [hAe]; exact hD9)⟩, hS.F ht⟩) hS.2.2 dX10_count_213
  by_cases c_32 : i = 14
  · subst c_32
    refine lv_tableIn (tgt := 202) hx hb dX10_count_1 (by decide) (by decide) (by rfl) (by decide) ?_
    refine lv_aload_n hx hb dX10_count_202 rfl (lv_at hl 0 rfl) ?_
    refine va_get (D := G) (ci := 10) (v := .ref nw) (C := RX10) (T := TX10) (N := 18) hx hb hts inX10 hown hK.1 hP 0 rfl rfl 9 (by decide) (hts (.fieldLink RX10 63 "NestQuery" "now" "LNestQuery$State;") (by decide +kernel)) (fun _ h9 => h9) rfl dX10_count_203 ?_
    refine lv_iload_n hx hb dX10_count_206 rfl (lv_at hl 1 rfl) ?_
    refine lv_bipush (v := 13) hx hb dX10_count_207 (by decide) ?_
    refine lv_isub hx hb dX10_count_209 ?_
    refine nq_top (z := 1) (by decide) ?_
    refine nq_rdi (va_runV (As := [.int 1]) (rest := []) ⟨hx, hb, hml, hown, hts⟩ (c_refusedOf1 l G y s.heap.size nw nwt nwb nwn nwi nwr ) (cwV 1 hts gX10_count_X6_refusedOf rfl rfl rfl (by decide +kernel) ⟨Nat.le_of_ble_eq_true rfl, Nat.le_of_ble_eq_true rfl⟩) (nq_PV hK hP hD [1, 8] rfl rfl 1 rfl rfl) rfl rfl hl.1 rfl (lv_room (Nat.le_of_ble_eq_true rfl)) dX10_count_210 ⟨Nat.le_of_ble_eq_true rfl, Nat.le_of_ble_eq_true rfl⟩) hP hS hA (fun r_33 H locs hw_34 hP hS => ?_)
    subst hw_34
    have hP9 := hP.sub (ws' := []) [] rfl
    have hD9 := hD.sub (ws' := []) [] (by decide) rfl
    refine vx_ret ?_
    refine W.widen (k := 1) (n := 6) (Nat.le_of_ble_eq_true rfl) (Nat.le_of_ble_eq_true rfl) ?_
    exact W.iret (v := 0) hx hb hr (fun t ht hW => ⟨⟨0, (), rfl, ⟨by decide, by decide⟩, by rw [ht]; exact hP9, by first | exact hD9 | (rw [hAe]; exact hD9)⟩, hS.F ht⟩) hS.2.2 dX10_count_213
  by_cases c_35 : i = 15
  · subst c_35
    refine lv_tableIn (tgt := 202) hx hb dX10_count_1 (by decide) (by decide) (by rfl) (by decide) ?_
    refine lv_aload_n hx hb dX10_count_202 rfl (lv_at hl 0 rfl) ?_
    refine va_get (D := G) (ci := 10) (v := .ref nw) (C := RX10) (T := TX10) (N := 18) hx hb hts inX10 hown hK.1 hP 0 rfl rfl 9 (by decide) (hts (.fieldLink RX10 63 "NestQuery" "now" "LNestQuery$State;") (by decide +kernel)) (fun _ h9 => h9) rfl dX10_count_203 ?_
    refine lv_iload_n hx hb dX10_count_206 rfl (lv_at hl 1 rfl) ?_
    refine lv_bipush (v := 13) hx hb dX10_count_207 (by decide) ?_
    refine lv_isub hx hb dX10_count_209 ?_
    refine nq_top (z := 2) (by decide) ?_
    refine nq_rdi (va_runV (As := [.int 2]) (rest := []) ⟨hx, hb, hml, hown, hts⟩ (c_refusedOf2 l G y s.heap.size nw nwt nwb nwn nwi nwr ) (cwV 1 hts gX10_count_X6_refusedOf rfl rfl rfl (by decide +kernel) ⟨Nat.le_of_ble_eq_true rfl, Nat.le_of_ble_eq_true rfl⟩) (nq_PV hK hP hD [1, 8] rfl rfl 1 rfl rfl) rfl rfl hl.1 rfl (lv_room (Nat.le_of_ble_eq_true rfl)) dX10_count_210 ⟨Nat.le_of_ble_eq_true rfl, Nat.le_of_ble_eq_true rfl⟩) hP hS hA (fun r_36 H locs hw_37 hP hS => ?_)
    subst hw_37
    have hP9 := hP.sub (ws' := []) [] rfl
    have hD9 := hD.sub (ws' := []) [] (by decide) rfl
    refine vx_ret ?_
    refine W.widen (k := 1) (n := 6) (Nat.le_of_ble_eq_true rfl) (Nat.le_of_ble_eq_true rfl) ?_
    exact W.iret (v := 0) hx hb hr (fun t ht hW => ⟨⟨0, (), rfl, ⟨by decide, by decide⟩, by rw [ht]; exact hP9, by first | exact hD9 | (rw [hAe]; exact hD9)⟩, hS.F ht⟩) hS.2.2 dX10_count_213
  by_cases c_38 : i = 16
  · subst c_38
    refine lv_tableIn (tgt := 214) hx hb dX10_count_1 (by decide) (by decide) (by rfl) (by decide) ?_
    refine lv_aload_n hx hb dX10_count_214 rfl (lv_at hl 0 rfl) ?_
    refine va_get (D := G) (ci := 10) (v := .ref nw) (C := RX10) (T := TX10) (N := 18) hx hb hts inX10 hown hK.1 hP 0 rfl rfl 9 (by decide) (hts (.fieldLink RX10 63 "NestQuery" "now" "LNestQuery$State;") (by decide +kernel)) (fun _ h9 => h9) rfl dX10_count_215 ?_
    refine va_getN (D := G) (ci := 6) (v := .ref nwt) (C := RX6) (T := TX6) (N := 7) hx hb hts inX6 hown hK.1 hP 1 rfl rfl 0 (by decide) (va_Nw.use rfl (hK.2.1.1 _ (List.mem_of_getElem? (i := 13) rfl))) (fun _ h9 => h9) rfl dX10_count_218 ?_
    refine nq_rdi (va_runV (As := []) (rest := []) ⟨hx, hb, hml, hown, hts⟩ (c_sum l G y s.heap.size nwt nwtk nwtv nwte nwtd (upd (fun _ => 0) 0 3) (pk_us)) (cwV 0 hts gX10_count_X9_sum rfl rfl rfl (by decide +kernel) ⟨Nat.le_of_ble_eq_true rfl, Nat.le_of_ble_eq_true rfl⟩) (nq_PV hK hP hD [2, 3] rfl rfl 2 rfl rfl) rfl rfl hl.1 rfl (lv_room (Nat.le_of_ble_eq_true rfl)) dX10_count_221 ⟨Nat.le_of_ble_eq_true rfl, Nat.le_of_ble_eq_true rfl⟩) hP hS hA (fun r_39 H locs hw_40 hP hS => ?_)
    subst hw_40
    have hP9 := hP.sub (ws' := []) [] rfl
    have hD9 := hD.sub (ws' := []) [] (by decide) rfl
    refine vx_ret ?_
    refine W.widen (k := 1) (n := 6) (Nat.le_of_ble_eq_true rfl) (Nat.le_of_ble_eq_true rfl) ?_
    exact W.iret (v := 0) hx hb hr (fun t ht hW => ⟨⟨0, (), rfl, ⟨by decide, by decide⟩, by rw [ht]; exact hP9, by first | exact hD9 | (rw [hAe]; exact hD9)⟩, hS.F ht⟩) hS.2.2 dX10_count_224
  by_cases c_41 : i = 17
  · subst c_41
    refine lv_tableIn (tgt := 225) hx hb dX10_count_1 (by decide) (by decide) (by rfl) (by decide) ?_
    refine lv_aload_n hx hb dX10_count_225 rfl (lv_at hl 0 rfl) ?_
    refine nq_wri (wr := [(nw, .inr (6, [.ref nwt, .ref nwb, .int 0, .ref nwn, .ref nwi, .int 0, .ref nwr])), (nwt, .inr (9, [.ref nwtk, .ref nwtv, .ref nwte, .ref nwtd, .int 1])), (nwtk, .inl (y 0, 60, .inl (upd (fun _ => 0) 0 3))), (nwtd, .inl (y 0, 60, .inl (upd (fun _ => 0) 0 0))), (ke, .inr (3, [.ref ke1, .ref ke2, .ref ke3, .ref ke4, .int 0])), (nwr, .inl (y 0, 3, .inl (fun _ => 0)))]) (va_runV (As := []) (rest := []) ⟨hx, hb, hml, hown, hts⟩ (c_pathsThatFit l G y s.heap.size h0 tp ps sp tk dr pr da nw im ac ke si tx an dw ) (cwV 0 hts gX10_count_X10_pathsThatFit rfl rfl rfl (by decide +kernel) ⟨Nat.le_of_ble_eq_true rfl, Nat.le_of_ble_eq_true rfl⟩) (nq_PV hK hP hD [0, 5, 6] rfl rfl 0 rfl rfl) rfl rfl hl.1 rfl (lv_room (Nat.le_of_ble_eq_true rfl)) dX10_count_226 ⟨Nat.le_of_ble_eq_true rfl, Nat.le_of_ble_eq_true rfl⟩) hP hD hS hA [0, 5, 6] [1, 2, 3, 4, 7, 8] rfl rfl (by decide) (by decide) (fun r_44 u_42 H locs hw_43 hP hD hS => ?_)
    have hP : va_P G vwCl [(nw, .inr (6, [.ref nwt, .ref nwb, .int 0, .ref nwn, .ref nwi, .int 0, .ref nwr])), (nwt, .inr (9, [.ref nwtk, .ref nwtv, .ref nwte, .ref nwtd, .int 1])), (nwtk, .inl (y 0, 60, .inl (upd (fun _ => 0) 0 3))), (nwtd, .inl (y 0, 60, .inl (upd (fun _ => 0) 0 0))), (ke, .inr (3, [.ref ke1, .ref ke2, .ref ke3, .ref ke4, .int 0])), (nwr, .inl (y 0, 3, .inl (fun _ => 0))), (h0, .inr (10, [.ref tp, .int 0, .int (-1), .ref ps, .ref sp, .ref tk, .ref dr, .ref pr, .ref da, .ref nw, .ref im, .int 0, .ref ac, .ref ke, .ref si, .ref tx, .ref an, .ref dw])), (ps, .inl (y 3, 4, .inr (.inr (.inr (.inr (fun _ => none)))))), (an, .inl (y 1, 4, .inr (.inl (vp_updL (vp_updL (vp_updL (vp_updL (fun _ => 0) 0 0) 1 0) 2 0) 3 0))))] H := hP
    have hD : va_D A [(nw, .inr (6, [.ref nwt, .ref nwb, .int 0, .ref nwn, .ref nwi, .int 0, .ref nwr])), (nwt, .inr (9, [.ref nwtk, .ref nwtv, .ref nwte, .ref nwtd, .int 1])), (nwtk, .inl (y 0, 60, .inl (upd (fun _ => 0) 0 3))), (nwtd, .inl (y 0, 60, .inl (upd (fun _ => 0) 0 0))), (ke, .inr (3, [.ref ke1, .ref ke2, .ref ke3, .ref ke4, .int 0])), (nwr, .inl (y 0, 3, .inl (fun _ => 0))), (h0, .inr (10, [.ref tp, .int 0, .int (-1), .ref ps, .ref sp, .ref tk, .ref dr, .ref pr, .ref da, .ref nw, .ref im, .int 0, .ref ac, .ref ke, .ref si, .ref tx, .ref an, .ref dw])), (ps, .inl (y 3, 4, .inr (.inr (.inr (.inr (fun _ => none)))))), (an, .inl (y 1, 4, .inr (.inl (vp_updL (vp_updL (vp_updL (vp_updL (fun _ => 0) 0 0) 1 0) 2 0) 3 0))))] := hD
    subst hw_43
    have hP9 := hP.sub (ws' := []) [] rfl
    have hD9 := hD.sub (ws' := []) [] (by decide) rfl
    refine vx_ret ?_
    refine W.widen (k := 1) (n := 6) (Nat.le_of_ble_eq_true rfl) (Nat.le_of_ble_eq_true rfl) ?_
    exact W.iret (v := 0) hx hb hr (fun t ht hW => ⟨⟨0, (), rfl, ⟨by decide, by decide⟩, by rw [ht]; exact hP9, by first | exact hD9 | (rw [hAe]; exact hD9)⟩, hS.F ht⟩) hS.2.2 dX10_count_229
  have hout : i.toInt < 0 ∨ 17 < i.toInt := by
    have q := fun (k : Int32) (z : Int) (hk : k.toInt = z) (h : ¬ i = k) (e : i.toInt = z) => h (Int32.toInt_inj.mp (by rw [hk]; exact e))
    have c_1z := q 0 0 (by decide) c_1
    have c_2z := q 1 1 (by decide) c_2
    have c_5z := q 2 2 (by decide) c_5
    have c_8z := q 3 3 (by decide) c_8
    have c_11z := q 4 4 (by decide) c_11
    have c_14z := q 5 5 (by decide) c_14
    have c_17z := q 6 6 (by decide) c_17
    have c_20z := q 7 7 (by decide) c_20
    have c_23z := q 8 8 (by decide) c_23
    have c_24z := q 9 9 (by decide) c_24
    have c_26z := q 10 10 (by decide) c_26
    have c_27z := q 11 11 (by decide) c_27
    have c_28z := q 12 12 (by decide) c_28
    have c_29z := q 13 13 (by decide) c_29
    have c_32z := q 14 14 (by decide) c_32
    have c_35z := q 15 15 (by decide) c_35
    have c_38z := q 16 16 (by decide) c_38
    have c_41z := q 17 17 (by decide) c_41
    omega
  refine lv_tableOut (tgt := 230) hx hb dX10_count_1 hout (by decide) ?_
  exact nq_throwN (BX := fun E => E = nq_NSE ∧ (sp_count i).1 = 1) (text := "no such count") hx hb hl0 hown hts (by first | exact fun w h => List.mem_cons_of_mem _ (List.mem_append_right _ h) | exact fun w h => List.mem_cons_of_mem _ (List.mem_append_left _ (List.mem_append_right _ h)) | decide +kernel) (by decide +kernel) (by decide +kernel) hXs hS (hl.1.trans hml.symm) htab hlocks (List.mem_of_getElem? (i := 2) rfl) dX10_count_230 dX10_count_233 dX10_count_234 dX10_count_236 dX10_count_239 (Nat.le_of_ble_eq_true rfl) (Nat.le_of_ble_eq_true rfl) (Nat.le_of_ble_eq_true rfl) (Nat.le_of_ble_eq_true rfl) (⟨rfl, by simp [sp_count, c_1, c_2, c_5, c_8, c_11, c_14, c_17, c_20, c_23, c_24, c_26, c_27, c_28, c_29, c_32, c_35, c_38, c_41]⟩) (Nat.le_of_ble_eq_true rfl) (Nat.le_of_ble_eq_true rfl)

set_option maxHeartbeats 4000000 in
set_option maxRecDepth 100000 in
theorem x_thing (l : Launch) (hl0 : l.stackTraces = false) (G : va_G) (y : Nat → ClassId) (sz : Nat) (h0 : Nat) (tp : Nat) (ps : Nat) (sp : Nat) (tk : Nat) (dr : Nat) (pr : Nat) (da : Nat) (nw : Nat) (im : Nat) (ac : Nat) (ke : Nat) (si : Nat) (tx : Nat) (an : Nat) (dw : Nat) (nwt : Nat) (nwb : Nat) (nwn : Nat) (nwi : Nat) (nwr : Nat) (nwtk : Nat) (nwtv : Nat) (nwte : Nat) (nwtd : Nat) (i : Int32) (j : Int32)  : vx_Met l yX10_thing wsX10_thing ({ frames := 7, cells := 2, slots := 12, locals := 121 }) (nq_PX G y sz [.ref h0, .int i, .int j] [(h0, .inr (10, [.ref tp, .int 0, .int (-1), .ref ps, .ref sp, .ref tk, .ref dr, .ref pr, .ref da, .ref nw, .ref im, .int 0, .ref ac, .ref ke, .ref si, .ref tx, .ref an, .ref dw])), (nw, .inr (6, [.ref nwt, .ref nwb, .int 0, .ref nwn, .ref nwi, .int 0, .ref nwr])), (nwt, .inr (9, [.ref nwtk, .ref nwtv, .ref nwte, .ref nwtd, .int 1])), (nwtk, .inl (y 0, 60, .inl (upd (fun _ => 0) 0 3))), (nwtd, .inl (y 0, 60, .inl (upd (fun _ => 0) 0 0))), (nwte, .inl (y 0, 60, .inl (upd (fun _ => 0) 0 0))), (ps, .inl (y 3, 4, .inr (.inr (.inr (.inr (fun _ => none)))))), (an, .inl (y 1, 4, .inr (.inl (fun _ => 0))))]) (va_Qi (fun (r : Int32) (_ : Unit) => (sp_thing i j).1 = 0 ∧ r = (sp_thing i j).2) (fun (u : Unit) t9 => va_P G vwCl ([]) t9.heap ∧ va_D (va_A [(h0, .inr (10, [.ref tp, .int 0, .int (-1), .ref ps, .ref sp, .ref tk, .ref dr, .ref pr, .ref da, .ref nw, .ref im, .int 0, .ref ac, .ref ke, .ref si, .ref tx, .ref an, .ref dw])), (nw, .inr (6, [.ref nwt, .ref nwb, .int 0, .ref nwn, .ref nwi, .int 0, .ref nwr])), (nwt, .inr (9, [.ref nwtk, .ref nwtv, .ref nwte, .ref nwtd, .int 1])), (nwtk, .inl (y 0, 60, .inl (upd (fun _ => 0) 0 3))), (nwtd, .inl (y 0, 60, .inl (upd (fun _ => 0) 0 0))), (nwte, .inl (y 0, 60, .inl (upd (fun _ => 0) 0 0))), (ps, .inl (y 3, 4, .inr (.inr (.inr (.inr (fun _ => none)))))), (an, .inl (y 1, 4, .inr (.inl (fun _ => 0))))] sz) ([])) (va_A [(h0, .inr (10, [.ref tp, .int 0, .int (-1), .ref ps, .ref sp, .ref tk, .ref dr, .ref pr, .ref da, .ref nw, .ref im, .int 0, .ref ac, .ref ke, .ref si, .ref tx, .ref an, .ref dw])), (nw, .inr (6, [.ref nwt, .ref nwb, .int 0, .ref nwn, .ref nwi, .int 0, .ref nwr])), (nwt, .inr (9, [.ref nwtk, .ref nwtv, .ref nwte, .ref nwtd, .int 1])), (nwtk, .inl (y 0, 60, .inl (upd (fun _ => 0) 0 3))), (nwtd, .inl (y 0, 60, .inl (upd (fun _ => 0) 0 0))), (nwte, .inl (y 0, 60, .inl (upd (fun _ => 0) 0 0))), (ps, .inl (y 3, 4, .inr (.inr (.inr (.inr (fun _ => none)))))), (an, .inl (y 1, 4, .inr (.inl (fun _ => 0))))] sz)) (vx_X (fun (_ : Unit) => True) (fun E _ _ => E = nq_NSE ∧ (sp_thing i j).1 = 1) (va_A [(h0, .inr (10, [.ref tp, .int 0, .int (-1), .ref ps, .ref sp, .ref tk, .ref dr, .ref pr, .ref da, .ref nw, .ref im, .int 0, .ref ac, .ref ke, .ref si, .ref tx, .ref an, .ref dw])), (nw, .inr (6, [.ref nwt, .ref nwb, .int 0, .ref nwn, .ref nwi, .int 0, .ref nwr])), (nwt, .inr (9, [.ref nwtk, .ref nwtv, .ref nwte, .ref nwtd, .int 1])), (nwtk, .inl (y 0, 60, .inl (upd (fun _ => 0) 0 3))), (nwtd, .inl (y 0, 60, .inl (upd (fun _ => 0) 0 0))), (nwte, .inl (y 0, 60, .inl (upd (fun _ => 0) 0 0))), (ps, .inl (y 3, 4, .inr (.inr (.inr (.inr (fun _ => none)))))), (an, .inl (y 1, 4, .inr (.inl (fun _ => 0))))] sz)) 2 12 (va_A [(h0, .inr (10, [.ref tp, .int 0, .int (-1), .ref ps, .ref sp, .ref tk, .ref dr, .ref pr, .ref da, .ref nw, .ref im, .int 0, .ref ac, .ref ke, .ref si, .ref tx, .ref an, .ref dw])), (nw, .inr (6, [.ref nwt, .ref nwb, .int 0, .ref nwn, .ref nwi, .int 0, .ref nwr])), (nwt, .inr (9, [.ref nwtk, .ref nwtv, .ref nwte, .ref nwtd, .int 1])), (nwtk, .inl (y 0, 60, .inl (upd (fun _ => 0) 0 3))), (nwtd, .inl (y 0, 60, .inl (upd (fun _ => 0) 0 0))), (nwte, .inl (y 0, 60, .inl (upd (fun _ => 0) 0 0))), (ps, .inl (y 3, 4, .inr (.inr (.inr (.inr (fun _ => none)))))), (an, .inl (y 1, 4, .inr (.inl (fun _ => 0))))] sz) := by
  refine vx_ofW (cc := cX10_thing) (maxL := 3) (ret := (some .int)) (by decide) rfl ?_
  intro p e s m args below meth c s₁ B hml htab hv
  obtain ⟨rfl, hsz, hP, hK, hD0, hXs⟩ := hv
  have hx := B.exec
  have hb := B.bytes
  have hr := B.returns
  have hts := atoms_spec (ws := wsX10_thing) B.pre
  have hown : s.vm.findClass RX10 = some m.cls := findClass_of_methodNamed B.named
  have hlocks := B.notSynchronized
  subst hsz
  have hD := hD0.self (sz := s.heap.size)
  generalize hAe : va_A [(h0, .inr (10, [.ref tp, .int 0, .int (-1), .ref ps, .ref sp, .ref tk, .ref dr, .ref pr, .ref da, .ref nw, .ref im, .int 0, .ref ac, .ref ke, .ref si, .ref tx, .ref an, .ref dw])), (nw, .inr (6, [.ref nwt, .ref nwb, .int 0, .ref nwn, .ref nwi, .int 0, .ref nwr])), (nwt, .inr (9, [.ref nwtk, .ref nwtv, .ref nwte, .ref nwtd, .int 1])), (nwtk, .inl (y 0, 60, .inl (upd (fun _ => 0) 0 3))), (nwtd, .inl (y 0, 60, .inl (upd (fun _ => 0) 0 0))), (nwte, .inl (y 0, 60, .inl (upd (fun _ => 0) 0 0))), (ps, .inl (y 3, 4, .inr (.inr (.inr (.inr (fun _ => none)))))), (an, .inl (y 1, 4, .inr (.inl (fun _ => 0))))] s.heap.size = A at hD hXs ⊢
  have hA : ∀ q : Nat, s.heap.size ≤ q → A q := fun q h => by rw [← hAe]; exact Or.inr h
  have hS : va_S A s.heap s.heap [] := va_S.rf
  have hP : va_P G vwCl [(h0, .inr (10, [.ref tp, .int 0, .int (-1), .ref ps, .ref sp, .ref tk, .ref dr, .ref pr, .ref da, .ref nw, .ref im, .int 0, .ref ac, .ref ke, .ref si, .ref tx, .ref an, .ref dw])), (nw, .inr (6, [.ref nwt, .ref nwb, .int 0, .ref nwn, .ref nwi, .int 0, .ref nwr])), (nwt, .inr (9, [.ref nwtk, .ref nwtv, .ref nwte, .ref nwtd, .int 1])), (nwtk, .inl (y 0, 60, .inl (upd (fun _ => 0) 0 3))), (nwtd, .inl (y 0, 60, .inl (upd (fun _ => 0) 0 0))), (nwte, .inl (y 0, 60, .inl (upd (fun _ => 0) 0 0))), (ps, .inl (y 3, 4, .inr (.inr (.inr (.inr (fun _ => none)))))), (an, .inl (y 1, 4, .inr (.inl (fun _ => 0))))] s.heap := hP
  have inX10 : ∀ w ∈ wsX100, w ∈ wsX10_thing := by decide +kernel
  have inX6 : ∀ w ∈ wsX60, w ∈ wsX10_thing := by decide +kernel
  have hl := lv_entry ([.ref h0, .int i, .int j]) (n := 3) (Nat.le_of_ble_eq_true rfl)
  rw [lg_entry_eq]
  generalize (lg_sl ([.ref h0, .int i, .int j]) ++ List.replicate (3 - (lg_sl ([.ref h0, .int i, .int j])).length) Slot.unset).toArray = ls at hl ⊢
  have hl : lv_has ls 3 [(0, .ref h0), (1, .int i), (2, .int j)] := hl
  refine lv_aload_n hx hb dX10_thing_0 rfl (lv_at hl 0 rfl) ?_
  refine lv_iload_n hx hb dX10_thing_1 rfl (lv_at hl 1 rfl) ?_
  refine nq_xv (wr := [(nwtd, .inl (y 0, 60, .inl (upd (fun _ => 0) 0 0))), (nwte, .inl (y 0, 60, .inl (upd (fun _ => 0) 0 0))), (ps, .inl (y 3, 4, .inr (.inr (.inr (.inr (fun _ => none)))))), (an, .inl (y 1, 4, .inr (.inl (fun _ => 0))))]) (vx_runV (As := [.int i]) (rest := []) ⟨hx, hb, hml, hown, hts⟩ (x_mustBeThere l hl0 G y s.heap.size h0 tp ps sp tk dr pr da nw im ac ke si tx an dw nwt nwb nwn nwi nwr nwtk nwtv nwte nwtd i ) (cwV 1 hts gX10_thing_X10_mustBeThere rfl rfl rfl (by decide +kernel) ⟨Nat.le_of_ble_eq_true rfl, Nat.le_of_ble_eq_true rfl⟩) (nq_PXV hK hP hD hS hA hXs [0, 1, 2, 3] rfl rfl 0 rfl rfl) rfl rfl hl.1 rfl (lv_room (Nat.le_of_ble_eq_true rfl)) dX10_thing_2 ⟨Nat.le_of_ble_eq_true rfl, Nat.le_of_ble_eq_true rfl⟩) hP hD hS hA [0, 1, 2, 3] [4, 5, 6, 7] rfl rfl (by decide) (by decide) (fun E ce q9 H9 locs9 hB hS9 hP9 hD9 h1 h2 h3 => by obtain ⟨rfl, hc0⟩ := hB; exact nq_out (BX := fun E => E = nq_NSE ∧ (sp_thing i j).1 = 1) htab hlocks hS9 (⟨rfl, by simp [sp_thing, hc0]⟩) h1 h2 h3 (Nat.le_of_ble_eq_true rfl) (Nat.le_of_ble_eq_true rfl)) (fun u_1 H locs hw_2 hP hD hS => ?_)
  have hP : va_P G vwCl [(nwtd, .inl (y 0, 60, .inl (upd (fun _ => 0) 0 0))), (nwte, .inl (y 0, 60, .inl (upd (fun _ => 0) 0 0))), (ps, .inl (y 3, 4, .inr (.inr (.inr (.inr (fun _ => none)))))), (an, .inl (y 1, 4, .inr (.inl (fun _ => 0)))), (h0, .inr (10, [.ref tp, .int 0, .int (-1), .ref ps, .ref sp, .ref tk, .ref dr, .ref pr, .ref da, .ref nw, .ref im, .int 0, .ref ac, .ref ke, .ref si, .ref tx, .ref an, .ref dw])), (nw, .inr (6, [.ref nwt, .ref nwb, .int 0, .ref nwn, .ref nwi, .int 0, .ref nwr])), (nwt, .inr (9, [.ref nwtk, .ref nwtv, .ref nwte, .ref nwtd, .int 1])), (nwtk, .inl (y 0, 60, .inl (upd (fun _ => 0) 0 3)))] H := hP
  have hD : va_D A [(nwtd, .inl (y 0, 60, .inl (upd (fun _ => 0) 0 0))), (nwte, .inl (y 0, 60, .inl (upd (fun _ => 0) 0 0))), (ps, .inl (y 3, 4, .inr (.inr (.inr (.inr (fun _ => none)))))), (an, .inl (y 1, 4, .inr (.inl (fun _ => 0)))), (h0, .inr (10, [.ref tp, .int 0, .int (-1), .ref ps, .ref sp, .ref tk, .ref dr, .ref pr, .ref da, .ref nw, .ref im, .int 0, .ref ac, .ref ke, .ref si, .ref tx, .ref an, .ref dw])), (nw, .inr (6, [.ref nwt, .ref nwb, .int 0, .ref nwn, .ref nwi, .int 0, .ref nwr])), (nwt, .inr (9, [.ref nwtk, .ref nwtv, .ref nwte, .ref nwtd, .int 1])), (nwtk, .inl (y 0, 60, .inl (upd (fun _ => 0) 0 3)))] := hD
  have c_4 := hw_2
  subst c_4
  refine lv_iload_n hx hb dX10_thing_5 rfl (lv_at hl 2 rfl) ?_
  by_cases c_6 : j = 0
  · subst c_6
    refine lv_tableIn (tgt := 60) hx hb dX10_thing_6 (by decide) (by decide) (by rfl) (by decide) ?_
    refine lv_aload_n hx hb dX10_thing_60 rfl (lv_at hl 0 rfl) ?_
    refine va_get (D := G) (ci := 10) (v := .ref nw) (C := RX10) (T := TX10) (N := 18) hx hb hts inX10 hown hK.1 hP 4 rfl rfl 9 (by decide) (hts (.fieldLink RX10 63 "NestQuery" "now" "LNestQuery$State;") (by decide +kernel)) (fun _ h9 => h9) rfl dX10_thing_61 ?_
    refine va_getN (D := G) (ci := 6) (v := .ref nwt) (C := RX6) (T := TX6) (N := 7) hx hb hts inX6 hown hK.1 hP 5 rfl rfl 0 (by decide) (va_Nw.use rfl (hK.2.1.1 _ (List.mem_of_getElem? (i := 13) rfl))) (fun _ h9 => h9) rfl dX10_thing_64 ?_
    refine lv_iload_n hx hb dX10_thing_67 rfl (lv_at hl 1 rfl) ?_
    refine nq_rdi (va_runV (As := [.int 0]) (rest := []) ⟨hx, hb, hml, hown, hts⟩ (c_kindAt l G y H.size nwt nwtk nwtv nwte nwtd (upd (fun _ => 0) 0 3) (pk_us)) (cwV 1 hts gX10_thing_X9_kindAt rfl rfl rfl (by decide +kernel) ⟨Nat.le_of_ble_eq_true rfl, Nat.le_of_ble_eq_true rfl⟩) (nq_PV hK hP hD [6, 7] rfl rfl 6 rfl rfl) rfl rfl hl.1 rfl (lv_room (Nat.le_of_ble_eq_true rfl)) dX10_thing_68 ⟨Nat.le_of_ble_eq_true rfl, Nat.le_of_ble_eq_true rfl⟩) hP hS hA (fun r_7 H locs hw_8 hP hS => ?_)
    subst hw_8
    have hP9 := hP.sub (ws' := []) [] rfl
    have hD9 := hD.sub (ws' := []) [] (by decide) rfl
    refine vx_ret ?_
    refine W.widen (k := 2) (n := 12) (Nat.le_of_ble_eq_true rfl) (Nat.le_of_ble_eq_true rfl) ?_
    exact W.iret (v := 3) hx hb hr (fun t ht hW => ⟨⟨3, (), rfl, ⟨by decide, by decide⟩, by rw [ht]; exact hP9, by first | exact hD9 | (rw [hAe]; exact hD9)⟩, hS.F ht⟩) hS.2.2 dX10_thing_71
  by_cases c_9 : j = 1
  · subst c_9
    refine lv_tableIn (tgt := 72) hx hb dX10_thing_6 (by decide) (by decide) (by rfl) (by decide) ?_
    refine lv_aload_n hx hb dX10_thing_72 rfl (lv_at hl 0 rfl) ?_
    refine va_get (D := G) (ci := 10) (v := .ref nw) (C := RX10) (T := TX10) (N := 18) hx hb hts inX10 hown hK.1 hP 4 rfl rfl 9 (by decide) (hts (.fieldLink RX10 63 "NestQuery" "now" "LNestQuery$State;") (by decide +kernel)) (fun _ h9 => h9) rfl dX10_thing_73 ?_
    refine va_getN (D := G) (ci := 6) (v := .ref nwt) (C := RX6) (T := TX6) (N := 7) hx hb hts inX6 hown hK.1 hP 5 rfl rfl 0 (by decide) (va_Nw.use rfl (hK.2.1.1 _ (List.mem_of_getElem? (i := 13) rfl))) (fun _ h9 => h9) rfl dX10_thing_76 ?_
    refine lv_iload_n hx hb dX10_thing_79 rfl (lv_at hl 1 rfl) ?_
    refine nq_rdi (va_runV (As := [.int 0]) (rest := []) ⟨hx, hb, hml, hown, hts⟩ (c_parentOf l G y H.size nwt nwtk nwtv nwte nwtd ) (cwV 1 hts gX10_thing_X9_parentOf rfl rfl rfl (by decide +kernel) ⟨Nat.le_of_ble_eq_true rfl, Nat.le_of_ble_eq_true rfl⟩) (nq_PV hK hP hD [6] rfl rfl 6 rfl rfl) rfl rfl hl.1 rfl (lv_room (Nat.le_of_ble_eq_true rfl)) dX10_thing_80 ⟨Nat.le_of_ble_eq_true rfl, Nat.le_of_ble_eq_true rfl⟩) hP hS hA (fun r_10 H locs hw_11 hP hS => ?_)
    subst hw_11
    have hP9 := hP.sub (ws' := []) [] rfl
    have hD9 := hD.sub (ws' := []) [] (by decide) rfl
    refine vx_ret ?_
    refine W.widen (k := 2) (n := 12) (Nat.le_of_ble_eq_true rfl) (Nat.le_of_ble_eq_true rfl) ?_
    exact W.iret (v := (-1)) hx hb hr (fun t ht hW => ⟨⟨(-1), (), rfl, ⟨by decide, by decide⟩, by rw [ht]; exact hP9, by first | exact hD9 | (rw [hAe]; exact hD9)⟩, hS.F ht⟩) hS.2.2 dX10_thing_83
  by_cases c_12 : j = 2
  · subst c_12
    refine lv_tableIn (tgt := 84) hx hb dX10_thing_6 (by decide) (by decide) (by rfl) (by decide) ?_
    refine lv_aload_n hx hb dX10_thing_84 rfl (lv_at hl 0 rfl) ?_
    refine va_get (D := G) (ci := 10) (v := .ref nw) (C := RX10) (T := TX10) (N := 18) hx hb hts inX10 hown hK.1 hP 4 rfl rfl 9 (by decide) (hts (.fieldLink RX10 63 "NestQuery" "now" "LNestQuery$State;") (by decide +kernel)) (fun _ h9 => h9) rfl dX10_thing_85 ?_
    refine va_getN (D := G) (ci := 6) (v := .ref nwt) (C := RX6) (T := TX6) (N := 7) hx hb hts inX6 hown hK.1 hP 5 rfl rfl 0 (by decide) (va_Nw.use rfl (hK.2.1.1 _ (List.mem_of_getElem? (i := 13) rfl))) (fun _ h9 => h9) rfl dX10_thing_88 ?_
    refine lv_iload_n hx hb dX10_thing_91 rfl (lv_at hl 1 rfl) ?_
    refine nq_rdi (va_runV (As := [.int 0]) (rest := []) ⟨hx, hb, hml, hown, hts⟩ (c_placeOf l G y H.size nwt nwtk nwtv nwte nwtd ) (cwV 1 hts gX10_thing_X9_placeOf rfl rfl rfl (by decide +kernel) ⟨Nat.le_of_ble_eq_true rfl, Nat.le_of_ble_eq_true rfl⟩) (nq_PV hK hP hD [6] rfl rfl 6 rfl rfl) rfl rfl hl.1 rfl (lv_room (Nat.le_of_ble_eq_true rfl)) dX10_thing_92 ⟨Nat.le_of_ble_eq_true rfl, Nat.le_of_ble_eq_true rfl⟩) hP hS hA (fun r_13 H locs hw_14 hP hS => ?_)
    subst hw_14
    have hP9 := hP.sub (ws' := []) [] rfl
    have hD9 := hD.sub (ws' := []) [] (by decide) rfl
    refine vx_ret ?_
    refine W.widen (k := 2) (n := 12) (Nat.le_of_ble_eq_true rfl) (Nat.le_of_ble_eq_true rfl) ?_
    exact W.iret (v := (-1)) hx hb hr (fun t ht hW => ⟨⟨(-1), (), rfl, ⟨by decide, by decide⟩, by rw [ht]; exact hP9, by first | exact hD9 | (rw [hAe]; exact hD9)⟩, hS.F ht⟩) hS.2.2 dX10_thing_95
  by_cases c_15 : j = 3
  · subst c_15
    refine lv_tableIn (tgt := 96) hx hb dX10_thing_6 (by decide) (by decide) (by rfl) (by decide) ?_
    refine lv_aload_n hx hb dX10_thing_96 rfl (lv_at hl 0 rfl) ?_
    refine va_get (D := G) (ci := 10) (v := .ref nw) (C := RX10) (T := TX10) (N := 18) hx hb hts inX10 hown hK.1 hP 4 rfl rfl 9 (by decide) (hts (.fieldLink RX10 63 "NestQuery" "now" "LNestQuery$State;") (by decide +kernel)) (fun _ h9 => h9) rfl dX10_thing_97 ?_
    refine va_getN (D := G) (ci := 6) (v := .ref nwt) (C := RX6) (T := TX6) (N := 7) hx hb hts inX6 hown hK.1 hP 5 rfl rfl 0 (by decide) (va_Nw.use rfl (hK.2.1.1 _ (List.mem_of_getElem? (i := 13) rfl))) (fun _ h9 => h9) rfl dX10_thing_100 ?_
    refine lv_iload_n hx hb dX10_thing_103 rfl (lv_at hl 1 rfl) ?_
    refine nq_rdi (va_runV (As := [.int 0]) (rest := []) ⟨hx, hb, hml, hown, hts⟩ (c_depthAt l G y H.size nwt nwtk nwtv nwte nwtd (upd (fun _ => 0) 0 0) (pk_us)) (cwV 1 hts gX10_thing_X9_depthAt rfl rfl rfl (by decide +kernel) ⟨Nat.le_of_ble_eq_true rfl, Nat.le_of_ble_eq_true rfl⟩) (nq_PV hK hP hD [6, 0] rfl rfl 6 rfl rfl) rfl rfl hl.1 rfl (lv_room (Nat.le_of_ble_eq_true rfl)) dX10_thing_104 ⟨Nat.le_of_ble_eq_true rfl, Nat.le_of_ble_eq_true rfl⟩) hP hS hA (fun r_16 H locs hw_17 hP hS => ?_)
    subst hw_17
    have hP9 := hP.sub (ws' := []) [] rfl
    have hD9 := hD.sub (ws' := []) [] (by decide) rfl
    refine vx_ret ?_
    refine W.widen (k := 2) (n := 12) (Nat.le_of_ble_eq_true rfl) (Nat.le_of_ble_eq_true rfl) ?_
    exact W.iret (v := 0) hx hb hr (fun t ht hW => ⟨⟨0, (), rfl, ⟨by decide, by decide⟩, by rw [ht]; exact hP9, by first | exact hD9 | (rw [hAe]; exact hD9)⟩, hS.F ht⟩) hS.2.2 dX10_thing_107
  by_cases c_18 : j = 4
  · subst c_18
    refine lv_tableIn (tgt := 108) hx hb dX10_thing_6 (by decide) (by decide) (by rfl) (by decide) ?_
    refine lv_aload_n hx hb dX10_thing_108 rfl (lv_at hl 0 rfl) ?_
    refine va_get (D := G) (ci := 10) (v := .ref nw) (C := RX10) (T := TX10) (N := 18) hx hb hts inX10 hown hK.1 hP 4 rfl rfl 9 (by decide) (hts (.fieldLink RX10 63 "NestQuery" "now" "LNestQuery$State;") (by decide +kernel)) (fun _ h9 => h9) rfl dX10_thing_109 ?_
    refine va_getN (D := G) (ci := 6) (v := .ref nwt) (C := RX6) (T := TX6) (N := 7) hx hb hts inX6 hown hK.1 hP 5 rfl rfl 0 (by decide) (va_Nw.use rfl (hK.2.1.1 _ (List.mem_of_getElem? (i := 13) rfl))) (fun _ h9 => h9) rfl dX10_thing_112 ?_
    refine lv_iload_n hx hb dX10_thing_115 rfl (lv_at hl 1 rfl) ?_
    refine nq_rdi (va_runV (As := [.int 0]) (rest := []) ⟨hx, hb, hml, hown, hts⟩ (c_childCount l G y H.size nwt nwtk nwtv nwte nwtd ) (cwV 1 hts gX10_thing_X9_childCount rfl rfl rfl (by decide +kernel) ⟨Nat.le_of_ble_eq_true rfl, Nat.le_of_ble_eq_true rfl⟩) (nq_PV hK hP hD [6] rfl rfl 6 rfl rfl) rfl rfl hl.1 rfl (lv_room (Nat.le_of_ble_eq_true rfl)) dX10_thing_116 ⟨Nat.le_of_ble_eq_true rfl, Nat.le_of_ble_eq_true rfl⟩) hP hS hA (fun r_19 H locs hw_20 hP hS => ?_)
    subst hw_20
    have hP9 := hP.sub (ws' := []) [] rfl
    have hD9 := hD.sub (ws' := []) [] (by decide) rfl
    refine vx_ret ?_
    refine W.widen (k := 2) (n := 12) (Nat.le_of_ble_eq_true rfl) (Nat.le_of_ble_eq_true rfl) ?_
    exact W.iret (v := 0) hx hb hr (fun t ht hW => ⟨⟨0, (), rfl, ⟨by decide, by decide⟩, by rw [ht]; exact hP9, by first | exact hD9 | (rw [hAe]; exact hD9)⟩, hS.F ht⟩) hS.2.2 dX10_thing_119
  by_cases c_21 : j = 5
  · subst c_21
    refine lv_tableIn (tgt := 120) hx hb dX10_thing_6 (by decide) (by decide) (by rfl) (by decide) ?_
    refine lv_aload_n hx hb dX10_thing_120 rfl (lv_at hl 0 rfl) ?_
    refine va_get (D := G) (ci := 10) (v := .ref nw) (C := RX10) (T := TX10) (N := 18) hx hb hts inX10 hown hK.1 hP 4 rfl rfl 9 (by decide) (hts (.fieldLink RX10 63 "NestQuery" "now" "LNestQuery$State;") (by decide +kernel)) (fun _ h9 => h9) rfl dX10_thing_121 ?_
    refine va_getN (D := G) (ci := 6) (v := .ref nwt) (C := RX6) (T := TX6) (N := 7) hx hb hts inX6 hown hK.1 hP 5 rfl rfl 0 (by decide) (va_Nw.use rfl (hK.2.1.1 _ (List.mem_of_getElem? (i := 13) rfl))) (fun _ h9 => h9) rfl dX10_thing_124 ?_
    refine lv_iload_n hx hb dX10_thing_127 rfl (lv_at hl 1 rfl) ?_
    refine nq_rdi (va_runV (As := [.int 0]) (rest := []) ⟨hx, hb, hml, hown, hts⟩ (c_end l G y H.size nwt nwtk nwtv nwte nwtd ) (cwV 1 hts gX10_thing_X9_end rfl rfl rfl (by decide +kernel) ⟨Nat.le_of_ble_eq_true rfl, Nat.le_of_ble_eq_true rfl⟩) (nq_PV hK hP hD [6] rfl rfl 6 rfl rfl) rfl rfl hl.1 rfl (lv_room (Nat.le_of_ble_eq_true rfl)) dX10_thing_128 ⟨Nat.le_of_ble_eq_true rfl, Nat.le_of_ble_eq_true rfl⟩) hP hS hA (fun r_22 H locs hw_23 hP hS => ?_)
    subst hw_23
    have hP9 := hP.sub (ws' := []) [] rfl
    have hD9 := hD.sub (ws' := []) [] (by decide) rfl
    refine vx_ret ?_
    refine W.widen (k := 2) (n := 12) (Nat.le_of_ble_eq_true rfl) (Nat.le_of_ble_eq_true rfl) ?_
    exact W.iret (v := 0) hx hb hr (fun t ht hW => ⟨⟨0, (), rfl, ⟨by decide, by decide⟩, by rw [ht]; exact hP9, by first | exact hD9 | (rw [hAe]; exact hD9)⟩, hS.F ht⟩) hS.2.2 dX10_thing_131
  by_cases c_24 : j = 6
  · subst c_24
    refine lv_tableIn (tgt := 132) hx hb dX10_thing_6 (by decide) (by decide) (by rfl) (by decide) ?_
    refine lv_aload_n hx hb dX10_thing_132 rfl (lv_at hl 0 rfl) ?_
    refine va_get (D := G) (ci := 10) (v := .ref nw) (C := RX10) (T := TX10) (N := 18) hx hb hts inX10 hown hK.1 hP 4 rfl rfl 9 (by decide) (hts (.fieldLink RX10 63 "NestQuery" "now" "LNestQuery$State;") (by decide +kernel)) (fun _ h9 => h9) rfl dX10_thing_133 ?_
    refine va_getN (D := G) (ci := 6) (v := .ref nwt) (C := RX6) (T := TX6) (N := 7) hx hb hts inX6 hown hK.1 hP 5 rfl rfl 0 (by decide) (va_Nw.use rfl (hK.2.1.1 _ (List.mem_of_getElem? (i := 13) rfl))) (fun _ h9 => h9) rfl dX10_thing_136 ?_
    refine lv_iload_n hx hb dX10_thing_139 rfl (lv_at hl 1 rfl) ?_
    refine nq_rdi (va_runV (As := [.int 0]) (rest := []) ⟨hx, hb, hml, hown, hts⟩ (c_kindAt l G y H.size nwt nwtk nwtv nwte nwtd (upd (fun _ => 0) 0 3) (pk_us)) (cwV 1 hts gX10_thing_X9_kindAt rfl rfl rfl (by decide +kernel) ⟨Nat.le_of_ble_eq_true rfl, Nat.le_of_ble_eq_true rfl⟩) (nq_PV hK hP hD [6, 7] rfl rfl 6 rfl rfl) rfl rfl hl.1 rfl (lv_room (Nat.le_of_ble_eq_true rfl)) dX10_thing_140 ⟨Nat.le_of_ble_eq_true rfl, Nat.le_of_ble_eq_true rfl⟩) hP hS hA (fun r_25 H locs hw_26 hP hS => ?_)
    subst hw_26
    refine lv_if_ne (tgt := 160) hx hb dX10_thing_143 (by decide) (fun _ => ?_) (fun c_27 => absurd c_27 (by decide))
    refine lv_sipush (v := (-1000)) hx hb dX10_thing_160 (by decide) ?_
    have hP9 := hP.sub (ws' := []) [] rfl
    have hD9 := hD.sub (ws' := []) [] (by decide) rfl
    refine vx_ret ?_
    refine W.widen (k := 2) (n := 12) (Nat.le_of_ble_eq_true rfl) (Nat.le_of_ble_eq_true rfl) ?_
    exact W.iret (v := (-1000)) hx hb hr (fun t ht hW => ⟨⟨(-1000), (), rfl, ⟨by decide, by decide⟩, by rw [ht]; exact hP9, by first | exact hD9 | (rw [hAe]; exact hD9)⟩, hS.F ht⟩) hS.2.2 dX10_thing_163
  by_cases c_28 : j = 7
  · subst c_28
    refine lv_tableIn (tgt := 164) hx hb dX10_thing_6 (by decide) (by decide) (by rfl) (by decide) ?_
    refine lv_aload_n hx hb dX10_thing_164 rfl (lv_at hl 0 rfl) ?_
    refine va_get (D := G) (ci := 10) (v := .ref nw) (C := RX10) (T := TX10) (N := 18) hx hb hts inX10 hown hK.1 hP 4 rfl rfl 9 (by decide) (hts (.fieldLink RX10 63 "NestQuery" "now" "LNestQuery$State;") (by decide +kernel)) (fun _ h9 => h9) rfl dX10_thing_165 ?_
    refine va_getN (D := G) (ci := 6) (v := .ref nwt) (C := RX6) (T := TX6) (N := 7) hx hb hts inX6 hown hK.1 hP 5 rfl rfl 0 (by decide) (va_Nw.use rfl (hK.2.1.1 _ (List.mem_of_getElem? (i := 13) rfl))) (fun _ h9 => h9) rfl dX10_thing_168 ?_
    refine lv_iload_n hx hb dX10_thing_171 rfl (lv_at hl 1 rfl) ?_
    refine nq_rdi (va_runV (As := [.int 0]) (rest := []) ⟨hx, hb, hml, hown, hts⟩ (c_keyAt l G y H.size nwt nwtk nwtv nwte nwtd (upd (fun _ => 0) 0 0) (pk_us)) (cwV 1 hts gX10_thing_X9_keyAt rfl rfl rfl (by decide +kernel) ⟨Nat.le_of_ble_eq_true rfl, Nat.le_of_ble_eq_true rfl⟩) (nq_PV hK hP hD [6, 1] rfl rfl 6 rfl rfl) rfl rfl hl.1 rfl (lv_room (Nat.le_of_ble_eq_true rfl)) dX10_thing_172 ⟨Nat.le_of_ble_eq_true rfl, Nat.le_of_ble_eq_true rfl⟩) hP hS hA (fun r_29 H locs hw_30 hP hS => ?_)
    subst hw_30
    refine nq_rdi (va_runS (As := [.int 0]) (rest := []) ⟨hx, hb, hml, hown, hts⟩ (c_lettersOf l G y H.size  ) (va_cwS 1 hts gX10_thing_X10_lettersOf rfl rfl rfl (by decide +kernel) ⟨Nat.le_of_ble_eq_true rfl, Nat.le_of_ble_eq_true rfl⟩) (nq_PS hK hP hD [] rfl rfl) rfl rfl hl.1 rfl (lv_room (Nat.le_of_ble_eq_true rfl)) dX10_thing_175 ⟨Nat.le_of_ble_eq_true rfl, Nat.le_of_ble_eq_true rfl⟩) hP hS hA (fun r_31 H locs hw_32 hP hS => ?_)
    subst hw_32
    have hP9 := hP.sub (ws' := []) [] rfl
    have hD9 := hD.sub (ws' := []) [] (by decide) rfl
    refine vx_ret ?_
    refine W.widen (k := 2) (n := 12) (Nat.le_of_ble_eq_true rfl) (Nat.le_of_ble_eq_true rfl) ?_
    exact W.iret (v := 0) hx hb hr (fun t ht hW => ⟨⟨0, (), rfl, ⟨by decide, by decide⟩, by rw [ht]; exact hP9, by first | exact hD9 | (rw [hAe]; exact hD9)⟩, hS.F ht⟩) hS.2.2 dX10_thing_178
  by_cases c_33 : j = 8
  · subst c_33
    refine lv_tableIn (tgt := 179) hx hb dX10_thing_6 (by decide) (by decide) (by rfl) (by decide) ?_
    refine lv_aload_n hx hb dX10_thing_179 rfl (lv_at hl 0 rfl) ?_
    refine va_get (D := G) (ci := 10) (v := .ref nw) (C := RX10) (T := TX10) (N := 18) hx hb hts inX10 hown hK.1 hP 4 rfl rfl 9 (by decide) (hts (.fieldLink RX10 63 "NestQuery" "now" "LNestQuery$State;") (by decide +kernel)) (fun _ h9 => h9) rfl dX10_thing_180 ?_
    refine va_getN (D := G) (ci := 6) (v := .ref nwt) (C := RX6) (T := TX6) (N := 7) hx hb hts inX6 hown hK.1 hP 5 rfl rfl 0 (by decide) (va_Nw.use rfl (hK.2.1.1 _ (List.mem_of_getElem? (i := 13) rfl))) (fun _ h9 => h9) rfl dX10_thing_183 ?_
    refine lv_iload_n hx hb dX10_thing_186 rfl (lv_at hl 1 rfl) ?_
    refine nq_rdi (va_runV (As := [.int 0]) (rest := []) ⟨hx, hb, hml, hown, hts⟩ (c_twinsOf l G y H.size nwt nwtk nwtv nwte nwtd ) (cwV 1 hts gX10_thing_X9_twinsOf rfl rfl rfl (by decide +kernel) ⟨Nat.le_of_ble_eq_true rfl, Nat.le_of_ble_eq_true rfl⟩) (nq_PV hK hP hD [6] rfl rfl 6 rfl rfl) rfl rfl hl.1 rfl (lv_room (Nat.le_of_ble_eq_true rfl)) dX10_thing_187 ⟨Nat.le_of_ble_eq_true rfl, Nat.le_of_ble_eq_true rfl⟩) hP hS hA (fun r_34 H locs hw_35 hP hS => ?_)
    subst hw_35
    have hP9 := hP.sub (ws' := []) [] rfl
    have hD9 := hD.sub (ws' := []) [] (by decide) rfl
    refine vx_ret ?_
    refine W.widen (k := 2) (n := 12) (Nat.le_of_ble_eq_true rfl) (Nat.le_of_ble_eq_true rfl) ?_
    exact W.iret (v := 0) hx hb hr (fun t ht hW => ⟨⟨0, (), rfl, ⟨by decide, by decide⟩, by rw [ht]; exact hP9, by first | exact hD9 | (rw [hAe]; exact hD9)⟩, hS.F ht⟩) hS.2.2 dX10_thing_190
  by_cases c_36 : j = 9
  · subst c_36
    refine lv_tableIn (tgt := 191) hx hb dX10_thing_6 (by decide) (by decide) (by rfl) (by decide) ?_
    refine lv_aload_n hx hb dX10_thing_191 rfl (lv_at hl 0 rfl) ?_
    refine lv_iload_n hx hb dX10_thing_192 rfl (lv_at hl 1 rfl) ?_
    refine nq_wri (wr := [(nwtd, .inl (y 0, 60, .inl (upd (fun _ => 0) 0 0))), (nwte, .inl (y 0, 60, .inl (upd (fun _ => 0) 0 0))), (nw, .inr (6, [.ref nwt, .ref nwb, .int 0, .ref nwn, .ref nwi, .int 0, .ref nwr])), (nwt, .inr (9, [.ref nwtk, .ref nwtv, .ref nwte, .ref nwtd, .int 1])), (nwtk, .inl (y 0, 60, .inl (upd (fun _ => 0) 0 3)))]) (va_runV (As := [.int 0]) (rest := []) ⟨hx, hb, hml, hown, hts⟩ (c_pathsAnswering l G y H.size h0 tp ps sp tk dr pr da nw im ac ke si tx an dw ) (cwV 1 hts gX10_thing_X10_pathsAnswering rfl rfl rfl (by decide +kernel) ⟨Nat.le_of_ble_eq_true rfl, Nat.le_of_ble_eq_true rfl⟩) (nq_PV hK hP hD [4, 2, 3] rfl rfl 4 rfl rfl) rfl rfl hl.1 rfl (lv_room (Nat.le_of_ble_eq_true rfl)) dX10_thing_193 ⟨Nat.le_of_ble_eq_true rfl, Nat.le_of_ble_eq_true rfl⟩) hP hD hS hA [4, 2, 3] [0, 1, 5, 6, 7] rfl rfl (by decide) (by decide) (fun r_39 u_37 H locs hw_38 hP hD hS => ?_)
    have hP : va_P G vwCl [(nwtd, .inl (y 0, 60, .inl (upd (fun _ => 0) 0 0))), (nwte, .inl (y 0, 60, .inl (upd (fun _ => 0) 0 0))), (nw, .inr (6, [.ref nwt, .ref nwb, .int 0, .ref nwn, .ref nwi, .int 0, .ref nwr])), (nwt, .inr (9, [.ref nwtk, .ref nwtv, .ref nwte, .ref nwtd, .int 1])), (nwtk, .inl (y 0, 60, .inl (upd (fun _ => 0) 0 3)))] H := hP
    have hD : va_D A [(nwtd, .inl (y 0, 60, .inl (upd (fun _ => 0) 0 0))), (nwte, .inl (y 0, 60, .inl (upd (fun _ => 0) 0 0))), (nw, .inr (6, [.ref nwt, .ref nwb, .int 0, .ref nwn, .ref nwi, .int 0, .ref nwr])), (nwt, .inr (9, [.ref nwtk, .ref nwtv, .ref nwte, .ref nwtd, .int 1])), (nwtk, .inl (y 0, 60, .inl (upd (fun _ => 0) 0 3)))] := hD
    subst hw_38
    have hP9 := hP.sub (ws' := []) [] rfl
    have hD9 := hD.sub (ws' := []) [] (by decide) rfl
    refine vx_ret ?_
    refine W.widen (k := 2) (n := 12) (Nat.le_of_ble_eq_true rfl) (Nat.le_of_ble_eq_true rfl) ?_
    exact W.iret (v := 0) hx hb hr (fun t ht hW => ⟨⟨0, (), rfl, ⟨by decide, by decide⟩, by rw [ht]; exact hP9, by first | exact hD9 | (rw [hAe]; exact hD9)⟩, hS.F ht⟩) hS.2.2 dX10_thing_196
  have hout : j.toInt < 0 ∨ 9 < j.toInt := by
    have q := fun (k : Int32) (z : Int) (hk : k.toInt = z) (h : ¬ j = k) (e : j.toInt = z) => h (Int32.toInt_inj.mp (by rw [hk]; exact e))
    have c_6z := q 0 0 (by decide) c_6
    have c_9z := q 1 1 (by decide) c_9
    have c_12z := q 2 2 (by decide) c_12
    have c_15z := q 3 3 (by decide) c_15
    have c_18z := q 4 4 (by decide) c_18
    have c_21z := q 5 5 (by decide) c_21
    have c_24z := q 6 6 (by decide) c_24
    have c_28z := q 7 7 (by decide) c_28
    have c_33z := q 8 8 (by decide) c_33
    have c_36z := q 9 9 (by decide) c_36
    omega
  refine lv_tableOut (tgt := 197) hx hb dX10_thing_6 hout (by decide) ?_
  exact nq_throwN (BX := fun E => E = nq_NSE ∧ (sp_thing 0 j).1 = 1) (text := "no such question about a thing") hx hb hl0 hown hts (by first | exact fun w h => List.mem_cons_of_mem _ (List.mem_append_right _ h) | exact fun w h => List.mem_cons_of_mem _ (List.mem_append_left _ (List.mem_append_right _ h)) | decide +kernel) (by decide +kernel) (by decide +kernel) hXs hS (hl.1.trans hml.symm) htab hlocks (List.mem_of_getElem? (i := 4) rfl) dX10_thing_197 dX10_thing_200 dX10_thing_201 dX10_thing_203 dX10_thing_206 (Nat.le_of_ble_eq_true rfl) (Nat.le_of_ble_eq_true rfl) (Nat.le_of_ble_eq_true rfl) (Nat.le_of_ble_eq_true rfl) (⟨rfl, by simp [sp_thing, c_6, c_9, c_12, c_15, c_18, c_21, c_24, c_28, c_33, c_36]⟩) (Nat.le_of_ble_eq_true rfl) (Nat.le_of_ble_eq_true rfl)

set_option maxHeartbeats 4000000 in
set_option maxRecDepth 100000 in
theorem x_within (l : Launch) (hl0 : l.stackTraces = false) (G : va_G) (y : Nat → ClassId) (sz : Nat) (h0 : Nat) (tp : Nat) (ps : Nat) (sp : Nat) (tk : Nat) (dr : Nat) (pr : Nat) (da : Nat) (nw : Nat) (im : Nat) (ac : Nat) (ke : Nat) (si : Nat) (tx : Nat) (an : Nat) (dw : Nat) (nwt : Nat) (nwb : Nat) (nwn : Nat) (nwi : Nat) (nwr : Nat) (nwtk : Nat) (nwtv : Nat) (nwte : Nat) (nwtd : Nat) (i : Int32) (j : Int32)  : vx_Met l yX10_within wsX10_within ({ frames := 7, cells := 2, slots := 12, locals := 121 }) (nq_PX G y sz [.ref h0, .int i, .int j] [(h0, .inr (10, [.ref tp, .int 0, .int (-1), .ref ps, .ref sp, .ref tk, .ref dr, .ref pr, .ref da, .ref nw, .ref im, .int 0, .ref ac, .ref ke, .ref si, .ref tx, .ref an, .ref dw])), (nw, .inr (6, [.ref nwt, .ref nwb, .int 0, .ref nwn, .ref nwi, .int 0, .ref nwr])), (nwt, .inr (9, [.ref nwtk, .ref nwtv, .ref nwte, .ref nwtd, .int 1])), (nwtk, .inl (y 0, 60, .inl (upd (fun _ => 0) 0 3)))]) (va_Qi (fun (r : Int32) (_ : Unit) => (sp_within i j).1 = 0 ∧ r = (sp_within i j).2) (fun (u : Unit) t9 => va_P G vwCl ([]) t9.heap ∧ va_D (va_A [(h0, .inr (10, [.ref tp, .int 0, .int (-1), .ref ps, .ref sp, .ref tk, .ref dr, .ref pr, .ref da, .ref nw, .ref im, .int 0, .ref ac, .ref ke, .ref si, .ref tx, .ref an, .ref dw])), (nw, .inr (6, [.ref nwt, .ref nwb, .int 0, .ref nwn, .ref nwi, .int 0, .ref nwr])), (nwt, .inr (9, [.ref nwtk, .ref nwtv, .ref nwte, .ref nwtd, .int 1])), (nwtk, .inl (y 0, 60, .inl (upd (fun _ => 0) 0 3)))] sz) ([])) (va_A [(h0, .inr (10, [.ref tp, .int 0, .int (-1), .ref ps, .ref sp, .ref tk, .ref dr, .ref pr, .ref da, .ref nw, .ref im, .int 0, .ref ac, .ref ke, .ref si, .ref tx, .ref an, .ref dw])), (nw, .inr (6, [.ref nwt, .ref nwb, .int 0, .ref nwn, .ref nwi, .int 0, .ref nwr])), (nwt, .inr (9, [.ref nwtk, .ref nwtv, .ref nwte, .ref nwtd, .int 1])), (nwtk, .inl (y 0, 60, .inl (upd (fun _ => 0) 0 3)))] sz)) (vx_X (fun (_ : Unit) => True) (fun E _ _ => E = nq_NSE ∧ (sp_within i j).1 = 1) (va_A [(h0, .inr (10, [.ref tp, .int 0, .int (-1), .ref ps, .ref sp, .ref tk, .ref dr, .ref pr, .ref da, .ref nw, .ref im, .int 0, .ref ac, .ref ke, .ref si, .ref tx, .ref an, .ref dw])), (nw, .inr (6, [.ref nwt, .ref nwb, .int 0, .ref nwn, .ref nwi, .int 0, .ref nwr])), (nwt, .inr (9, [.ref nwtk, .ref nwtv, .ref nwte, .ref nwtd, .int 1])), (nwtk, .inl (y 0, 60, .inl (upd (fun _ => 0) 0 3)))] sz)) 2 12 (va_A [(h0, .inr (10, [.ref tp, .int 0, .int (-1), .ref ps, .ref sp, .ref tk, .ref dr, .ref pr, .ref da, .ref nw, .ref im, .int 0, .ref ac, .ref ke, .ref si, .ref tx, .ref an, .ref dw])), (nw, .inr (6, [.ref nwt, .ref nwb, .int 0, .ref nwn, .ref nwi, .int 0, .ref nwr])), (nwt, .inr (9, [.ref nwtk, .ref nwtv, .ref nwte, .ref nwtd, .int 1])), (nwtk, .inl (y 0, 60, .inl (upd (fun _ => 0) 0 3)))] sz) := by
  refine vx_ofW (cc := cX10_within) (maxL := 4) (ret := (some .int)) (by decide) rfl ?_
  intro p e s m args below meth c s₁ B hml htab hv
  obtain ⟨rfl, hsz, hP, hK, hD0, hXs⟩ := hv
  have hx := B.exec
  have hb := B.bytes
  have hr := B.returns
  have hts := atoms_spec (ws := wsX10_within) B.pre
  have hown : s.vm.findClass RX10 = some m.cls := findClass_of_methodNamed B.named
  have hlocks := B.notSynchronized
  subst hsz
  have hD := hD0.self (sz := s.heap.size)
  generalize hAe : va_A [(h0, .inr (10, [.ref tp, .int 0, .int (-1), .ref ps, .ref sp, .ref tk, .ref dr, .ref pr, .ref da, .ref nw, .ref im, .int 0, .ref ac, .ref ke, .ref si, .ref tx, .ref an, .ref dw])), (nw, .inr (6, [.ref nwt, .ref nwb, .int 0, .ref nwn, .ref nwi, .int 0, .ref nwr])), (nwt, .inr (9, [.ref nwtk, .ref nwtv, .ref nwte, .ref nwtd, .int 1])), (nwtk, .inl (y 0, 60, .inl (upd (fun _ => 0) 0 3)))] s.heap.size = A at hD hXs ⊢
  have hA : ∀ q : Nat, s.heap.size ≤ q → A q := fun q h => by rw [← hAe]; exact Or.inr h
  have hS : va_S A s.heap s.heap [] := va_S.rf
  have hP : va_P G vwCl [(h0, .inr (10, [.ref tp, .int 0, .int (-1), .ref ps, .ref sp, .ref tk, .ref dr, .ref pr, .ref da, .ref nw, .ref im, .int 0, .ref ac, .ref ke, .ref si, .ref tx, .ref an, .ref dw])), (nw, .inr (6, [.ref nwt, .ref nwb, .int 0, .ref nwn, .ref nwi, .int 0, .ref nwr])), (nwt, .inr (9, [.ref nwtk, .ref nwtv, .ref nwte, .ref nwtd, .int 1])), (nwtk, .inl (y 0, 60, .inl (upd (fun _ => 0) 0 3)))] s.heap := hP
  have inX10 : ∀ w ∈ wsX100, w ∈ wsX10_within := by decide +kernel
  have inX6 : ∀ w ∈ wsX60, w ∈ wsX10_within := by decide +kernel
  have hl := lv_entry ([.ref h0, .int i, .int j]) (n := 4) (Nat.le_of_ble_eq_true rfl)
  rw [lg_entry_eq]
  generalize (lg_sl ([.ref h0, .int i, .int j]) ++ List.replicate (4 - (lg_sl ([.ref h0, .int i, .int j])).length) Slot.unset).toArray = ls at hl ⊢
  have hl : lv_has ls 4 [(0, .ref h0), (1, .int i), (2, .int j)] := hl
  refine lv_aload_n hx hb dX10_within_0 rfl (lv_at hl 0 rfl) ?_
  refine lv_iload_n hx hb dX10_within_1 rfl (lv_at hl 1 rfl) ?_
  refine nq_xv (wr := []) (vx_runV (As := [.int i]) (rest := []) ⟨hx, hb, hml, hown, hts⟩ (x_mustBeThere l hl0 G y s.heap.size h0 tp ps sp tk dr pr da nw im ac ke si tx an dw nwt nwb nwn nwi nwr nwtk nwtv nwte nwtd i ) (cwV 1 hts gX10_within_X10_mustBeThere rfl rfl rfl (by decide +kernel) ⟨Nat.le_of_ble_eq_true rfl, Nat.le_of_ble_eq_true rfl⟩) (nq_PXV hK hP hD hS hA hXs [0, 1, 2, 3] rfl rfl 0 rfl rfl) rfl rfl hl.1 rfl (lv_room (Nat.le_of_ble_eq_true rfl)) dX10_within_2 ⟨Nat.le_of_ble_eq_true rfl, Nat.le_of_ble_eq_true rfl⟩) hP hD hS hA [0, 1, 2, 3] [] rfl rfl (by decide) (by decide) (fun E ce q9 H9 locs9 hB hS9 hP9 hD9 h1 h2 h3 => by obtain ⟨rfl, hc0⟩ := hB; exact nq_out (BX := fun E => E = nq_NSE ∧ (sp_within i j).1 = 1) htab hlocks hS9 (⟨rfl, by simp [sp_within, hc0]⟩) h1 h2 h3 (Nat.le_of_ble_eq_true rfl) (Nat.le_of_ble_eq_true rfl)) (fun u_1 H locs hw_2 hP hD hS => ?_)
  have hP : va_P G vwCl [(h0, .inr (10, [.ref tp, .int 0, .int (-1), .ref ps, .ref sp, .ref tk, .ref dr, .ref pr, .ref da, .ref nw, .ref im, .int 0, .ref ac, .ref ke, .ref si, .ref tx, .ref an, .ref dw])), (nw, .inr (6, [.ref nwt, .ref nwb, .int 0, .ref nwn, .ref nwi, .int 0, .ref nwr])), (nwt, .inr (9, [.ref nwtk, .ref nwtv, .ref nwte, .ref nwtd, .int 1])), (nwtk, .inl (y 0, 60, .inl (upd (fun _ => 0) 0 3)))] H := hP
  have hD : va_D A [(h0, .inr (10, [.ref tp, .int 0, .int (-1), .ref ps, .ref sp, .ref tk, .ref dr, .ref pr, .ref da, .ref nw, .ref im, .int 0, .ref ac, .ref ke, .ref si, .ref tx, .ref an, .ref dw])), (nw, .inr (6, [.ref nwt, .ref nwb, .int 0, .ref nwn, .ref nwi, .int 0, .ref nwr])), (nwt, .inr (9, [.ref nwtk, .ref nwtv, .ref nwte, .ref nwtd, .int 1])), (nwtk, .inl (y 0, 60, .inl (upd (fun _ => 0) 0 3)))] := hD
  have c_4 := hw_2
  subst c_4
  refine lv_aload_n hx hb dX10_within_5 rfl (lv_at hl 0 rfl) ?_
  refine va_get (D := G) (ci := 10) (v := .ref nw) (C := RX10) (T := TX10) (N := 18) hx hb hts inX10 hown hK.1 hP 0 rfl rfl 9 (by decide) (hts (.fieldLink RX10 63 "NestQuery" "now" "LNestQuery$State;") (by decide +kernel)) (fun _ h9 => h9) rfl dX10_within_6 ?_
  refine va_getN (D := G) (ci := 6) (v := .ref nwt) (C := RX6) (T := TX6) (N := 7) hx hb hts inX6 hown hK.1 hP 1 rfl rfl 0 (by decide) (va_Nw.use rfl (hK.2.1.1 _ (List.mem_of_getElem? (i := 13) rfl))) (fun _ h9 => h9) rfl dX10_within_9 ?_
  refine lv_iload_n hx hb dX10_within_12 rfl (lv_at hl 1 rfl) ?_
  refine lv_iload_n hx hb dX10_within_13 rfl (lv_at hl 2 rfl) ?_
  refine nq_rdi (va_runV (As := [.int 0, .int j]) (rest := []) ⟨hx, hb, hml, hown, hts⟩ (c_childAt l G y H.size nwt nwtk nwtv nwte nwtd j ) (cwV 2 hts gX10_within_X9_childAt rfl rfl rfl (by decide +kernel) ⟨Nat.le_of_ble_eq_true rfl, Nat.le_of_ble_eq_true rfl⟩) (nq_PV hK hP hD [2] rfl rfl 2 rfl rfl) rfl rfl hl.1 rfl (lv_room (Nat.le_of_ble_eq_true rfl)) dX10_within_14 ⟨Nat.le_of_ble_eq_true rfl, Nat.le_of_ble_eq_true rfl⟩) hP hS hA (fun r_6 H locs hw_7 hP hS => ?_)
  subst hw_7
  refine lv_istore_n (lv' := [(3, .int (-1)), (0, .ref h0), (1, .int 0), (2, .int j)]) hx hb dX10_within_17 rfl hl (by decide) rfl (fun ls hl => ?_)
  refine lv_iload_n hx hb dX10_within_18 rfl (lv_at hl 0 rfl) ?_
  refine lv_iconst (v := (-1)) hx hb dX10_within_19 (by decide) ?_
  refine lv_icmp_ne (tgt := 33) hx hb dX10_within_20 (by decide) (fun c_8 => absurd c_8 (by decide)) (fun _ => ?_)
  exact nq_throwN (BX := fun E => E = nq_NSE ∧ (sp_within 0 j).1 = 1) (text := "no such thing at once within") hx hb hl0 hown hts (by first | exact fun w h => List.mem_cons_of_mem _ (List.mem_append_right _ h) | exact fun w h => List.mem_cons_of_mem _ (List.mem_append_left _ (List.mem_append_right _ h)) | decide +kernel) (by decide +kernel) (by decide +kernel) hXs hS (hl.1.trans hml.symm) htab hlocks (List.mem_of_getElem? (i := 5) rfl) dX10_within_23 dX10_within_26 dX10_within_27 dX10_within_29 dX10_within_32 (Nat.le_of_ble_eq_true rfl) (Nat.le_of_ble_eq_true rfl) (Nat.le_of_ble_eq_true rfl) (Nat.le_of_ble_eq_true rfl) (⟨rfl, by simp [sp_within]⟩) (Nat.le_of_ble_eq_true rfl) (Nat.le_of_ble_eq_true rfl)

set_option maxHeartbeats 4000000 in
set_option maxRecDepth 100000 in
theorem x_told (l : Launch) (hl0 : l.stackTraces = false) (G : va_G) (y : Nat → ClassId) (sz : Nat) (h0 : Nat) (tp : Nat) (ps : Nat) (sp : Nat) (tk : Nat) (dr : Nat) (pr : Nat) (da : Nat) (nw : Nat) (im : Nat) (ac : Nat) (ke : Nat) (si : Nat) (tx : Nat) (an : Nat) (dw : Nat) (nwt : Nat) (nwb : Nat) (nwn : Nat) (nwi : Nat) (nwr : Nat) (nwtk : Nat) (nwtv : Nat) (nwte : Nat) (nwtd : Nat) (txb : Nat) (i : Int32) (b : Int32) (j : Int32)  : vx_Met l yX10_told wsX10_told ({ frames := 7, cells := 2, slots := 12, locals := 121 }) (nq_PX G y sz [.ref h0, .int i, .int b, .int j] [(h0, .inr (10, [.ref tp, .int 0, .int (-1), .ref ps, .ref sp, .ref tk, .ref dr, .ref pr, .ref da, .ref nw, .ref im, .int 0, .ref ac, .ref ke, .ref si, .ref tx, .ref an, .ref dw])), (nw, .inr (6, [.ref nwt, .ref nwb, .int 0, .ref nwn, .ref nwi, .int 0, .ref nwr])), (nwt, .inr (9, [.ref nwtk, .ref nwtv, .ref nwte, .ref nwtd, .int 1])), (nwtk, .inl (y 0, 60, .inl (upd (fun _ => 0) 0 3))), (nwtd, .inl (y 0, 60, .inl (upd (fun _ => 0) 0 0))), (tx, .inr (7, [.ref txb, .int 0])), (txb, .inl (y 0, 1024, .inl (fun _ => 0)))]) (va_Qi (fun (r : Int32) (_ : Unit) => (sp_told i b j).1 = 0 ∧ r = (sp_told i b j).2) (fun (u : Unit) t9 => va_P G vwCl ([]) t9.heap ∧ va_D (va_A [(h0, .inr (10, [.ref tp, .int 0, .int (-1), .ref ps, .ref sp, .ref tk, .ref dr, .ref pr, .ref da, .ref nw, .ref im, .int 0, .ref ac, .ref ke, .ref si, .ref tx, .ref an, .ref dw])), (nw, .inr (6, [.ref nwt, .ref nwb, .int 0, .ref nwn, .ref nwi, .int 0, .ref nwr])), (nwt, .inr (9, [.ref nwtk, .ref nwtv, .ref nwte, .ref nwtd, .int 1])), (nwtk, .inl (y 0, 60, .inl (upd (fun _ => 0) 0 3))), (nwtd, .inl (y 0, 60, .inl (upd (fun _ => 0) 0 0))), (tx, .inr (7, [.ref txb, .int 0])), (txb, .inl (y 0, 1024, .inl (fun _ => 0)))] sz) ([])) (va_A [(h0, .inr (10, [.ref tp, .int 0, .int (-1), .ref ps, .ref sp, .ref tk, .ref dr, .ref pr, .ref da, .ref nw, .ref im, .int 0, .ref ac, .ref ke, .ref si, .ref tx, .ref an, .ref dw])), (nw, .inr (6, [.ref nwt, .ref nwb, .int 0, .ref nwn, .ref nwi, .int 0, .ref nwr])), (nwt, .inr (9, [.ref nwtk, .ref nwtv, .ref nwte, .ref nwtd, .int 1])), (nwtk, .inl (y 0, 60, .inl (upd (fun _ => 0) 0 3))), (nwtd, .inl (y 0, 60, .inl (upd (fun _ => 0) 0 0))), (tx, .inr (7, [.ref txb, .int 0])), (txb, .inl (y 0, 1024, .inl (fun _ => 0)))] sz)) (vx_X (fun (_ : Unit) => True) (fun E _ _ => E = nq_NSE ∧ (sp_told i b j).1 = 1) (va_A [(h0, .inr (10, [.ref tp, .int 0, .int (-1), .ref ps, .ref sp, .ref tk, .ref dr, .ref pr, .ref da, .ref nw, .ref im, .int 0, .ref ac, .ref ke, .ref si, .ref tx, .ref an, .ref dw])), (nw, .inr (6, [.ref nwt, .ref nwb, .int 0, .ref nwn, .ref nwi, .int 0, .ref nwr])), (nwt, .inr (9, [.ref nwtk, .ref nwtv, .ref nwte, .ref nwtd, .int 1])), (nwtk, .inl (y 0, 60, .inl (upd (fun _ => 0) 0 3))), (nwtd, .inl (y 0, 60, .inl (upd (fun _ => 0) 0 0))), (tx, .inr (7, [.ref txb, .int 0])), (txb, .inl (y 0, 1024, .inl (fun _ => 0)))] sz)) 2 12 (va_A [(h0, .inr (10, [.ref tp, .int 0, .int (-1), .ref ps, .ref sp, .ref tk, .ref dr, .ref pr, .ref da, .ref nw, .ref im, .int 0, .ref ac, .ref ke, .ref si, .ref tx, .ref an, .ref dw])), (nw, .inr (6, [.ref nwt, .ref nwb, .int 0, .ref nwn, .ref nwi, .int 0, .ref nwr])), (nwt, .inr (9, [.ref nwtk, .ref nwtv, .ref nwte, .ref nwtd, .int 1])), (nwtk, .inl (y 0, 60, .inl (upd (fun _ => 0) 0 3))), (nwtd, .inl (y 0, 60, .inl (upd (fun _ => 0) 0 0))), (tx, .inr (7, [.ref txb, .int 0])), (txb, .inl (y 0, 1024, .inl (fun _ => 0)))] sz) := by
  refine vx_ofW (cc := cX10_told) (maxL := 4) (ret := (some .int)) (by decide) rfl ?_
  intro p e s m args below meth c s₁ B hml htab hv
  obtain ⟨rfl, hsz, hP, hK, hD0, hXs⟩ := hv
  have hx := B.exec
  have hb := B.bytes
  have hr := B.returns
  have hts := atoms_spec (ws := wsX10_told) B.pre
  have hown : s.vm.findClass RX10 = some m.cls := findClass_of_methodNamed B.named
  have hlocks := B.notSynchronized
  subst hsz
  have hD := hD0.self (sz := s.heap.size)
  generalize hAe : va_A [(h0, .inr (10, [.ref tp, .int 0, .int (-1), .ref ps, .ref sp, .ref tk, .ref dr, .ref pr, .ref da, .ref nw, .ref im, .int 0, .ref ac, .ref ke, .ref si, .ref tx, .ref an, .ref dw])), (nw, .inr (6, [.ref nwt, .ref nwb, .int 0, .ref nwn, .ref nwi, .int 0, .ref nwr])), (nwt, .inr (9, [.ref nwtk, .ref nwtv, .ref nwte, .ref nwtd, .int 1])), (nwtk, .inl (y 0, 60, .inl (upd (fun _ => 0) 0 3))), (nwtd, .inl (y 0, 60, .inl (upd (fun _ => 0) 0 0))), (tx, .inr (7, [.ref txb, .int 0])), (txb, .inl (y 0, 1024, .inl (fun _ => 0)))] s.heap.size = A at hD hXs ⊢
  have hA : ∀ q : Nat, s.heap.size ≤ q → A q := fun q h => by rw [← hAe]; exact Or.inr h
  have hS : va_S A s.heap s.heap [] := va_S.rf
  have hP : va_P G vwCl [(h0, .inr (10, [.ref tp, .int 0, .int (-1), .ref ps, .ref sp, .ref tk, .ref dr, .ref pr, .ref da, .ref nw, .ref im, .int 0, .ref ac, .ref ke, .ref si, .ref tx, .ref an, .ref dw])), (nw, .inr (6, [.ref nwt, .ref nwb, .int 0, .ref nwn, .ref nwi, .int 0, .ref nwr])), (nwt, .inr (9, [.ref nwtk, .ref nwtv, .ref nwte, .ref nwtd, .int 1])), (nwtk, .inl (y 0, 60, .inl (upd (fun _ => 0) 0 3))), (nwtd, .inl (y 0, 60, .inl (upd (fun _ => 0) 0 0))), (tx, .inr (7, [.ref txb, .int 0])), (txb, .inl (y 0, 1024, .inl (fun _ => 0)))] s.heap := hP
  have inX10 : ∀ w ∈ wsX100, w ∈ wsX10_told := by decide +kernel
  have inX6 : ∀ w ∈ wsX60, w ∈ wsX10_told := by decide +kernel
  have hl := lv_entry ([.ref h0, .int i, .int b, .int j]) (n := 4) (Nat.le_of_ble_eq_true rfl)
  rw [lg_entry_eq]
  generalize (lg_sl ([.ref h0, .int i, .int b, .int j]) ++ List.replicate (4 - (lg_sl ([.ref h0, .int i, .int b, .int j])).length) Slot.unset).toArray = ls at hl ⊢
  have hl : lv_has ls 4 [(0, .ref h0), (1, .int i), (2, .int b), (3, .int j)] := hl
  refine lv_aload_n hx hb dX10_told_0 rfl (lv_at hl 0 rfl) ?_
  refine lv_iload_n hx hb dX10_told_1 rfl (lv_at hl 1 rfl) ?_
  refine nq_xv (wr := [(nwtd, .inl (y 0, 60, .inl (upd (fun _ => 0) 0 0))), (tx, .inr (7, [.ref txb, .int 0])), (txb, .inl (y 0, 1024, .inl (fun _ => 0)))]) (vx_runV (As := [.int i]) (rest := []) ⟨hx, hb, hml, hown, hts⟩ (x_mustBeThere l hl0 G y s.heap.size h0 tp ps sp tk dr pr da nw im ac ke si tx an dw nwt nwb nwn nwi nwr nwtk nwtv nwte nwtd i ) (cwV 1 hts gX10_told_X10_mustBeThere rfl rfl rfl (by decide +kernel) ⟨Nat.le_of_ble_eq_true rfl, Nat.le_of_ble_eq_true rfl⟩) (nq_PXV hK hP hD hS hA hXs [0, 1, 2, 3] rfl rfl 0 rfl rfl) rfl rfl hl.1 rfl (lv_room (Nat.le_of_ble_eq_true rfl)) dX10_told_2 ⟨Nat.le_of_ble_eq_true rfl, Nat.le_of_ble_eq_true rfl⟩) hP hD hS hA [0, 1, 2, 3] [4, 5, 6] rfl rfl (by decide) (by decide) (fun E ce q9 H9 locs9 hB hS9 hP9 hD9 h1 h2 h3 => by obtain ⟨rfl, hc0⟩ := hB; exact nq_out (BX := fun E => E = nq_NSE ∧ (sp_told i b j).1 = 1) htab hlocks hS9 (⟨rfl, by simp [sp_told, hc0]⟩) h1 h2 h3 (Nat.le_of_ble_eq_true rfl) (Nat.le_of_ble_eq_true rfl)) (fun u_1 H locs hw_2 hP hD hS => ?_)
  have hP : va_P G vwCl [(nwtd, .inl (y 0, 60, .inl (upd (fun _ => 0) 0 0))), (tx, .inr (7, [.ref txb, .int 0])), (txb, .inl (y 0, 1024, .inl (fun _ => 0))), (h0, .inr (10, [.ref tp, .int 0, .int (-1), .ref ps, .ref sp, .ref tk, .ref dr, .ref pr, .ref da, .ref nw, .ref im, .int 0, .ref ac, .ref ke, .ref si, .ref tx, .ref an, .ref dw])), (nw, .inr (6, [.ref nwt, .ref nwb, .int 0, .ref nwn, .ref nwi, .int 0, .ref nwr])), (nwt, .inr (9, [.ref nwtk, .ref nwtv, .ref nwte, .ref nwtd, .int 1])), (nwtk, .inl (y 0, 60, .inl (upd (fun _ => 0) 0 3)))] H := hP
  have hD : va_D A [(nwtd, .inl (y 0, 60, .inl (upd (fun _ => 0) 0 0))), (tx, .inr (7, [.ref txb, .int 0])), (txb, .inl (y 0, 1024, .inl (fun _ => 0))), (h0, .inr (10, [.ref tp, .int 0, .int (-1), .ref ps, .ref sp, .ref tk, .ref dr, .ref pr, .ref da, .ref nw, .ref im, .int 0, .ref ac, .ref ke, .ref si, .ref tx, .ref an, .ref dw])), (nw, .inr (6, [.ref nwt, .ref nwb, .int 0, .ref nwn, .ref nwi, .int 0, .ref nwr])), (nwt, .inr (9, [.ref nwtk, .ref nwtv, .ref nwte, .ref nwtd, .int 1])), (nwtk, .inl (y 0, 60, .inl (upd (fun _ => 0) 0 3)))] := hD
  have c_4 := hw_2
  subst c_4
  refine lv_aload_n hx hb dX10_told_5 rfl (lv_at hl 0 rfl) ?_
  refine va_get (D := G) (ci := 10) (v := .ref tx) (C := RX10) (T := TX10) (N := 18) hx hb hts inX10 hown hK.1 hP 3 rfl rfl 15 (by decide) (hts (.fieldLink RX10 92 "NestQuery" "text" "LNestQuery$TextOut;") (by decide +kernel)) (fun _ h9 => h9) rfl dX10_told_6 ?_
  refine nq_wrv (wr := [(nwtd, .inl (y 0, 60, .inl (upd (fun _ => 0) 0 0))), (txb, .inl (y 0, 1024, .inl (fun _ => 0))), (h0, .inr (10, [.ref tp, .int 0, .int (-1), .ref ps, .ref sp, .ref tk, .ref dr, .ref pr, .ref da, .ref nw, .ref im, .int 0, .ref ac, .ref ke, .ref si, .ref tx, .ref an, .ref dw])), (nw, .inr (6, [.ref nwt, .ref nwb, .int 0, .ref nwn, .ref nwi, .int 0, .ref nwr])), (nwt, .inr (9, [.ref nwtk, .ref nwtv, .ref nwte, .ref nwtd, .int 1])), (nwtk, .inl (y 0, 60, .inl (upd (fun _ => 0) 0 3)))]) (va_runV (As := []) (rest := []) ⟨hx, hb, hml, hown, hts⟩ (c_Text_clear l G y H.size tx txb ) (cwV 0 hts gX10_told_X7_clear rfl rfl rfl (by decide +kernel) ⟨Nat.le_of_ble_eq_true rfl, Nat.le_of_ble_eq_true rfl⟩) (nq_PV hK hP hD [1] rfl rfl 1 rfl rfl) rfl rfl hl.1 rfl (lv_room (Nat.le_of_ble_eq_true rfl)) dX10_told_9 ⟨Nat.le_of_ble_eq_true rfl, Nat.le_of_ble_eq_true rfl⟩) hP hD hS hA [1] [0, 2, 3, 4, 5, 6] rfl rfl (by decide) (by decide) (fun u_6 H locs hw_7 hP hD hS => ?_)
  have hP : va_P G vwCl [(nwtd, .inl (y 0, 60, .inl (upd (fun _ => 0) 0 0))), (txb, .inl (y 0, 1024, .inl (fun _ => 0))), (h0, .inr (10, [.ref tp, .int 0, .int (-1), .ref ps, .ref sp, .ref tk, .ref dr, .ref pr, .ref da, .ref nw, .ref im, .int 0, .ref ac, .ref ke, .ref si, .ref tx, .ref an, .ref dw])), (nw, .inr (6, [.ref nwt, .ref nwb, .int 0, .ref nwn, .ref nwi, .int 0, .ref nwr])), (nwt, .inr (9, [.ref nwtk, .ref nwtv, .ref nwte, .ref nwtd, .int 1])), (nwtk, .inl (y 0, 60, .inl (upd (fun _ => 0) 0 3))), (tx, .inr (7, [.ref txb, .int 0]))] H := hP
  have hD : va_D A [(nwtd, .inl (y 0, 60, .inl (upd (fun _ => 0) 0 0))), (txb, .inl (y 0, 1024, .inl (fun _ => 0))), (h0, .inr (10, [.ref tp, .int 0, .int (-1), .ref ps, .ref sp, .ref tk, .ref dr, .ref pr, .ref da, .ref nw, .ref im, .int 0, .ref ac, .ref ke, .ref si, .ref tx, .ref an, .ref dw])), (nw, .inr (6, [.ref nwt, .ref nwb, .int 0, .ref nwn, .ref nwi, .int 0, .ref nwr])), (nwt, .inr (9, [.ref nwtk, .ref nwtv, .ref nwte, .ref nwtd, .int 1])), (nwtk, .inl (y 0, 60, .inl (upd (fun _ => 0) 0 3))), (tx, .inr (7, [.ref txb, .int 0]))] := hD
  refine lv_iload_n hx hb dX10_told_12 rfl (lv_at hl 2 rfl) ?_
  refine lv_if_eq (tgt := 34) hx hb dX10_told_13 (by decide) (fun c_9 => ?_) (fun c_9 => ?_)
  · subst c_9
    refine lv_aload_n hx hb dX10_told_34 rfl (lv_at hl 0 rfl) ?_
    refine va_get (D := G) (ci := 10) (v := .ref tx) (C := RX10) (T := TX10) (N := 18) hx hb hts inX10 hown hK.1 hP 2 rfl rfl 15 (by decide) (hts (.fieldLink RX10 92 "NestQuery" "text" "LNestQuery$TextOut;") (by decide +kernel)) (fun _ h9 => h9) rfl dX10_told_35 ?_
    refine lv_aload_n hx hb dX10_told_38 rfl (lv_at hl 0 rfl) ?_
    refine va_get (D := G) (ci := 10) (v := .ref nw) (C := RX10) (T := TX10) (N := 18) hx hb hts inX10 hown hK.1 hP 2 rfl rfl 9 (by decide) (hts (.fieldLink RX10 63 "NestQuery" "now" "LNestQuery$State;") (by decide +kernel)) (fun _ h9 => h9) rfl dX10_told_39 ?_
    refine va_getN (D := G) (ci := 6) (v := .ref nwt) (C := RX6) (T := TX6) (N := 7) hx hb hts inX6 hown hK.1 hP 3 rfl rfl 0 (by decide) (va_Nw.use rfl (hK.2.1.1 _ (List.mem_of_getElem? (i := 13) rfl))) (fun _ h9 => h9) rfl dX10_told_42 ?_
    refine lv_iload_n hx hb dX10_told_45 rfl (lv_at hl 1 rfl) ?_
    refine lv_iconst (v := 0) hx hb dX10_told_46 (by decide) ?_
    refine nq_wrv (wr := [(nwtd, .inl (y 0, 60, .inl (upd (fun _ => 0) 0 0))), (h0, .inr (10, [.ref tp, .int 0, .int (-1), .ref ps, .ref sp, .ref tk, .ref dr, .ref pr, .ref da, .ref nw, .ref im, .int 0, .ref ac, .ref ke, .ref si, .ref tx, .ref an, .ref dw])), (nw, .inr (6, [.ref nwt, .ref nwb, .int 0, .ref nwn, .ref nwi, .int 0, .ref nwr]))]) (va_runV (As := [.ref nwt, .int 0, .int 0]) (rest := []) ⟨hx, hb, hml, hown, hts⟩ (c_writeThing l G y H.size tx txb nwt nwtk nwtv nwte nwtd ) (cwV 3 hts gX10_told_X7_writeThing rfl rfl rfl (by decide +kernel) ⟨Nat.le_of_ble_eq_true rfl, Nat.le_of_ble_eq_true rfl⟩) (nq_PV hK hP hD [6, 1, 4, 5] rfl rfl 6 rfl rfl) rfl rfl hl.1 rfl (lv_room (Nat.le_of_ble_eq_true rfl)) dX10_told_47 ⟨Nat.le_of_ble_eq_true rfl, Nat.le_of_ble_eq_true rfl⟩) hP hD hS hA [6, 1, 4, 5] [0, 2, 3] rfl rfl (by decide) (by decide) (fun u_10 H locs hw_11 hP hD hS => ?_)
    have hP : va_P G vwCl [(nwtd, .inl (y 0, 60, .inl (upd (fun _ => 0) 0 0))), (h0, .inr (10, [.ref tp, .int 0, .int (-1), .ref ps, .ref sp, .ref tk, .ref dr, .ref pr, .ref da, .ref nw, .ref im, .int 0, .ref ac, .ref ke, .ref si, .ref tx, .ref an, .ref dw])), (nw, .inr (6, [.ref nwt, .ref nwb, .int 0, .ref nwn, .ref nwi, .int 0, .ref nwr])), (tx, .inr (7, [.ref txb, .int 2])), (txb, .inl (y 0, 1024, .inl (upd (upd (fun _ => 0) 0 123) 1 125)))] H := hP
    have hD : va_D A [(nwtd, .inl (y 0, 60, .inl (upd (fun _ => 0) 0 0))), (h0, .inr (10, [.ref tp, .int 0, .int (-1), .ref ps, .ref sp, .ref tk, .ref dr, .ref pr, .ref da, .ref nw, .ref im, .int 0, .ref ac, .ref ke, .ref si, .ref tx, .ref an, .ref dw])), (nw, .inr (6, [.ref nwt, .ref nwb, .int 0, .ref nwn, .ref nwi, .int 0, .ref nwr])), (tx, .inr (7, [.ref txb, .int 2])), (txb, .inl (y 0, 1024, .inl (upd (upd (fun _ => 0) 0 123) 1 125)))] := hD
    refine lv_aload_n hx hb dX10_told_50 rfl (lv_at hl 0 rfl) ?_
    refine lv_iload_n hx hb dX10_told_51 rfl (lv_at hl 3 rfl) ?_
    refine nq_xi (wr := [(nwtd, .inl (y 0, 60, .inl (upd (fun _ => 0) 0 0))), (nw, .inr (6, [.ref nwt, .ref nwb, .int 0, .ref nwn, .ref nwi, .int 0, .ref nwr]))]) (vx_runV (As := [.int j]) (rest := []) ⟨hx, hb, hml, hown, hts⟩ (x_ofText2 l hl0 G y H.size h0 tp ps sp tk dr pr da nw im ac ke si tx an dw txb j ) (cwV 1 hts gX10_told_X10_ofText rfl rfl rfl (by decide +kernel) ⟨Nat.le_of_ble_eq_true rfl, Nat.le_of_ble_eq_true rfl⟩) (nq_PXV hK hP hD hS hA hXs [1, 3, 4] rfl rfl 1 rfl rfl) rfl rfl hl.1 rfl (lv_room (Nat.le_of_ble_eq_true rfl)) dX10_told_52 ⟨Nat.le_of_ble_eq_true rfl, Nat.le_of_ble_eq_true rfl⟩) hP hD hS hA [1, 3, 4] [0, 2] rfl rfl (by decide) (by decide) (fun E ce q9 H9 locs9 hB hS9 hP9 hD9 h1 h2 h3 => by obtain ⟨rfl, hc0, hc1, hc2⟩ := hB; exact nq_out (BX := fun E => E = nq_NSE ∧ (sp_told 0 0 j).1 = 1) htab hlocks hS9 (⟨rfl, by simp [sp_told, hc0, hc1, hc2]⟩) h1 h2 h3 (Nat.le_of_ble_eq_true rfl) (Nat.le_of_ble_eq_true rfl)) (fun r_15 u_13 H locs hw_14 hP hD hS => ?_)
    have hP : va_P G vwCl [(nwtd, .inl (y 0, 60, .inl (upd (fun _ => 0) 0 0))), (nw, .inr (6, [.ref nwt, .ref nwb, .int 0, .ref nwn, .ref nwi, .int 0, .ref nwr]))] H := hP
    have hD : va_D A [(nwtd, .inl (y 0, 60, .inl (upd (fun _ => 0) 0 0))), (nw, .inr (6, [.ref nwt, .ref nwb, .int 0, .ref nwn, .ref nwi, .int 0, .ref nwr]))] := hD
    rcases hw_14 with ⟨c_16, hr_17⟩ | ⟨c_18, hr_19⟩ | ⟨c_20, hr_21⟩
    · subst c_16
      subst hr_17
      have hP9 := hP.sub (ws' := []) [] rfl
      have hD9 := hD.sub (ws' := []) [] (by decide) rfl
      refine vx_ret ?_
      refine W.widen (k := 2) (n := 12) (Nat.le_of_ble_eq_true rfl) (Nat.le_of_ble_eq_true rfl) ?_
      exact W.iret (v := 2) hx hb hr (fun t ht hW => ⟨⟨2, (), rfl, ⟨by decide, by decide⟩, by rw [ht]; exact hP9, by first | exact hD9 | (rw [hAe]; exact hD9)⟩, hS.F ht⟩) hS.2.2 dX10_told_55
    · subst c_18
      subst hr_19
      have hP9 := hP.sub (ws' := []) [] rfl
      have hD9 := hD.sub (ws' := []) [] (by decide) rfl
      refine vx_ret ?_
      refine W.widen (k := 2) (n := 12) (Nat.le_of_ble_eq_true rfl) (Nat.le_of_ble_eq_true rfl) ?_
      exact W.iret (v := 123) hx hb hr (fun t ht hW => ⟨⟨123, (), rfl, ⟨by decide, by decide⟩, by rw [ht]; exact hP9, by first | exact hD9 | (rw [hAe]; exact hD9)⟩, hS.F ht⟩) hS.2.2 dX10_told_55
    · subst c_20
      subst hr_21
      have hP9 := hP.sub (ws' := []) [] rfl
      have hD9 := hD.sub (ws' := []) [] (by decide) rfl
      refine vx_ret ?_
      refine W.widen (k := 2) (n := 12) (Nat.le_of_ble_eq_true rfl) (Nat.le_of_ble_eq_true rfl) ?_
      exact W.iret (v := 125) hx hb hr (fun t ht hW => ⟨⟨125, (), rfl, ⟨by decide, by decide⟩, by rw [ht]; exact hP9, by first | exact hD9 | (rw [hAe]; exact hD9)⟩, hS.F ht⟩) hS.2.2 dX10_told_55
  · refine lv_aload_n hx hb dX10_told_16 rfl (lv_at hl 0 rfl) ?_
    refine va_get (D := G) (ci := 10) (v := .ref tx) (C := RX10) (T := TX10) (N := 18) hx hb hts inX10 hown hK.1 hP 2 rfl rfl 15 (by decide) (hts (.fieldLink RX10 92 "NestQuery" "text" "LNestQuery$TextOut;") (by decide +kernel)) (fun _ h9 => h9) rfl dX10_told_17 ?_
    refine lv_aload_n hx hb dX10_told_20 rfl (lv_at hl 0 rfl) ?_
    refine va_get (D := G) (ci := 10) (v := .ref nw) (C := RX10) (T := TX10) (N := 18) hx hb hts inX10 hown hK.1 hP 2 rfl rfl 9 (by decide) (hts (.fieldLink RX10 63 "NestQuery" "now" "LNestQuery$State;") (by decide +kernel)) (fun _ h9 => h9) rfl dX10_told_21 ?_
    refine va_getN (D := G) (ci := 6) (v := .ref nwt) (C := RX6) (T := TX6) (N := 7) hx hb hts inX6 hown hK.1 hP 3 rfl rfl 0 (by decide) (va_Nw.use rfl (hK.2.1.1 _ (List.mem_of_getElem? (i := 13) rfl))) (fun _ h9 => h9) rfl dX10_told_24 ?_
    refine lv_iload_n hx hb dX10_told_27 rfl (lv_at hl 1 rfl) ?_
    refine nq_wrv (wr := [(txb, .inl (y 0, 1024, .inl (fun _ => 0))), (h0, .inr (10, [.ref tp, .int 0, .int (-1), .ref ps, .ref sp, .ref tk, .ref dr, .ref pr, .ref da, .ref nw, .ref im, .int 0, .ref ac, .ref ke, .ref si, .ref tx, .ref an, .ref dw])), (nw, .inr (6, [.ref nwt, .ref nwb, .int 0, .ref nwn, .ref nwi, .int 0, .ref nwr])), (nwtk, .inl (y 0, 60, .inl (upd (fun _ => 0) 0 3)))]) (va_runV (As := [.ref nwt, .int 0]) (rest := []) ⟨hx, hb, hml, hown, hts⟩ (c_writePath l G y H.size tx txb nwt nwtk nwtv nwte nwtd ) (cwV 2 hts gX10_told_X7_writePath rfl rfl rfl (by decide +kernel) ⟨Nat.le_of_ble_eq_true rfl, Nat.le_of_ble_eq_true rfl⟩) (nq_PV hK hP hD [6, 4, 0] rfl rfl 6 rfl rfl) rfl rfl hl.1 rfl (lv_room (Nat.le_of_ble_eq_true rfl)) dX10_told_28 ⟨Nat.le_of_ble_eq_true rfl, Nat.le_of_ble_eq_true rfl⟩) hP hD hS hA [6, 4, 0] [1, 2, 3, 5] rfl rfl (by decide) (by decide) (fun u_22 H locs hw_23 hP hD hS => ?_)
    have hP : va_P G vwCl [(txb, .inl (y 0, 1024, .inl (fun _ => 0))), (h0, .inr (10, [.ref tp, .int 0, .int (-1), .ref ps, .ref sp, .ref tk, .ref dr, .ref pr, .ref da, .ref nw, .ref im, .int 0, .ref ac, .ref ke, .ref si, .ref tx, .ref an, .ref dw])), (nw, .inr (6, [.ref nwt, .ref nwb, .int 0, .ref nwn, .ref nwi, .int 0, .ref nwr])), (nwtk, .inl (y 0, 60, .inl (upd (fun _ => 0) 0 3))), (tx, .inr (7, [.ref txb, .int 0]))] H := hP
    have hD : va_D A [(txb, .inl (y 0, 1024, .inl (fun _ => 0))), (h0, .inr (10, [.ref tp, .int 0, .int (-1), .ref ps, .ref sp, .ref tk, .ref dr, .ref pr, .ref da, .ref nw, .ref im, .int 0, .ref ac, .ref ke, .ref si, .ref tx, .ref an, .ref dw])), (nw, .inr (6, [.ref nwt, .ref nwb, .int 0, .ref nwn, .ref nwi, .int 0, .ref nwr])), (nwtk, .inl (y 0, 60, .inl (upd (fun _ => 0) 0 3))), (tx, .inr (7, [.ref txb, .int 0]))] := hD
    refine lv_goto (tgt := 50) hx hb dX10_told_31 (by decide) ?_
    refine lv_aload_n hx hb dX10_told_50 rfl (lv_at hl 0 rfl) ?_
    refine lv_iload_n hx hb dX10_told_51 rfl (lv_at hl 3 rfl) ?_
    refine nq_xi (wr := [(txb, .inl (y 0, 1024, .inl (fun _ => 0))), (nw, .inr (6, [.ref nwt, .ref nwb, .int 0, .ref nwn, .ref nwi, .int 0, .ref nwr])), (nwtk, .inl (y 0, 60, .inl (upd (fun _ => 0) 0 3)))]) (vx_runV (As := [.int j]) (rest := []) ⟨hx, hb, hml, hown, hts⟩ (x_ofText0 l hl0 G y H.size h0 tp ps sp tk dr pr da nw im ac ke si tx an dw txb j ) (cwV 1 hts gX10_told_X10_ofText rfl rfl rfl (by decide +kernel) ⟨Nat.le_of_ble_eq_true rfl, Nat.le_of_ble_eq_true rfl⟩) (nq_PXV hK hP hD hS hA hXs [1, 4] rfl rfl 1 rfl rfl) rfl rfl hl.1 rfl (lv_room (Nat.le_of_ble_eq_true rfl)) dX10_told_52 ⟨Nat.le_of_ble_eq_true rfl, Nat.le_of_ble_eq_true rfl⟩) hP hD hS hA [1, 4] [0, 2, 3] rfl rfl (by decide) (by decide) (fun E ce q9 H9 locs9 hB hS9 hP9 hD9 h1 h2 h3 => by obtain ⟨rfl, hc0⟩ := hB; exact nq_out (BX := fun E => E = nq_NSE ∧ (sp_told 0 b j).1 = 1) htab hlocks hS9 (⟨rfl, by simp [sp_told, hc0, c_9]⟩) h1 h2 h3 (Nat.le_of_ble_eq_true rfl) (Nat.le_of_ble_eq_true rfl)) (fun r_27 u_25 H locs hw_26 hP hD hS => ?_)
    have hP : va_P G vwCl [(txb, .inl (y 0, 1024, .inl (fun _ => 0))), (nw, .inr (6, [.ref nwt, .ref nwb, .int 0, .ref nwn, .ref nwi, .int 0, .ref nwr])), (nwtk, .inl (y 0, 60, .inl (upd (fun _ => 0) 0 3)))] H := hP
    have hD : va_D A [(txb, .inl (y 0, 1024, .inl (fun _ => 0))), (nw, .inr (6, [.ref nwt, .ref nwb, .int 0, .ref nwn, .ref nwi, .int 0, .ref nwr])), (nwtk, .inl (y 0, 60, .inl (upd (fun _ => 0) 0 3)))] := hD
    obtain ⟨c_28, hr_29⟩ := hw_26
    subst c_28
    subst hr_29
    have hP9 := hP.sub (ws' := []) [] rfl
    have hD9 := hD.sub (ws' := []) [] (by decide) rfl
    refine vx_ret ?_
    refine W.widen (k := 2) (n := 12) (Nat.le_of_ble_eq_true rfl) (Nat.le_of_ble_eq_true rfl) ?_
    exact W.iret (v := 0) hx hb hr (fun t ht hW => ⟨⟨0, (), rfl, ⟨by simp [sp_told, c_9], by simp [sp_told, c_9]⟩, by rw [ht]; exact hP9, by first | exact hD9 | (rw [hAe]; exact hD9)⟩, hS.F ht⟩) hS.2.2 dX10_told_55

set_option maxHeartbeats 4000000 in
set_option maxRecDepth 100000 in
theorem x_alike (l : Launch) (hl0 : l.stackTraces = false) (G : va_G) (y : Nat → ClassId) (sz : Nat) (h0 : Nat) (tp : Nat) (ps : Nat) (sp : Nat) (tk : Nat) (dr : Nat) (pr : Nat) (da : Nat) (nw : Nat) (im : Nat) (ac : Nat) (ke : Nat) (si : Nat) (tx : Nat) (an : Nat) (dw : Nat) (nwt : Nat) (nwb : Nat) (nwn : Nat) (nwi : Nat) (nwr : Nat) (nwtk : Nat) (nwtv : Nat) (nwte : Nat) (nwtd : Nat) (i : Int32) (j : Int32)  : vx_Met l yX10_alike wsX10_alike ({ frames := 7, cells := 2, slots := 12, locals := 121 }) (nq_PX G y sz [.ref h0, .int i, .int j] [(h0, .inr (10, [.ref tp, .int 0, .int (-1), .ref ps, .ref sp, .ref tk, .ref dr, .ref pr, .ref da, .ref nw, .ref im, .int 0, .ref ac, .ref ke, .ref si, .ref tx, .ref an, .ref dw])), (nw, .inr (6, [.ref nwt, .ref nwb, .int 0, .ref nwn, .ref nwi, .int 0, .ref nwr])), (nwt, .inr (9, [.ref nwtk, .ref nwtv, .ref nwte, .ref nwtd, .int 1])), (nwtk, .inl (y 0, 60, .inl (upd (fun _ => 0) 0 3)))]) (va_Qi (fun (r : Int32) (_ : Unit) => (sp_alike i j).1 = 0 ∧ r = (sp_alike i j).2) (fun (u : Unit) t9 => va_P G vwCl ([]) t9.heap ∧ va_D (va_A [(h0, .inr (10, [.ref tp, .int 0, .int (-1), .ref ps, .ref sp, .ref tk, .ref dr, .ref pr, .ref da, .ref nw, .ref im, .int 0, .ref ac, .ref ke, .ref si, .ref tx, .ref an, .ref dw])), (nw, .inr (6, [.ref nwt, .ref nwb, .int 0, .ref nwn, .ref nwi, .int 0, .ref nwr])), (nwt, .inr (9, [.ref nwtk, .ref nwtv, .ref nwte, .ref nwtd, .int 1])), (nwtk, .inl (y 0, 60, .inl (upd (fun _ => 0) 0 3)))] sz) ([])) (va_A [(h0, .inr (10, [.ref tp, .int 0, .int (-1), .ref ps, .ref sp, .ref tk, .ref dr, .ref pr, .ref da, .ref nw, .ref im, .int 0, .ref ac, .ref ke, .ref si, .ref tx, .ref an, .ref dw])), (nw, .inr (6, [.ref nwt, .ref nwb, .int 0, .ref nwn, .ref nwi, .int 0, .ref nwr])), (nwt, .inr (9, [.ref nwtk, .ref nwtv, .ref nwte, .ref nwtd, .int 1])), (nwtk, .inl (y 0, 60, .inl (upd (fun _ => 0) 0 3)))] sz)) (vx_X (fun (_ : Unit) => True) (fun E _ _ => E = nq_NSE ∧ (sp_alike i j).1 = 1) (va_A [(h0, .inr (10, [.ref tp, .int 0, .int (-1), .ref ps, .ref sp, .ref tk, .ref dr, .ref pr, .ref da, .ref nw, .ref im, .int 0, .ref ac, .ref ke, .ref si, .ref tx, .ref an, .ref dw])), (nw, .inr (6, [.ref nwt, .ref nwb, .int 0, .ref nwn, .ref nwi, .int 0, .ref nwr])), (nwt, .inr (9, [.ref nwtk, .ref nwtv, .ref nwte, .ref nwtd, .int 1])), (nwtk, .inl (y 0, 60, .inl (upd (fun _ => 0) 0 3)))] sz)) 2 12 (va_A [(h0, .inr (10, [.ref tp, .int 0, .int (-1), .ref ps, .ref sp, .ref tk, .ref dr, .ref pr, .ref da, .ref nw, .ref im, .int 0, .ref ac, .ref ke, .ref si, .ref tx, .ref an, .ref dw])), (nw, .inr (6, [.ref nwt, .ref nwb, .int 0, .ref nwn, .ref nwi, .int 0, .ref nwr])), (nwt, .inr (9, [.ref nwtk, .ref nwtv, .ref nwte, .ref nwtd, .int 1])), (nwtk, .inl (y 0, 60, .inl (upd (fun _ => 0) 0 3)))] sz) := by
  refine vx_ofW (cc := cX10_alike) (maxL := 3) (ret := (some .int)) (by decide) rfl ?_
  intro p e s m args below meth c s₁ B hml htab hv
  obtain ⟨rfl, hsz, hP, hK, hD0, hXs⟩ := hv
  have hx := B.exec
  have hb := B.bytes
  have hr := B.returns
  have hts := atoms_spec (ws := wsX10_alike) B.pre
  have hown : s.vm.findClass RX10 = some m.cls := findClass_of_methodNamed B.named
  have hlocks := B.notSynchronized
  subst hsz
  have hD := hD0.self (sz := s.heap.size)
  generalize hAe : va_A [(h0, .inr (10, [.ref tp, .int 0, .int (-1), .ref ps, .ref sp, .ref tk, .ref dr, .ref pr, .ref da, .ref nw, .ref im, .int 0, .ref ac, .ref ke, .ref si, .ref tx, .ref an, .ref dw])), (nw, .inr (6, [.ref nwt, .ref nwb, .int 0, .ref nwn, .ref nwi, .int 0, .ref nwr])), (nwt, .inr (9, [.ref nwtk, .ref nwtv, .ref nwte, .ref nwtd, .int 1])), (nwtk, .inl (y 0, 60, .inl (upd (fun _ => 0) 0 3)))] s.heap.size = A at hD hXs ⊢
  have hA : ∀ q : Nat, s.heap.size ≤ q → A q := fun q h => by rw [← hAe]; exact Or.inr h
  have hS : va_S A s.heap s.heap [] := va_S.rf
  have hP : va_P G vwCl [(h0, .inr (10, [.ref tp, .int 0, .int (-1), .ref ps, .ref sp, .ref tk, .ref dr, .ref pr, .ref da, .ref nw, .ref im, .int 0, .ref ac, .ref ke, .ref si, .ref tx, .ref an, .ref dw])), (nw, .inr (6, [.ref nwt, .ref nwb, .int 0, .ref nwn, .ref nwi, .int 0, .ref nwr])), (nwt, .inr (9, [.ref nwtk, .ref nwtv, .ref nwte, .ref nwtd, .int 1])), (nwtk, .inl (y 0, 60, .inl (upd (fun _ => 0) 0 3)))] s.heap := hP
  have inX10 : ∀ w ∈ wsX100, w ∈ wsX10_alike := by decide +kernel
  have inX6 : ∀ w ∈ wsX60, w ∈ wsX10_alike := by decide +kernel
  have hl := lv_entry ([.ref h0, .int i, .int j]) (n := 3) (Nat.le_of_ble_eq_true rfl)
  rw [lg_entry_eq]
  generalize (lg_sl ([.ref h0, .int i, .int j]) ++ List.replicate (3 - (lg_sl ([.ref h0, .int i, .int j])).length) Slot.unset).toArray = ls at hl ⊢
  have hl : lv_has ls 3 [(0, .ref h0), (1, .int i), (2, .int j)] := hl
  refine lv_aload_n hx hb dX10_alike_0 rfl (lv_at hl 0 rfl) ?_
  refine lv_iload_n hx hb dX10_alike_1 rfl (lv_at hl 1 rfl) ?_
  refine nq_xv (wr := []) (vx_runV (As := [.int i]) (rest := []) ⟨hx, hb, hml, hown, hts⟩ (x_mustBeThere l hl0 G y s.heap.size h0 tp ps sp tk dr pr da nw im ac ke si tx an dw nwt nwb nwn nwi nwr nwtk nwtv nwte nwtd i ) (cwV 1 hts gX10_alike_X10_mustBeThere rfl rfl rfl (by decide +kernel) ⟨Nat.le_of_ble_eq_true rfl, Nat.le_of_ble_eq_true rfl⟩) (nq_PXV hK hP hD hS hA hXs [0, 1, 2, 3] rfl rfl 0 rfl rfl) rfl rfl hl.1 rfl (lv_room (Nat.le_of_ble_eq_true rfl)) dX10_alike_2 ⟨Nat.le_of_ble_eq_true rfl, Nat.le_of_ble_eq_true rfl⟩) hP hD hS hA [0, 1, 2, 3] [] rfl rfl (by decide) (by decide) (fun E ce q9 H9 locs9 hB hS9 hP9 hD9 h1 h2 h3 => by obtain ⟨rfl, hc0⟩ := hB; exact nq_out (BX := fun E => E = nq_NSE ∧ (sp_alike i j).1 = 1) htab hlocks hS9 (⟨rfl, by simp [sp_alike, hc0]⟩) h1 h2 h3 (Nat.le_of_ble_eq_true rfl) (Nat.le_of_ble_eq_true rfl)) (fun u_1 H locs hw_2 hP hD hS => ?_)
  have hP : va_P G vwCl [(h0, .inr (10, [.ref tp, .int 0, .int (-1), .ref ps, .ref sp, .ref tk, .ref dr, .ref pr, .ref da, .ref nw, .ref im, .int 0, .ref ac, .ref ke, .ref si, .ref tx, .ref an, .ref dw])), (nw, .inr (6, [.ref nwt, .ref nwb, .int 0, .ref nwn, .ref nwi, .int 0, .ref nwr])), (nwt, .inr (9, [.ref nwtk, .ref nwtv, .ref nwte, .ref nwtd, .int 1])), (nwtk, .inl (y 0, 60, .inl (upd (fun _ => 0) 0 3)))] H := hP
  have hD : va_D A [(h0, .inr (10, [.ref tp, .int 0, .int (-1), .ref ps, .ref sp, .ref tk, .ref dr, .ref pr, .ref da, .ref nw, .ref im, .int 0, .ref ac, .ref ke, .ref si, .ref tx, .ref an, .ref dw])), (nw, .inr (6, [.ref nwt, .ref nwb, .int 0, .ref nwn, .ref nwi, .int 0, .ref nwr])), (nwt, .inr (9, [.ref nwtk, .ref nwtv, .ref nwte, .ref nwtd, .int 1])), (nwtk, .inl (y 0, 60, .inl (upd (fun _ => 0) 0 3)))] := hD
  have c_4 := hw_2
  subst c_4
  refine lv_aload_n hx hb dX10_alike_5 rfl (lv_at hl 0 rfl) ?_
  refine lv_iload_n hx hb dX10_alike_6 rfl (lv_at hl 2 rfl) ?_
  refine nq_xv (wr := []) (vx_runV (As := [.int j]) (rest := []) ⟨hx, hb, hml, hown, hts⟩ (x_mustBeThere l hl0 G y H.size h0 tp ps sp tk dr pr da nw im ac ke si tx an dw nwt nwb nwn nwi nwr nwtk nwtv nwte nwtd j ) (cwV 1 hts gX10_alike_X10_mustBeThere rfl rfl rfl (by decide +kernel) ⟨Nat.le_of_ble_eq_true rfl, Nat.le_of_ble_eq_true rfl⟩) (nq_PXV hK hP hD hS hA hXs [0, 1, 2, 3] rfl rfl 0 rfl rfl) rfl rfl hl.1 rfl (lv_room (Nat.le_of_ble_eq_true rfl)) dX10_alike_7 ⟨Nat.le_of_ble_eq_true rfl, Nat.le_of_ble_eq_true rfl⟩) hP hD hS hA [0, 1, 2, 3] [] rfl rfl (by decide) (by decide) (fun E ce q9 H9 locs9 hB hS9 hP9 hD9 h1 h2 h3 => by obtain ⟨rfl, hc0⟩ := hB; exact nq_out (BX := fun E => E = nq_NSE ∧ (sp_alike 0 j).1 = 1) htab hlocks hS9 (⟨rfl, by simp [sp_alike, hc0]⟩) h1 h2 h3 (Nat.le_of_ble_eq_true rfl) (Nat.le_of_ble_eq_true rfl)) (fun u_6 H locs hw_7 hP hD hS => ?_)
  have hP : va_P G vwCl [(h0, .inr (10, [.ref tp, .int 0, .int (-1), .ref ps, .ref sp, .ref tk, .ref dr, .ref pr, .ref da, .ref nw, .ref im, .int 0, .ref ac, .ref ke, .ref si, .ref tx, .ref an, .ref dw])), (nw, .inr (6, [.ref nwt, .ref nwb, .int 0, .ref nwn, .ref nwi, .int 0, .ref nwr])), (nwt, .inr (9, [.ref nwtk, .ref nwtv, .ref nwte, .ref nwtd, .int 1])), (nwtk, .inl (y 0, 60, .inl (upd (fun _ => 0) 0 3)))] H := hP
  have hD : va_D A [(h0, .inr (10, [.ref tp, .int 0, .int (-1), .ref ps, .ref sp, .ref tk, .ref dr, .ref pr, .ref da, .ref nw, .ref im, .int 0, .ref ac, .ref ke, .ref si, .ref tx, .ref an, .ref dw])), (nw, .inr (6, [.ref nwt, .ref nwb, .int 0, .ref nwn, .ref nwi, .int 0, .ref nwr])), (nwt, .inr (9, [.ref nwtk, .ref nwtv, .ref nwte, .ref nwtd, .int 1])), (nwtk, .inl (y 0, 60, .inl (upd (fun _ => 0) 0 3)))] := hD
  have c_9 := hw_7
  subst c_9
  refine lv_aload_n hx hb dX10_alike_10 rfl (lv_at hl 0 rfl) ?_
  refine va_get (D := G) (ci := 10) (v := .ref nw) (C := RX10) (T := TX10) (N := 18) hx hb hts inX10 hown hK.1 hP 0 rfl rfl 9 (by decide) (hts (.fieldLink RX10 63 "NestQuery" "now" "LNestQuery$State;") (by decide +kernel)) (fun _ h9 => h9) rfl dX10_alike_11 ?_
  refine va_getN (D := G) (ci := 6) (v := .ref nwt) (C := RX6) (T := TX6) (N := 7) hx hb hts inX6 hown hK.1 hP 1 rfl rfl 0 (by decide) (va_Nw.use rfl (hK.2.1.1 _ (List.mem_of_getElem? (i := 13) rfl))) (fun _ h9 => h9) rfl dX10_alike_14 ?_
  refine lv_iload_n hx hb dX10_alike_17 rfl (lv_at hl 1 rfl) ?_
  refine lv_aload_n hx hb dX10_alike_18 rfl (lv_at hl 0 rfl) ?_
  refine va_get (D := G) (ci := 10) (v := .ref nw) (C := RX10) (T := TX10) (N := 18) hx hb hts inX10 hown hK.1 hP 0 rfl rfl 9 (by decide) (hts (.fieldLink RX10 63 "NestQuery" "now" "LNestQuery$State;") (by decide +kernel)) (fun _ h9 => h9) rfl dX10_alike_19 ?_
  refine va_getN (D := G) (ci := 6) (v := .ref nwt) (C := RX6) (T := TX6) (N := 7) hx hb hts inX6 hown hK.1 hP 1 rfl rfl 0 (by decide) (va_Nw.use rfl (hK.2.1.1 _ (List.mem_of_getElem? (i := 13) rfl))) (fun _ h9 => h9) rfl dX10_alike_22 ?_
  refine lv_iload_n hx hb dX10_alike_25 rfl (lv_at hl 2 rfl) ?_
  refine lv_iconst (v := 0) hx hb dX10_alike_26 (by decide) ?_
  refine nq_rdi (va_runV (As := [.int 0, .ref nwt, .int 0, .int 0]) (rest := []) ⟨hx, hb, hml, hown, hts⟩ (c_like l G y H.size nwt nwtk nwtv nwte nwtd (upd (fun _ => 0) 0 3) (pk_us)) (cwV 4 hts gX10_alike_X9_like rfl rfl rfl (by decide +kernel) ⟨Nat.le_of_ble_eq_true rfl, Nat.le_of_ble_eq_true rfl⟩) (nq_PV hK hP hD [2, 3] rfl rfl 2 rfl rfl) rfl rfl hl.1 rfl (lv_room (Nat.le_of_ble_eq_true rfl)) dX10_alike_27 ⟨Nat.le_of_ble_eq_true rfl, Nat.le_of_ble_eq_true rfl⟩) hP hS hA (fun r_11 H locs hw_12 hP hS => ?_)
  subst hw_12
  refine lv_if_eq (tgt := 37) hx hb dX10_alike_30 (by decide) (fun c_13 => absurd c_13 (by decide)) (fun _ => ?_)
  refine lv_iconst (v := 1) hx hb dX10_alike_33 (by decide) ?_
  refine lv_goto (tgt := 38) hx hb dX10_alike_34 (by decide) ?_
  have hP9 := hP.sub (ws' := []) [] rfl
  have hD9 := hD.sub (ws' := []) [] (by decide) rfl
  refine vx_ret ?_
  refine W.widen (k := 2) (n := 12) (Nat.le_of_ble_eq_true rfl) (Nat.le_of_ble_eq_true rfl) ?_
  exact W.iret (v := 1) hx hb hr (fun t ht hW => ⟨⟨1, (), rfl, ⟨by decide, by decide⟩, by rw [ht]; exact hP9, by first | exact hD9 | (rw [hAe]; exact hD9)⟩, hS.F ht⟩) hS.2.2 dX10_alike_38

set_option maxHeartbeats 4000000 in
set_option maxRecDepth 100000 in
theorem x_answer (l : Launch) (hl0 : l.stackTraces = false) (G : va_G) (y : Nat → ClassId) (sz : Nat) (h0 : Nat) (tp : Nat) (ps : Nat) (sp : Nat) (tk : Nat) (dr : Nat) (pr : Nat) (da : Nat) (nw : Nat) (im : Nat) (ac : Nat) (ke : Nat) (si : Nat) (tx : Nat) (an : Nat) (dw : Nat) (i : Int32) (j : Int32)  : vx_Met l yX10_answer wsX10_answer ({ frames := 6, cells := 1, slots := 6, locals := 100 }) (nq_PX G y sz [.ref h0, .int i, .int j] [(h0, .inr (10, [.ref tp, .int 0, .int (-1), .ref ps, .ref sp, .ref tk, .ref dr, .ref pr, .ref da, .ref nw, .ref im, .int 0, .ref ac, .ref ke, .ref si, .ref tx, .ref an, .ref dw])), (ps, .inl (y 3, 4, .inr (.inr (.inr (.inr (fun _ => none))))))]) (va_Qi (fun (r : Int32) (_ : Unit) => (sp_one i j).1 = 0 ∧ r = (sp_one i j).2) (fun (u : Unit) t9 => va_P G vwCl ([]) t9.heap ∧ va_D (va_A [(h0, .inr (10, [.ref tp, .int 0, .int (-1), .ref ps, .ref sp, .ref tk, .ref dr, .ref pr, .ref da, .ref nw, .ref im, .int 0, .ref ac, .ref ke, .ref si, .ref tx, .ref an, .ref dw])), (ps, .inl (y 3, 4, .inr (.inr (.inr (.inr (fun _ => none))))))] sz) ([])) (va_A [(h0, .inr (10, [.ref tp, .int 0, .int (-1), .ref ps, .ref sp, .ref tk, .ref dr, .ref pr, .ref da, .ref nw, .ref im, .int 0, .ref ac, .ref ke, .ref si, .ref tx, .ref an, .ref dw])), (ps, .inl (y 3, 4, .inr (.inr (.inr (.inr (fun _ => none))))))] sz)) (vx_X (fun (_ : Unit) => True) (fun E _ _ => E = nq_NSE ∧ (sp_one i j).1 = 1) (va_A [(h0, .inr (10, [.ref tp, .int 0, .int (-1), .ref ps, .ref sp, .ref tk, .ref dr, .ref pr, .ref da, .ref nw, .ref im, .int 0, .ref ac, .ref ke, .ref si, .ref tx, .ref an, .ref dw])), (ps, .inl (y 3, 4, .inr (.inr (.inr (.inr (fun _ => none))))))] sz)) 1 6 (va_A [(h0, .inr (10, [.ref tp, .int 0, .int (-1), .ref ps, .ref sp, .ref tk, .ref dr, .ref pr, .ref da, .ref nw, .ref im, .int 0, .ref ac, .ref ke, .ref si, .ref tx, .ref an, .ref dw])), (ps, .inl (y 3, 4, .inr (.inr (.inr (.inr (fun _ => none))))))] sz) := by
  refine vx_ofW (cc := cX10_answer) (maxL := 7) (ret := (some .int)) (by decide) rfl ?_
  intro p e s m args below meth c s₁ B hml htab hv
  obtain ⟨rfl, hsz, hP, hK, hD0, hXs⟩ := hv
  have hx := B.exec
  have hb := B.bytes
  have hr := B.returns
  have hts := atoms_spec (ws := wsX10_answer) B.pre
  have hown : s.vm.findClass RX10 = some m.cls := findClass_of_methodNamed B.named
  have hlocks := B.notSynchronized
  subst hsz
  have hD := hD0.self (sz := s.heap.size)
  generalize hAe : va_A [(h0, .inr (10, [.ref tp, .int 0, .int (-1), .ref ps, .ref sp, .ref tk, .ref dr, .ref pr, .ref da, .ref nw, .ref im, .int 0, .ref ac, .ref ke, .ref si, .ref tx, .ref an, .ref dw])), (ps, .inl (y 3, 4, .inr (.inr (.inr (.inr (fun _ => none))))))] s.heap.size = A at hD hXs ⊢
  have hA : ∀ q : Nat, s.heap.size ≤ q → A q := fun q h => by rw [← hAe]; exact Or.inr h
  have hS : va_S A s.heap s.heap [] := va_S.rf
  have hP : va_P G vwCl [(h0, .inr (10, [.ref tp, .int 0, .int (-1), .ref ps, .ref sp, .ref tk, .ref dr, .ref pr, .ref da, .ref nw, .ref im, .int 0, .ref ac, .ref ke, .ref si, .ref tx, .ref an, .ref dw])), (ps, .inl (y 3, 4, .inr (.inr (.inr (.inr (fun _ => none))))))] s.heap := hP
  have hl := lv_entry ([.ref h0, .int i, .int j]) (n := 7) (Nat.le_of_ble_eq_true rfl)
  rw [lg_entry_eq]
  generalize (lg_sl ([.ref h0, .int i, .int j]) ++ List.replicate (7 - (lg_sl ([.ref h0, .int i, .int j])).length) Slot.unset).toArray = ls at hl ⊢
  have hl : lv_has ls 7 [(0, .ref h0), (1, .int i), (2, .int j)] := hl
  refine lv_aload_n hx hb dX10_answer_0 rfl (lv_at hl 0 rfl) ?_
  refine lv_iload_n hx hb dX10_answer_1 rfl (lv_at hl 1 rfl) ?_
  refine nq_rdq (va_runV (As := [.int i]) (rest := []) ⟨hx, hb, hml, hown, hts⟩ (c_pathAt l G y s.heap.size h0 tp ps sp tk dr pr da nw im ac ke si tx an dw i ) (cwV 1 hts gX10_answer_X10_pathAt rfl rfl rfl (by decide +kernel) ⟨Nat.le_of_ble_eq_true rfl, Nat.le_of_ble_eq_true rfl⟩) (nq_PV hK hP hD [0, 1] rfl rfl 0 rfl rfl) rfl rfl hl.1 rfl (lv_room (Nat.le_of_ble_eq_true rfl)) dX10_answer_2 ⟨Nat.le_of_ble_eq_true rfl, Nat.le_of_ble_eq_true rfl⟩) hP hS hA (fun r_1 H locs hw_2 hP hS => ?_)
  subst hw_2
  refine lv_astore_nN (lv' := [(3, .null), (0, .ref h0), (1, .int i), (2, .int j)]) hx hb dX10_answer_5 rfl hl (by decide) rfl (fun ls hl => ?_)
  refine lv_aload_nN hx hb dX10_answer_6 rfl (lv_at hl 0 rfl) ?_
  refine lv_ifnonnullN hx hb dX10_answer_7 ?_
  exact nq_throwNW (BX := fun E => E = nq_NSE ∧ (sp_one i j).1 = 1) (text := "no such path is there") hx hb hl0 hown hts (by first | exact fun w h => List.mem_cons_of_mem _ (List.mem_append_right _ h) | exact fun w h => List.mem_cons_of_mem _ (List.mem_append_left _ (List.mem_append_right _ h)) | decide +kernel) (by decide +kernel) (by decide +kernel) hXs hS (hl.1.trans hml.symm) htab hlocks (List.mem_of_getElem? (i := 7) rfl) dX10_answer_10 dX10_answer_13 dX10_answer_14 dX10_answer_17 dX10_answer_20 (Nat.le_of_ble_eq_true rfl) (Nat.le_of_ble_eq_true rfl) (Nat.le_of_ble_eq_true rfl) (Nat.le_of_ble_eq_true rfl) (⟨rfl, by simp [sp_one]⟩) (Nat.le_of_ble_eq_true rfl) (Nat.le_of_ble_eq_true rfl)

set_option maxHeartbeats 4000000 in
set_option maxRecDepth 100000 in
theorem x_steps (l : Launch) (hl0 : l.stackTraces = false) (G : va_G) (y : Nat → ClassId) (sz : Nat) (h0 : Nat) (tp : Nat) (ps : Nat) (sp : Nat) (tk : Nat) (dr : Nat) (pr : Nat) (da : Nat) (nw : Nat) (im : Nat) (ac : Nat) (ke : Nat) (si : Nat) (tx : Nat) (an : Nat) (dw : Nat) (i : Int32) (j : Int32)  : vx_Met l yX10_steps wsX10_steps ({ frames := 6, cells := 1, slots := 6, locals := 100 }) (nq_PX G y sz [.ref h0, .int i, .int j] [(h0, .inr (10, [.ref tp, .int 0, .int (-1), .ref ps, .ref sp, .ref tk, .ref dr, .ref pr, .ref da, .ref nw, .ref im, .int 0, .ref ac, .ref ke, .ref si, .ref tx, .ref an, .ref dw])), (ps, .inl (y 3, 4, .inr (.inr (.inr (.inr (fun _ => none))))))]) (va_Qi (fun (r : Int32) (_ : Unit) => (sp_one i j).1 = 0 ∧ r = (sp_one i j).2) (fun (u : Unit) t9 => va_P G vwCl ([]) t9.heap ∧ va_D (va_A [(h0, .inr (10, [.ref tp, .int 0, .int (-1), .ref ps, .ref sp, .ref tk, .ref dr, .ref pr, .ref da, .ref nw, .ref im, .int 0, .ref ac, .ref ke, .ref si, .ref tx, .ref an, .ref dw])), (ps, .inl (y 3, 4, .inr (.inr (.inr (.inr (fun _ => none))))))] sz) ([])) (va_A [(h0, .inr (10, [.ref tp, .int 0, .int (-1), .ref ps, .ref sp, .ref tk, .ref dr, .ref pr, .ref da, .ref nw, .ref im, .int 0, .ref ac, .ref ke, .ref si, .ref tx, .ref an, .ref dw])), (ps, .inl (y 3, 4, .inr (.inr (.inr (.inr (fun _ => none))))))] sz)) (vx_X (fun (_ : Unit) => True) (fun E _ _ => E = nq_NSE ∧ (sp_one i j).1 = 1) (va_A [(h0, .inr (10, [.ref tp, .int 0, .int (-1), .ref ps, .ref sp, .ref tk, .ref dr, .ref pr, .ref da, .ref nw, .ref im, .int 0, .ref ac, .ref ke, .ref si, .ref tx, .ref an, .ref dw])), (ps, .inl (y 3, 4, .inr (.inr (.inr (.inr (fun _ => none))))))] sz)) 1 6 (va_A [(h0, .inr (10, [.ref tp, .int 0, .int (-1), .ref ps, .ref sp, .ref tk, .ref dr, .ref pr, .ref da, .ref nw, .ref im, .int 0, .ref ac, .ref ke, .ref si, .ref tx, .ref an, .ref dw])), (ps, .inl (y 3, 4, .inr (.inr (.inr (.inr (fun _ => none))))))] sz) := by
  refine vx_ofW (cc := cX10_steps) (maxL := 4) (ret := (some .int)) (by decide) rfl ?_
  intro p e s m args below meth c s₁ B hml htab hv
  obtain ⟨rfl, hsz, hP, hK, hD0, hXs⟩ := hv
  have hx := B.exec
  have hb := B.bytes
  have hr := B.returns
  have hts := atoms_spec (ws := wsX10_steps) B.pre
  have hown : s.vm.findClass RX10 = some m.cls := findClass_of_methodNamed B.named
  have hlocks := B.notSynchronized
  subst hsz
  have hD := hD0.self (sz := s.heap.size)
  generalize hAe : va_A [(h0, .inr (10, [.ref tp, .int 0, .int (-1), .ref ps, .ref sp, .ref tk, .ref dr, .ref pr, .ref da, .ref nw, .ref im, .int 0, .ref ac, .ref ke, .ref si, .ref tx, .ref an, .ref dw])), (ps, .inl (y 3, 4, .inr (.inr (.inr (.inr (fun _ => none))))))] s.heap.size = A at hD hXs ⊢
  have hA : ∀ q : Nat, s.heap.size ≤ q → A q := fun q h => by rw [← hAe]; exact Or.inr h
  have hS : va_S A s.heap s.heap [] := va_S.rf
  have hP : va_P G vwCl [(h0, .inr (10, [.ref tp, .int 0, .int (-1), .ref ps, .ref sp, .ref tk, .ref dr, .ref pr, .ref da, .ref nw, .ref im, .int 0, .ref ac, .ref ke, .ref si, .ref tx, .ref an, .ref dw])), (ps, .inl (y 3, 4, .inr (.inr (.inr (.inr (fun _ => none))))))] s.heap := hP
  have hl := lv_entry ([.ref h0, .int i, .int j]) (n := 4) (Nat.le_of_ble_eq_true rfl)
  rw [lg_entry_eq]
  generalize (lg_sl ([.ref h0, .int i, .int j]) ++ List.replicate (4 - (lg_sl ([.ref h0, .int i, .int j])).length) Slot.unset).toArray = ls at hl ⊢
  have hl : lv_has ls 4 [(0, .ref h0), (1, .int i), (2, .int j)] := hl
  refine lv_aload_n hx hb dX10_steps_0 rfl (lv_at hl 0 rfl) ?_
  refine lv_iload_n hx hb dX10_steps_1 rfl (lv_at hl 1 rfl) ?_
  refine nq_rdq (va_runV (As := [.int i]) (rest := []) ⟨hx, hb, hml, hown, hts⟩ (c_pathAt l G y s.heap.size h0 tp ps sp tk dr pr da nw im ac ke si tx an dw i ) (cwV 1 hts gX10_steps_X10_pathAt rfl rfl rfl (by decide +kernel) ⟨Nat.le_of_ble_eq_true rfl, Nat.le_of_ble_eq_true rfl⟩) (nq_PV hK hP hD [0, 1] rfl rfl 0 rfl rfl) rfl rfl hl.1 rfl (lv_room (Nat.le_of_ble_eq_true rfl)) dX10_steps_2 ⟨Nat.le_of_ble_eq_true rfl, Nat.le_of_ble_eq_true rfl⟩) hP hS hA (fun r_1 H locs hw_2 hP hS => ?_)
  subst hw_2
  refine lv_astore_nN (lv' := [(3, .null), (0, .ref h0), (1, .int i), (2, .int j)]) hx hb dX10_steps_5 rfl hl (by decide) rfl (fun ls hl => ?_)
  refine lv_aload_nN hx hb dX10_steps_6 rfl (lv_at hl 0 rfl) ?_
  refine lv_ifnonnullN hx hb dX10_steps_7 ?_
  exact nq_throwNW (BX := fun E => E = nq_NSE ∧ (sp_one i j).1 = 1) (text := "no such path is there") hx hb hl0 hown hts (by first | exact fun w h => List.mem_cons_of_mem _ (List.mem_append_right _ h) | exact fun w h => List.mem_cons_of_mem _ (List.mem_append_left _ (List.mem_append_right _ h)) | decide +kernel) (by decide +kernel) (by decide +kernel) hXs hS (hl.1.trans hml.symm) htab hlocks (List.mem_of_getElem? (i := 7) rfl) dX10_steps_10 dX10_steps_13 dX10_steps_14 dX10_steps_17 dX10_steps_20 (Nat.le_of_ble_eq_true rfl) (Nat.le_of_ble_eq_true rfl) (Nat.le_of_ble_eq_true rfl) (Nat.le_of_ble_eq_true rfl) (⟨rfl, by simp [sp_one]⟩) (Nat.le_of_ble_eq_true rfl) (Nat.le_of_ble_eq_true rfl)

set_option maxHeartbeats 4000000 in
set_option maxRecDepth 100000 in
theorem x_row (l : Launch) (hl0 : l.stackTraces = false) (G : va_G) (y : Nat → ClassId) (sz : Nat) (h0 : Nat) (tp : Nat) (ps : Nat) (sp : Nat) (tk : Nat) (dr : Nat) (pr : Nat) (da : Nat) (nw : Nat) (im : Nat) (ac : Nat) (ke : Nat) (si : Nat) (tx : Nat) (an : Nat) (dw : Nat) (ke1 : Nat) (ke2 : Nat) (ke3 : Nat) (ke4 : Nat) (i : Int32) (j : Int32)  : vx_Met l yX10_row wsX10_row ({ frames := 6, cells := 1, slots := 6, locals := 100 }) (nq_PX G y sz [.ref h0, .int i, .int j] [(h0, .inr (10, [.ref tp, .int 0, .int (-1), .ref ps, .ref sp, .ref tk, .ref dr, .ref pr, .ref da, .ref nw, .ref im, .int 0, .ref ac, .ref ke, .ref si, .ref tx, .ref an, .ref dw])), (ke, .inr (3, [.ref ke1, .ref ke2, .ref ke3, .ref ke4, .int 0]))]) (va_Qi (fun (r : Int32) (_ : Unit) => (sp_one i j).1 = 0 ∧ r = (sp_one i j).2) (fun (u : Unit) t9 => va_P G vwCl ([]) t9.heap ∧ va_D (va_A [(h0, .inr (10, [.ref tp, .int 0, .int (-1), .ref ps, .ref sp, .ref tk, .ref dr, .ref pr, .ref da, .ref nw, .ref im, .int 0, .ref ac, .ref ke, .ref si, .ref tx, .ref an, .ref dw])), (ke, .inr (3, [.ref ke1, .ref ke2, .ref ke3, .ref ke4, .int 0]))] sz) ([])) (va_A [(h0, .inr (10, [.ref tp, .int 0, .int (-1), .ref ps, .ref sp, .ref tk, .ref dr, .ref pr, .ref da, .ref nw, .ref im, .int 0, .ref ac, .ref ke, .ref si, .ref tx, .ref an, .ref dw])), (ke, .inr (3, [.ref ke1, .ref ke2, .ref ke3, .ref ke4, .int 0]))] sz)) (vx_X (fun (_ : Unit) => True) (fun E _ _ => E = nq_NSE ∧ (sp_one i j).1 = 1) (va_A [(h0, .inr (10, [.ref tp, .int 0, .int (-1), .ref ps, .ref sp, .ref tk, .ref dr, .ref pr, .ref da, .ref nw, .ref im, .int 0, .ref ac, .ref ke, .ref si, .ref tx, .ref an, .ref dw])), (ke, .inr (3, [.ref ke1, .ref ke2, .ref ke3, .ref ke4, .int 0]))] sz)) 1 6 (va_A [(h0, .inr (10, [.ref tp, .int 0, .int (-1), .ref ps, .ref sp, .ref tk, .ref dr, .ref pr, .ref da, .ref nw, .ref im, .int 0, .ref ac, .ref ke, .ref si, .ref tx, .ref an, .ref dw])), (ke, .inr (3, [.ref ke1, .ref ke2, .ref ke3, .ref ke4, .int 0]))] sz) := by
  refine vx_ofW (cc := cX10_row) (maxL := 3) (ret := (some .int)) (by decide) rfl ?_
  intro p e s m args below meth c s₁ B hml htab hv
  obtain ⟨rfl, hsz, hP, hK, hD0, hXs⟩ := hv
  have hx := B.exec
  have hb := B.bytes
  have hr := B.returns
  have hts := atoms_spec (ws := wsX10_row) B.pre
  have hown : s.vm.findClass RX10 = some m.cls := findClass_of_methodNamed B.named
  have hlocks := B.notSynchronized
  subst hsz
  have hD := hD0.self (sz := s.heap.size)
  generalize hAe : va_A [(h0, .inr (10, [.ref tp, .int 0, .int (-1), .ref ps, .ref sp, .ref tk, .ref dr, .ref pr, .ref da, .ref nw, .ref im, .int 0, .ref ac, .ref ke, .ref si, .ref tx, .ref an, .ref dw])), (ke, .inr (3, [.ref ke1, .ref ke2, .ref ke3, .ref ke4, .int 0]))] s.heap.size = A at hD hXs ⊢
  have hA : ∀ q : Nat, s.heap.size ≤ q → A q := fun q h => by rw [← hAe]; exact Or.inr h
  have hS : va_S A s.heap s.heap [] := va_S.rf
  have hP : va_P G vwCl [(h0, .inr (10, [.ref tp, .int 0, .int (-1), .ref ps, .ref sp, .ref tk, .ref dr, .ref pr, .ref da, .ref nw, .ref im, .int 0, .ref ac, .ref ke, .ref si, .ref tx, .ref an, .ref dw])), (ke, .inr (3, [.ref ke1, .ref ke2, .ref ke3, .ref ke4, .int 0]))] s.heap := hP
  have inX10 : ∀ w ∈ wsX100, w ∈ wsX10_row := by decide +kernel
  have inX3 : ∀ w ∈ wsX30, w ∈ wsX10_row := by decide +kernel
  have hl := lv_entry ([.ref h0, .int i, .int j]) (n := 3) (Nat.le_of_ble_eq_true rfl)
  rw [lg_entry_eq]
  generalize (lg_sl ([.ref h0, .int i, .int j]) ++ List.replicate (3 - (lg_sl ([.ref h0, .int i, .int j])).length) Slot.unset).toArray = ls at hl ⊢
  have hl : lv_has ls 3 [(0, .ref h0), (1, .int i), (2, .int j)] := hl
  refine lv_iload_n hx hb dX10_row_0 rfl (lv_at hl 1 rfl) ?_
  refine lv_if_lt (tgt := 15) hx hb dX10_row_1 (by decide) (fun c_1 => ?_) (fun c_1 => ?_)
  · have hz_3 := ((nq_hlt c_1 (j := (-1)) (by decide)))
    exact nq_throwNW (BX := fun E => E = nq_NSE ∧ (sp_one i j).1 = 1) (text := "no such row") hx hb hl0 hown hts (by first | exact fun w h => List.mem_cons_of_mem _ (List.mem_append_right _ h) | exact fun w h => List.mem_cons_of_mem _ (List.mem_append_left _ (List.mem_append_right _ h)) | decide +kernel) (by decide +kernel) (by decide +kernel) hXs hS (hl.1.trans hml.symm) htab hlocks (List.mem_of_getElem? (i := 10) rfl) dX10_row_15 dX10_row_18 dX10_row_19 dX10_row_22 dX10_row_25 (Nat.le_of_ble_eq_true rfl) (Nat.le_of_ble_eq_true rfl) (Nat.le_of_ble_eq_true rfl) (Nat.le_of_ble_eq_true rfl) (⟨rfl, by simp [sp_one, hz_3]⟩) (Nat.le_of_ble_eq_true rfl) (Nat.le_of_ble_eq_true rfl)
  · refine lv_iload_n hx hb dX10_row_4 rfl (lv_at hl 1 rfl) ?_
    refine lv_aload_n hx hb dX10_row_5 rfl (lv_at hl 0 rfl) ?_
    refine va_get (D := G) (ci := 10) (v := .ref ke) (C := RX10) (T := TX10) (N := 18) hx hb hts inX10 hown hK.1 hP 0 rfl rfl 13 (by decide) (hts (.fieldLink RX10 82 "NestQuery" "kept" "LNestQuery$Patch;") (by decide +kernel)) (fun _ h9 => h9) rfl dX10_row_6 ?_
    refine va_getN (D := G) (ci := 3) (v := .int 0) (C := RX3) (T := TX3) (N := 5) hx hb hts inX3 hown hK.1 hP 1 rfl rfl 4 (by decide) (va_Nw.use rfl (hK.2.1.1 _ (List.mem_of_getElem? (i := 17) rfl))) (fun _ h9 => h9) rfl dX10_row_9 ?_
    refine lv_icmp_lt (tgt := 26) hx hb dX10_row_12 (by decide) (fun c_4 => absurd c_4 (nq_nlt c_1 (by decide))) (fun _ => ?_)
    have hz_6 := (c_1)
    exact nq_throwNW (BX := fun E => E = nq_NSE ∧ (sp_one i j).1 = 1) (text := "no such row") hx hb hl0 hown hts (by first | exact fun w h => List.mem_cons_of_mem _ (List.mem_append_right _ h) | exact fun w h => List.mem_cons_of_mem _ (List.mem_append_left _ (List.mem_append_right _ h)) | decide +kernel) (by decide +kernel) (by decide +kernel) hXs hS (hl.1.trans hml.symm) htab hlocks (List.mem_of_getElem? (i := 10) rfl) dX10_row_15 dX10_row_18 dX10_row_19 dX10_row_22 dX10_row_25 (Nat.le_of_ble_eq_true rfl) (Nat.le_of_ble_eq_true rfl) (Nat.le_of_ble_eq_true rfl) (Nat.le_of_ble_eq_true rfl) (⟨rfl, by simp [sp_one, hz_6]⟩) (Nat.le_of_ble_eq_true rfl) (Nat.le_of_ble_eq_true rfl)

set_option maxHeartbeats 4000000 in
set_option maxRecDepth 100000 in
theorem x_rowText (l : Launch) (hl0 : l.stackTraces = false) (G : va_G) (y : Nat → ClassId) (sz : Nat) (h0 : Nat) (tp : Nat) (ps : Nat) (sp : Nat) (tk : Nat) (dr : Nat) (pr : Nat) (da : Nat) (nw : Nat) (im : Nat) (ac : Nat) (ke : Nat) (si : Nat) (tx : Nat) (an : Nat) (dw : Nat) (ke1 : Nat) (ke2 : Nat) (ke3 : Nat) (ke4 : Nat) (i : Int32) (j : Int32)  : vx_Met l yX10_rowText wsX10_rowText ({ frames := 6, cells := 1, slots := 6, locals := 100 }) (nq_PX G y sz [.ref h0, .int i, .int j] [(h0, .inr (10, [.ref tp, .int 0, .int (-1), .ref ps, .ref sp, .ref tk, .ref dr, .ref pr, .ref da, .ref nw, .ref im, .int 0, .ref ac, .ref ke, .ref si, .ref tx, .ref an, .ref dw])), (ke, .inr (3, [.ref ke1, .ref ke2, .ref ke3, .ref ke4, .int 0]))]) (va_Qi (fun (r : Int32) (_ : Unit) => (sp_one i j).1 = 0 ∧ r = (sp_one i j).2) (fun (u : Unit) t9 => va_P G vwCl ([]) t9.heap ∧ va_D (va_A [(h0, .inr (10, [.ref tp, .int 0, .int (-1), .ref ps, .ref sp, .ref tk, .ref dr, .ref pr, .ref da, .ref nw, .ref im, .int 0, .ref ac, .ref ke, .ref si, .ref tx, .ref an, .ref dw])), (ke, .inr (3, [.ref ke1, .ref ke2, .ref ke3, .ref ke4, .int 0]))] sz) ([])) (va_A [(h0, .inr (10, [.ref tp, .int 0, .int (-1), .ref ps, .ref sp, .ref tk, .ref dr, .ref pr, .ref da, .ref nw, .ref im, .int 0, .ref ac, .ref ke, .ref si, .ref tx, .ref an, .ref dw])), (ke, .inr (3, [.ref ke1, .ref ke2, .ref ke3, .ref ke4, .int 0]))] sz)) (vx_X (fun (_ : Unit) => True) (fun E _ _ => E = nq_NSE ∧ (sp_one i j).1 = 1) (va_A [(h0, .inr (10, [.ref tp, .int 0, .int (-1), .ref ps, .ref sp, .ref tk, .ref dr, .ref pr, .ref da, .ref nw, .ref im, .int 0, .ref ac, .ref ke, .ref si, .ref tx, .ref an, .ref dw])), (ke, .inr (3, [.ref ke1, .ref ke2, .ref ke3, .ref ke4, .int 0]))] sz)) 1 6 (va_A [(h0, .inr (10, [.ref tp, .int 0, .int (-1), .ref ps, .ref sp, .ref tk, .ref dr, .ref pr, .ref da, .ref nw, .ref im, .int 0, .ref ac, .ref ke, .ref si, .ref tx, .ref an, .ref dw])), (ke, .inr (3, [.ref ke1, .ref ke2, .ref ke3, .ref ke4, .int 0]))] sz) := by
  refine vx_ofW (cc := cX10_rowText) (maxL := 3) (ret := (some .int)) (by decide) rfl ?_
  intro p e s m args below meth c s₁ B hml htab hv
  obtain ⟨rfl, hsz, hP, hK, hD0, hXs⟩ := hv
  have hx := B.exec
  have hb := B.bytes
  have hr := B.returns
  have hts := atoms_spec (ws := wsX10_rowText) B.pre
  have hown : s.vm.findClass RX10 = some m.cls := findClass_of_methodNamed B.named
  have hlocks := B.notSynchronized
  subst hsz
  have hD := hD0.self (sz := s.heap.size)
  generalize hAe : va_A [(h0, .inr (10, [.ref tp, .int 0, .int (-1), .ref ps, .ref sp, .ref tk, .ref dr, .ref pr, .ref da, .ref nw, .ref im, .int 0, .ref ac, .ref ke, .ref si, .ref tx, .ref an, .ref dw])), (ke, .inr (3, [.ref ke1, .ref ke2, .ref ke3, .ref ke4, .int 0]))] s.heap.size = A at hD hXs ⊢
  have hA : ∀ q : Nat, s.heap.size ≤ q → A q := fun q h => by rw [← hAe]; exact Or.inr h
  have hS : va_S A s.heap s.heap [] := va_S.rf
  have hP : va_P G vwCl [(h0, .inr (10, [.ref tp, .int 0, .int (-1), .ref ps, .ref sp, .ref tk, .ref dr, .ref pr, .ref da, .ref nw, .ref im, .int 0, .ref ac, .ref ke, .ref si, .ref tx, .ref an, .ref dw])), (ke, .inr (3, [.ref ke1, .ref ke2, .ref ke3, .ref ke4, .int 0]))] s.heap := hP
  have inX10 : ∀ w ∈ wsX100, w ∈ wsX10_rowText := by decide +kernel
  have inX3 : ∀ w ∈ wsX30, w ∈ wsX10_rowText := by decide +kernel
  have hl := lv_entry ([.ref h0, .int i, .int j]) (n := 3) (Nat.le_of_ble_eq_true rfl)
  rw [lg_entry_eq]
  generalize (lg_sl ([.ref h0, .int i, .int j]) ++ List.replicate (3 - (lg_sl ([.ref h0, .int i, .int j])).length) Slot.unset).toArray = ls at hl ⊢
  have hl : lv_has ls 3 [(0, .ref h0), (1, .int i), (2, .int j)] := hl
  refine lv_iload_n hx hb dX10_rowText_0 rfl (lv_at hl 1 rfl) ?_
  refine lv_if_lt (tgt := 15) hx hb dX10_rowText_1 (by decide) (fun c_1 => ?_) (fun c_1 => ?_)
  · have hz_3 := ((nq_hlt c_1 (j := (-1)) (by decide)))
    exact nq_throwNW (BX := fun E => E = nq_NSE ∧ (sp_one i j).1 = 1) (text := "no such row") hx hb hl0 hown hts (by first | exact fun w h => List.mem_cons_of_mem _ (List.mem_append_right _ h) | exact fun w h => List.mem_cons_of_mem _ (List.mem_append_left _ (List.mem_append_right _ h)) | decide +kernel) (by decide +kernel) (by decide +kernel) hXs hS (hl.1.trans hml.symm) htab hlocks (List.mem_of_getElem? (i := 10) rfl) dX10_rowText_15 dX10_rowText_18 dX10_rowText_19 dX10_rowText_22 dX10_rowText_25 (Nat.le_of_ble_eq_true rfl) (Nat.le_of_ble_eq_true rfl) (Nat.le_of_ble_eq_true rfl) (Nat.le_of_ble_eq_true rfl) (⟨rfl, by simp [sp_one, hz_3]⟩) (Nat.le_of_ble_eq_true rfl) (Nat.le_of_ble_eq_true rfl)
  · refine lv_iload_n hx hb dX10_rowText_4 rfl (lv_at hl 1 rfl) ?_
    refine lv_aload_n hx hb dX10_rowText_5 rfl (lv_at hl 0 rfl) ?_
    refine va_get (D := G) (ci := 10) (v := .ref ke) (C := RX10) (T := TX10) (N := 18) hx hb hts inX10 hown hK.1 hP 0 rfl rfl 13 (by decide) (hts (.fieldLink RX10 82 "NestQuery" "kept" "LNestQuery$Patch;") (by decide +kernel)) (fun _ h9 => h9) rfl dX10_rowText_6 ?_
    refine va_getN (D := G) (ci := 3) (v := .int 0) (C := RX3) (T := TX3) (N := 5) hx hb hts inX3 hown hK.1 hP 1 rfl rfl 4 (by decide) (va_Nw.use rfl (hK.2.1.1 _ (List.mem_of_getElem? (i := 17) rfl))) (fun _ h9 => h9) rfl dX10_rowText_9 ?_
    refine lv_icmp_lt (tgt := 26) hx hb dX10_rowText_12 (by decide) (fun c_4 => absurd c_4 (nq_nlt c_1 (by decide))) (fun _ => ?_)
    have hz_6 := (c_1)
    exact nq_throwNW (BX := fun E => E = nq_NSE ∧ (sp_one i j).1 = 1) (text := "no such row") hx hb hl0 hown hts (by first | exact fun w h => List.mem_cons_of_mem _ (List.mem_append_right _ h) | exact fun w h => List.mem_cons_of_mem _ (List.mem_append_left _ (List.mem_append_right _ h)) | decide +kernel) (by decide +kernel) (by decide +kernel) hXs hS (hl.1.trans hml.symm) htab hlocks (List.mem_of_getElem? (i := 10) rfl) dX10_rowText_15 dX10_rowText_18 dX10_rowText_19 dX10_rowText_22 dX10_rowText_25 (Nat.le_of_ble_eq_true rfl) (Nat.le_of_ble_eq_true rfl) (Nat.le_of_ble_eq_true rfl) (Nat.le_of_ble_eq_true rfl) (⟨rfl, by simp [sp_one, hz_6]⟩) (Nat.le_of_ble_eq_true rfl) (Nat.le_of_ble_eq_true rfl)

set_option maxHeartbeats 4000000 in
set_option maxRecDepth 100000 in
theorem x_put (l : Launch) (hl0 : l.stackTraces = false) (G : va_G) (y : Nat → ClassId) (sz : Nat) (h0 : Nat) (tp : Nat) (ps : Nat) (sp : Nat) (tk : Nat) (dr : Nat) (pr : Nat) (da : Nat) (nw : Nat) (im : Nat) (ac : Nat) (ke : Nat) (si : Nat) (tx : Nat) (an : Nat) (dw : Nat) (nwt : Nat) (nwb : Nat) (nwn : Nat) (nwi : Nat) (nwr : Nat) (i : Int32) (j : Int32)  : vx_Met l yX10_put wsX10_put ({ frames := 6, cells := 1, slots := 6, locals := 100 }) (nq_PX G y sz [.ref h0, .int i, .int j] [(h0, .inr (10, [.ref tp, .int 0, .int (-1), .ref ps, .ref sp, .ref tk, .ref dr, .ref pr, .ref da, .ref nw, .ref im, .int 0, .ref ac, .ref ke, .ref si, .ref tx, .ref an, .ref dw])), (ps, .inl (y 3, 4, .inr (.inr (.inr (.inr (fun _ => none)))))), (nw, .inr (6, [.ref nwt, .ref nwb, .int 0, .ref nwn, .ref nwi, .int 0, .ref nwr])), (nwr, .inl (y 0, 3, .inl (fun _ => 0)))]) (va_Qi (fun (r : Int32) (_ : Unit) => (sp_put i j).1 = 0 ∧ r = (sp_put i j).2) (fun (u : Unit) t9 => va_P G vwCl ([]) t9.heap ∧ va_D (va_A [(h0, .inr (10, [.ref tp, .int 0, .int (-1), .ref ps, .ref sp, .ref tk, .ref dr, .ref pr, .ref da, .ref nw, .ref im, .int 0, .ref ac, .ref ke, .ref si, .ref tx, .ref an, .ref dw])), (ps, .inl (y 3, 4, .inr (.inr (.inr (.inr (fun _ => none)))))), (nw, .inr (6, [.ref nwt, .ref nwb, .int 0, .ref nwn, .ref nwi, .int 0, .ref nwr])), (nwr, .inl (y 0, 3, .inl (fun _ => 0)))] sz) ([])) (va_A [(h0, .inr (10, [.ref tp, .int 0, .int (-1), .ref ps, .ref sp, .ref tk, .ref dr, .ref pr, .ref da, .ref nw, .ref im, .int 0, .ref ac, .ref ke, .ref si, .ref tx, .ref an, .ref dw])), (ps, .inl (y 3, 4, .inr (.inr (.inr (.inr (fun _ => none)))))), (nw, .inr (6, [.ref nwt, .ref nwb, .int 0, .ref nwn, .ref nwi, .int 0, .ref nwr])), (nwr, .inl (y 0, 3, .inl (fun _ => 0)))] sz)) (vx_X (fun (_ : Unit) => True) (fun E _ _ => E = nq_IAE ∧ (sp_put i j).1 = 1) (va_A [(h0, .inr (10, [.ref tp, .int 0, .int (-1), .ref ps, .ref sp, .ref tk, .ref dr, .ref pr, .ref da, .ref nw, .ref im, .int 0, .ref ac, .ref ke, .ref si, .ref tx, .ref an, .ref dw])), (ps, .inl (y 3, 4, .inr (.inr (.inr (.inr (fun _ => none)))))), (nw, .inr (6, [.ref nwt, .ref nwb, .int 0, .ref nwn, .ref nwi, .int 0, .ref nwr])), (nwr, .inl (y 0, 3, .inl (fun _ => 0)))] sz)) 1 6 (va_A [(h0, .inr (10, [.ref tp, .int 0, .int (-1), .ref ps, .ref sp, .ref tk, .ref dr, .ref pr, .ref da, .ref nw, .ref im, .int 0, .ref ac, .ref ke, .ref si, .ref tx, .ref an, .ref dw])), (ps, .inl (y 3, 4, .inr (.inr (.inr (.inr (fun _ => none)))))), (nw, .inr (6, [.ref nwt, .ref nwb, .int 0, .ref nwn, .ref nwi, .int 0, .ref nwr])), (nwr, .inl (y 0, 3, .inl (fun _ => 0)))] sz) := by
  refine vx_ofW (cc := cX10_put) (maxL := 4) (ret := (some .int)) (by decide) rfl ?_
  intro p e s m args below meth c s₁ B hml htab hv
  obtain ⟨rfl, hsz, hP, hK, hD0, hXs⟩ := hv
  have hx := B.exec
  have hb := B.bytes
  have hr := B.returns
  have hts := atoms_spec (ws := wsX10_put) B.pre
  have hown : s.vm.findClass RX10 = some m.cls := findClass_of_methodNamed B.named
  have hlocks := B.notSynchronized
  subst hsz
  have hD := hD0.self (sz := s.heap.size)
  generalize hAe : va_A [(h0, .inr (10, [.ref tp, .int 0, .int (-1), .ref ps, .ref sp, .ref tk, .ref dr, .ref pr, .ref da, .ref nw, .ref im, .int 0, .ref ac, .ref ke, .ref si, .ref tx, .ref an, .ref dw])), (ps, .inl (y 3, 4, .inr (.inr (.inr (.inr (fun _ => none)))))), (nw, .inr (6, [.ref nwt, .ref nwb, .int 0, .ref nwn, .ref nwi, .int 0, .ref nwr])), (nwr, .inl (y 0, 3, .inl (fun _ => 0)))] s.heap.size = A at hD hXs ⊢
  have hA : ∀ q : Nat, s.heap.size ≤ q → A q := fun q h => by rw [← hAe]; exact Or.inr h
  have hS : va_S A s.heap s.heap [] := va_S.rf
  have hP : va_P G vwCl [(h0, .inr (10, [.ref tp, .int 0, .int (-1), .ref ps, .ref sp, .ref tk, .ref dr, .ref pr, .ref da, .ref nw, .ref im, .int 0, .ref ac, .ref ke, .ref si, .ref tx, .ref an, .ref dw])), (ps, .inl (y 3, 4, .inr (.inr (.inr (.inr (fun _ => none)))))), (nw, .inr (6, [.ref nwt, .ref nwb, .int 0, .ref nwn, .ref nwi, .int 0, .ref nwr])), (nwr, .inl (y 0, 3, .inl (fun _ => 0)))] s.heap := hP
  have hl := lv_entry ([.ref h0, .int i, .int j]) (n := 4) (Nat.le_of_ble_eq_true rfl)
  rw [lg_entry_eq]
  generalize (lg_sl ([.ref h0, .int i, .int j]) ++ List.replicate (4 - (lg_sl ([.ref h0, .int i, .int j])).length) Slot.unset).toArray = ls at hl ⊢
  have hl : lv_has ls 4 [(0, .ref h0), (1, .int i), (2, .int j)] := hl
  refine lv_aload_n hx hb dX10_put_0 rfl (lv_at hl 0 rfl) ?_
  refine lv_iload_n hx hb dX10_put_1 rfl (lv_at hl 2 rfl) ?_
  refine nq_rdi (va_runV (As := [.int j]) (rest := []) ⟨hx, hb, hml, hown, hts⟩ (c_tapeHas l G y s.heap.size h0 tp ps sp tk dr pr da nw im ac ke si tx an dw j ) (cwV 1 hts gX10_put_X10_tapeHas rfl rfl rfl (by decide +kernel) ⟨Nat.le_of_ble_eq_true rfl, Nat.le_of_ble_eq_true rfl⟩) (nq_PV hK hP hD [0] rfl rfl 0 rfl rfl) rfl rfl hl.1 rfl (lv_room (Nat.le_of_ble_eq_true rfl)) dX10_put_2 ⟨Nat.le_of_ble_eq_true rfl, Nat.le_of_ble_eq_true rfl⟩) hP hS hA (fun r_1 H locs hw_2 hP hS => ?_)
  rcases hw_2 with ⟨c_3, hr_4⟩ | ⟨c_5, hr_6⟩
  · subst c_3
    subst hr_4
    refine lv_if_ne (tgt := 18) hx hb dX10_put_5 (by decide) (fun _ => ?_) (fun c_7 => absurd c_7 (by decide))
    refine lv_aload_n hx hb dX10_put_18 rfl (lv_at hl 0 rfl) ?_
    refine lv_iload_n hx hb dX10_put_19 rfl (lv_at hl 1 rfl) ?_
    refine nq_rdq (va_runV (As := [.int i]) (rest := []) ⟨hx, hb, hml, hown, hts⟩ (c_pathAt l G y H.size h0 tp ps sp tk dr pr da nw im ac ke si tx an dw i ) (cwV 1 hts gX10_put_X10_pathAt rfl rfl rfl (by decide +kernel) ⟨Nat.le_of_ble_eq_true rfl, Nat.le_of_ble_eq_true rfl⟩) (nq_PV hK hP hD [0, 1] rfl rfl 0 rfl rfl) rfl rfl hl.1 rfl (lv_room (Nat.le_of_ble_eq_true rfl)) dX10_put_20 ⟨Nat.le_of_ble_eq_true rfl, Nat.le_of_ble_eq_true rfl⟩) hP hS hA (fun r_8 H locs hw_9 hP hS => ?_)
    subst hw_9
    refine lv_astore_nN (lv' := [(3, .null), (0, .ref h0), (1, .int i), (2, .int 0)]) hx hb dX10_put_23 rfl hl (by decide) rfl (fun ls hl => ?_)
    refine lv_aload_nN hx hb dX10_put_24 rfl (lv_at hl 0 rfl) ?_
    refine lv_ifnonnullN hx hb dX10_put_25 ?_
    refine lv_aload_n hx hb dX10_put_28 rfl (lv_at hl 1 rfl) ?_
    refine nq_wri (wr := [(ps, .inl (y 3, 4, .inr (.inr (.inr (.inr (fun _ => none))))))]) (va_runV (As := []) (rest := []) ⟨hx, hb, hml, hown, hts⟩ (c_refusedUnread l G y H.size h0 tp ps sp tk dr pr da nw im ac ke si tx an dw nwt nwb nwn nwi nwr ) (cwV 0 hts gX10_put_X10_refusedUnread rfl rfl rfl (by decide +kernel) ⟨Nat.le_of_ble_eq_true rfl, Nat.le_of_ble_eq_true rfl⟩) (nq_PV hK hP hD [0, 2, 3] rfl rfl 0 rfl rfl) rfl rfl hl.1 rfl (lv_room (Nat.le_of_ble_eq_true rfl)) dX10_put_29 ⟨Nat.le_of_ble_eq_true rfl, Nat.le_of_ble_eq_true rfl⟩) hP hD hS hA [0, 2, 3] [1] rfl rfl (by decide) (by decide) (fun r_12 u_10 H locs hw_11 hP hD hS => ?_)
    have hP : va_P G vwCl [(ps, .inl (y 3, 4, .inr (.inr (.inr (.inr (fun _ => none))))))] H := hP
    have hD : va_D A [(ps, .inl (y 3, 4, .inr (.inr (.inr (.inr (fun _ => none))))))] := hD
    subst hw_11
    have hP9 := hP.sub (ws' := []) [] rfl
    have hD9 := hD.sub (ws' := []) [] (by decide) rfl
    refine vx_ret ?_
    refine W.widen (k := 1) (n := 6) (Nat.le_of_ble_eq_true rfl) (Nat.le_of_ble_eq_true rfl) ?_
    exact W.iret (v := (-1)) hx hb hr (fun t ht hW => ⟨⟨(-1), (), rfl, ⟨by simp [sp_put], by simp [sp_put]⟩, by rw [ht]; exact hP9, by first | exact hD9 | (rw [hAe]; exact hD9)⟩, hS.F ht⟩) hS.2.2 dX10_put_32
  · subst hr_6
    refine lv_if_ne (tgt := 18) hx hb dX10_put_5 (by decide) (fun c_14 => absurd c_14 (by decide)) (fun _ => ?_)
    exact nq_throwI (BX := fun E => E = nq_IAE ∧ (sp_put i j).1 = 1) (text := "the tape has not so many bytes") hx hb hl0 hown hts (by first | exact fun w h => List.mem_cons_of_mem _ (List.mem_append_right _ h) | exact fun w h => List.mem_cons_of_mem _ (List.mem_append_left _ (List.mem_append_right _ h)) | decide +kernel) (by decide +kernel) (by decide +kernel) hXs hS (hl.1.trans hml.symm) htab hlocks (List.mem_of_getElem? (i := 0) rfl) dX10_put_8 dX10_put_11 dX10_put_12 dX10_put_14 dX10_put_17 (Nat.le_of_ble_eq_true rfl) (Nat.le_of_ble_eq_true rfl) (Nat.le_of_ble_eq_true rfl) (Nat.le_of_ble_eq_true rfl) (⟨rfl, by simp [sp_put, c_5]⟩) (Nat.le_of_ble_eq_true rfl) (Nat.le_of_ble_eq_true rfl)

set_option maxHeartbeats 4000000 in
set_option maxRecDepth 100000 in
theorem x_append (l : Launch) (hl0 : l.stackTraces = false) (G : va_G) (y : Nat → ClassId) (sz : Nat) (h0 : Nat) (tp : Nat) (ps : Nat) (sp : Nat) (tk : Nat) (dr : Nat) (pr : Nat) (da : Nat) (nw : Nat) (im : Nat) (ac : Nat) (ke : Nat) (si : Nat) (tx : Nat) (an : Nat) (dw : Nat) (nwt : Nat) (nwb : Nat) (nwn : Nat) (nwi : Nat) (nwr : Nat) (i : Int32) (j : Int32)  : vx_Met l yX10_append wsX10_append ({ frames := 6, cells := 1, slots := 6, locals := 100 }) (nq_PX G y sz [.ref h0, .int i, .int j] [(h0, .inr (10, [.ref tp, .int 0, .int (-1), .ref ps, .ref sp, .ref tk, .ref dr, .ref pr, .ref da, .ref nw, .ref im, .int 0, .ref ac, .ref ke, .ref si, .ref tx, .ref an, .ref dw])), (ps, .inl (y 3, 4, .inr (.inr (.inr (.inr (fun _ => none)))))), (nw, .inr (6, [.ref nwt, .ref nwb, .int 0, .ref nwn, .ref nwi, .int 0, .ref nwr])), (nwr, .inl (y 0, 3, .inl (fun _ => 0)))]) (va_Qi (fun (r : Int32) (_ : Unit) => (sp_put i j).1 = 0 ∧ r = (sp_put i j).2) (fun (u : Unit) t9 => va_P G vwCl ([]) t9.heap ∧ va_D (va_A [(h0, .inr (10, [.ref tp, .int 0, .int (-1), .ref ps, .ref sp, .ref tk, .ref dr, .ref pr, .ref da, .ref nw, .ref im, .int 0, .ref ac, .ref ke, .ref si, .ref tx, .ref an, .ref dw])), (ps, .inl (y 3, 4, .inr (.inr (.inr (.inr (fun _ => none)))))), (nw, .inr (6, [.ref nwt, .ref nwb, .int 0, .ref nwn, .ref nwi, .int 0, .ref nwr])), (nwr, .inl (y 0, 3, .inl (fun _ => 0)))] sz) ([])) (va_A [(h0, .inr (10, [.ref tp, .int 0, .int (-1), .ref ps, .ref sp, .ref tk, .ref dr, .ref pr, .ref da, .ref nw, .ref im, .int 0, .ref ac, .ref ke, .ref si, .ref tx, .ref an, .ref dw])), (ps, .inl (y 3, 4, .inr (.inr (.inr (.inr (fun _ => none)))))), (nw, .inr (6, [.ref nwt, .ref nwb, .int 0, .ref nwn, .ref nwi, .int 0, .ref nwr])), (nwr, .inl (y 0, 3, .inl (fun _ => 0)))] sz)) (vx_X (fun (_ : Unit) => True) (fun E _ _ => E = nq_IAE ∧ (sp_put i j).1 = 1) (va_A [(h0, .inr (10, [.ref tp, .int 0, .int (-1), .ref ps, .ref sp, .ref tk, .ref dr, .ref pr, .ref da, .ref nw, .ref im, .int 0, .ref ac, .ref ke, .ref si, .ref tx, .ref an, .ref dw])), (ps, .inl (y 3, 4, .inr (.inr (.inr (.inr (fun _ => none)))))), (nw, .inr (6, [.ref nwt, .ref nwb, .int 0, .ref nwn, .ref nwi, .int 0, .ref nwr])), (nwr, .inl (y 0, 3, .inl (fun _ => 0)))] sz)) 1 6 (va_A [(h0, .inr (10, [.ref tp, .int 0, .int (-1), .ref ps, .ref sp, .ref tk, .ref dr, .ref pr, .ref da, .ref nw, .ref im, .int 0, .ref ac, .ref ke, .ref si, .ref tx, .ref an, .ref dw])), (ps, .inl (y 3, 4, .inr (.inr (.inr (.inr (fun _ => none)))))), (nw, .inr (6, [.ref nwt, .ref nwb, .int 0, .ref nwn, .ref nwi, .int 0, .ref nwr])), (nwr, .inl (y 0, 3, .inl (fun _ => 0)))] sz) := by
  refine vx_ofW (cc := cX10_append) (maxL := 4) (ret := (some .int)) (by decide) rfl ?_
  intro p e s m args below meth c s₁ B hml htab hv
  obtain ⟨rfl, hsz, hP, hK, hD0, hXs⟩ := hv
  have hx := B.exec
  have hb := B.bytes
  have hr := B.returns
  have hts := atoms_spec (ws := wsX10_append) B.pre
  have hown : s.vm.findClass RX10 = some m.cls := findClass_of_methodNamed B.named
  have hlocks := B.notSynchronized
  subst hsz
  have hD := hD0.self (sz := s.heap.size)
  generalize hAe : va_A [(h0, .inr (10, [.ref tp, .int 0, .int (-1), .ref ps, .ref sp, .ref tk, .ref dr, .ref pr, .ref da, .ref nw, .ref im, .int 0, .ref ac, .ref ke, .ref si, .ref tx, .ref an, .ref dw])), (ps, .inl (y 3, 4, .inr (.inr (.inr (.inr (fun _ => none)))))), (nw, .inr (6, [.ref nwt, .ref nwb, .int 0, .ref nwn, .ref nwi, .int 0, .ref nwr])), (nwr, .inl (y 0, 3, .inl (fun _ => 0)))] s.heap.size = A at hD hXs ⊢
  have hA : ∀ q : Nat, s.heap.size ≤ q → A q := fun q h => by rw [← hAe]; exact Or.inr h
  have hS : va_S A s.heap s.heap [] := va_S.rf
  have hP : va_P G vwCl [(h0, .inr (10, [.ref tp, .int 0, .int (-1), .ref ps, .ref sp, .ref tk, .ref dr, .ref pr, .ref da, .ref nw, .ref im, .int 0, .ref ac, .ref ke, .ref si, .ref tx, .ref an, .ref dw])), (ps, .inl (y 3, 4, .inr (.inr (.inr (.inr (fun _ => none)))))), (nw, .inr (6, [.ref nwt, .ref nwb, .int 0, .ref nwn, .ref nwi, .int 0, .ref nwr])), (nwr, .inl (y 0, 3, .inl (fun _ => 0)))] s.heap := hP
  have hl := lv_entry ([.ref h0, .int i, .int j]) (n := 4) (Nat.le_of_ble_eq_true rfl)
  rw [lg_entry_eq]
  generalize (lg_sl ([.ref h0, .int i, .int j]) ++ List.replicate (4 - (lg_sl ([.ref h0, .int i, .int j])).length) Slot.unset).toArray = ls at hl ⊢
  have hl : lv_has ls 4 [(0, .ref h0), (1, .int i), (2, .int j)] := hl
  refine lv_aload_n hx hb dX10_append_0 rfl (lv_at hl 0 rfl) ?_
  refine lv_iload_n hx hb dX10_append_1 rfl (lv_at hl 2 rfl) ?_
  refine nq_rdi (va_runV (As := [.int j]) (rest := []) ⟨hx, hb, hml, hown, hts⟩ (c_tapeHas l G y s.heap.size h0 tp ps sp tk dr pr da nw im ac ke si tx an dw j ) (cwV 1 hts gX10_append_X10_tapeHas rfl rfl rfl (by decide +kernel) ⟨Nat.le_of_ble_eq_true rfl, Nat.le_of_ble_eq_true rfl⟩) (nq_PV hK hP hD [0] rfl rfl 0 rfl rfl) rfl rfl hl.1 rfl (lv_room (Nat.le_of_ble_eq_true rfl)) dX10_append_2 ⟨Nat.le_of_ble_eq_true rfl, Nat.le_of_ble_eq_true rfl⟩) hP hS hA (fun r_1 H locs hw_2 hP hS => ?_)
  rcases hw_2 with ⟨c_3, hr_4⟩ | ⟨c_5, hr_6⟩
  · subst c_3
    subst hr_4
    refine lv_if_ne (tgt := 18) hx hb dX10_append_5 (by decide) (fun _ => ?_) (fun c_7 => absurd c_7 (by decide))
    refine lv_aload_n hx hb dX10_append_18 rfl (lv_at hl 0 rfl) ?_
    refine lv_iload_n hx hb dX10_append_19 rfl (lv_at hl 1 rfl) ?_
    refine nq_rdq (va_runV (As := [.int i]) (rest := []) ⟨hx, hb, hml, hown, hts⟩ (c_pathAt l G y H.size h0 tp ps sp tk dr pr da nw im ac ke si tx an dw i ) (cwV 1 hts gX10_append_X10_pathAt rfl rfl rfl (by decide +kernel) ⟨Nat.le_of_ble_eq_true rfl, Nat.le_of_ble_eq_true rfl⟩) (nq_PV hK hP hD [0, 1] rfl rfl 0 rfl rfl) rfl rfl hl.1 rfl (lv_room (Nat.le_of_ble_eq_true rfl)) dX10_append_20 ⟨Nat.le_of_ble_eq_true rfl, Nat.le_of_ble_eq_true rfl⟩) hP hS hA (fun r_8 H locs hw_9 hP hS => ?_)
    subst hw_9
    refine lv_astore_nN (lv' := [(3, .null), (0, .ref h0), (1, .int i), (2, .int 0)]) hx hb dX10_append_23 rfl hl (by decide) rfl (fun ls hl => ?_)
    refine lv_aload_nN hx hb dX10_append_24 rfl (lv_at hl 0 rfl) ?_
    refine lv_ifnonnullN hx hb dX10_append_25 ?_
    refine lv_aload_n hx hb dX10_append_28 rfl (lv_at hl 1 rfl) ?_
    refine nq_wri (wr := [(ps, .inl (y 3, 4, .inr (.inr (.inr (.inr (fun _ => none))))))]) (va_runV (As := []) (rest := []) ⟨hx, hb, hml, hown, hts⟩ (c_refusedUnread l G y H.size h0 tp ps sp tk dr pr da nw im ac ke si tx an dw nwt nwb nwn nwi nwr ) (cwV 0 hts gX10_append_X10_refusedUnread rfl rfl rfl (by decide +kernel) ⟨Nat.le_of_ble_eq_true rfl, Nat.le_of_ble_eq_true rfl⟩) (nq_PV hK hP hD [0, 2, 3] rfl rfl 0 rfl rfl) rfl rfl hl.1 rfl (lv_room (Nat.le_of_ble_eq_true rfl)) dX10_append_29 ⟨Nat.le_of_ble_eq_true rfl, Nat.le_of_ble_eq_true rfl⟩) hP hD hS hA [0, 2, 3] [1] rfl rfl (by decide) (by decide) (fun r_12 u_10 H locs hw_11 hP hD hS => ?_)
    have hP : va_P G vwCl [(ps, .inl (y 3, 4, .inr (.inr (.inr (.inr (fun _ => none))))))] H := hP
    have hD : va_D A [(ps, .inl (y 3, 4, .inr (.inr (.inr (.inr (fun _ => none))))))] := hD
    subst hw_11
    have hP9 := hP.sub (ws' := []) [] rfl
    have hD9 := hD.sub (ws' := []) [] (by decide) rfl
    refine vx_ret ?_
    refine W.widen (k := 1) (n := 6) (Nat.le_of_ble_eq_true rfl) (Nat.le_of_ble_eq_true rfl) ?_
    exact W.iret (v := (-1)) hx hb hr (fun t ht hW => ⟨⟨(-1), (), rfl, ⟨by simp [sp_put], by simp [sp_put]⟩, by rw [ht]; exact hP9, by first | exact hD9 | (rw [hAe]; exact hD9)⟩, hS.F ht⟩) hS.2.2 dX10_append_32
  · subst hr_6
    refine lv_if_ne (tgt := 18) hx hb dX10_append_5 (by decide) (fun c_14 => absurd c_14 (by decide)) (fun _ => ?_)
    exact nq_throwI (BX := fun E => E = nq_IAE ∧ (sp_put i j).1 = 1) (text := "the tape has not so many bytes") hx hb hl0 hown hts (by first | exact fun w h => List.mem_cons_of_mem _ (List.mem_append_right _ h) | exact fun w h => List.mem_cons_of_mem _ (List.mem_append_left _ (List.mem_append_right _ h)) | decide +kernel) (by decide +kernel) (by decide +kernel) hXs hS (hl.1.trans hml.symm) htab hlocks (List.mem_of_getElem? (i := 0) rfl) dX10_append_8 dX10_append_11 dX10_append_12 dX10_append_14 dX10_append_17 (Nat.le_of_ble_eq_true rfl) (Nat.le_of_ble_eq_true rfl) (Nat.le_of_ble_eq_true rfl) (Nat.le_of_ble_eq_true rfl) (⟨rfl, by simp [sp_put, c_5]⟩) (Nat.le_of_ble_eq_true rfl) (Nat.le_of_ble_eq_true rfl)

set_option maxHeartbeats 4000000 in
set_option maxRecDepth 100000 in
theorem x_key (l : Launch) (hl0 : l.stackTraces = false) (G : va_G) (y : Nat → ClassId) (sz : Nat) (h0 : Nat) (tp : Nat) (ps : Nat) (sp : Nat) (tk : Nat) (dr : Nat) (pr : Nat) (da : Nat) (nw : Nat) (im : Nat) (ac : Nat) (ke : Nat) (si : Nat) (tx : Nat) (an : Nat) (dw : Nat) (nwt : Nat) (nwb : Nat) (nwn : Nat) (nwi : Nat) (nwr : Nat) (i : Int32) (k : Int32) (j : Int32)  : vx_Met l yX10_key wsX10_key ({ frames := 6, cells := 1, slots := 6, locals := 100 }) (nq_PX G y sz [.ref h0, .int i, .int k, .int j] [(h0, .inr (10, [.ref tp, .int 0, .int (-1), .ref ps, .ref sp, .ref tk, .ref dr, .ref pr, .ref da, .ref nw, .ref im, .int 0, .ref ac, .ref ke, .ref si, .ref tx, .ref an, .ref dw])), (ps, .inl (y 3, 4, .inr (.inr (.inr (.inr (fun _ => none)))))), (nw, .inr (6, [.ref nwt, .ref nwb, .int 0, .ref nwn, .ref nwi, .int 0, .ref nwr])), (nwr, .inl (y 0, 3, .inl (fun _ => 0)))]) (va_Qi (fun (r : Int32) (_ : Unit) => (sp_key i k j).1 = 0 ∧ r = (sp_key i k j).2) (fun (u : Unit) t9 => va_P G vwCl ([]) t9.heap ∧ va_D (va_A [(h0, .inr (10, [.ref tp, .int 0, .int (-1), .ref ps, .ref sp, .ref tk, .ref dr, .ref pr, .ref da, .ref nw, .ref im, .int 0, .ref ac, .ref ke, .ref si, .ref tx, .ref an, .ref dw])), (ps, .inl (y 3, 4, .inr (.inr (.inr (.inr (fun _ => none)))))), (nw, .inr (6, [.ref nwt, .ref nwb, .int 0, .ref nwn, .ref nwi, .int 0, .ref nwr])), (nwr, .inl (y 0, 3, .inl (fun _ => 0)))] sz) ([])) (va_A [(h0, .inr (10, [.ref tp, .int 0, .int (-1), .ref ps, .ref sp, .ref tk, .ref dr, .ref pr, .ref da, .ref nw, .ref im, .int 0, .ref ac, .ref ke, .ref si, .ref tx, .ref an, .ref dw])), (ps, .inl (y 3, 4, .inr (.inr (.inr (.inr (fun _ => none)))))), (nw, .inr (6, [.ref nwt, .ref nwb, .int 0, .ref nwn, .ref nwi, .int 0, .ref nwr])), (nwr, .inl (y 0, 3, .inl (fun _ => 0)))] sz)) (vx_X (fun (_ : Unit) => True) (fun E _ _ => E = nq_IAE ∧ (sp_key i k j).1 = 1) (va_A [(h0, .inr (10, [.ref tp, .int 0, .int (-1), .ref ps, .ref sp, .ref tk, .ref dr, .ref pr, .ref da, .ref nw, .ref im, .int 0, .ref ac, .ref ke, .ref si, .ref tx, .ref an, .ref dw])), (ps, .inl (y 3, 4, .inr (.inr (.inr (.inr (fun _ => none)))))), (nw, .inr (6, [.ref nwt, .ref nwb, .int 0, .ref nwn, .ref nwi, .int 0, .ref nwr])), (nwr, .inl (y 0, 3, .inl (fun _ => 0)))] sz)) 1 6 (va_A [(h0, .inr (10, [.ref tp, .int 0, .int (-1), .ref ps, .ref sp, .ref tk, .ref dr, .ref pr, .ref da, .ref nw, .ref im, .int 0, .ref ac, .ref ke, .ref si, .ref tx, .ref an, .ref dw])), (ps, .inl (y 3, 4, .inr (.inr (.inr (.inr (fun _ => none)))))), (nw, .inr (6, [.ref nwt, .ref nwb, .int 0, .ref nwn, .ref nwi, .int 0, .ref nwr])), (nwr, .inl (y 0, 3, .inl (fun _ => 0)))] sz) := by
  refine vx_ofW (cc := cX10_key) (maxL := 5) (ret := (some .int)) (by decide) rfl ?_
  intro p e s m args below meth c s₁ B hml htab hv
  obtain ⟨rfl, hsz, hP, hK, hD0, hXs⟩ := hv
  have hx := B.exec
  have hb := B.bytes
  have hr := B.returns
  have hts := atoms_spec (ws := wsX10_key) B.pre
  have hown : s.vm.findClass RX10 = some m.cls := findClass_of_methodNamed B.named
  have hlocks := B.notSynchronized
  subst hsz
  have hD := hD0.self (sz := s.heap.size)
  generalize hAe : va_A [(h0, .inr (10, [.ref tp, .int 0, .int (-1), .ref ps, .ref sp, .ref tk, .ref dr, .ref pr, .ref da, .ref nw, .ref im, .int 0, .ref ac, .ref ke, .ref si, .ref tx, .ref an, .ref dw])), (ps, .inl (y 3, 4, .inr (.inr (.inr (.inr (fun _ => none)))))), (nw, .inr (6, [.ref nwt, .ref nwb, .int 0, .ref nwn, .ref nwi, .int 0, .ref nwr])), (nwr, .inl (y 0, 3, .inl (fun _ => 0)))] s.heap.size = A at hD hXs ⊢
  have hA : ∀ q : Nat, s.heap.size ≤ q → A q := fun q h => by rw [← hAe]; exact Or.inr h
  have hS : va_S A s.heap s.heap [] := va_S.rf
  have hP : va_P G vwCl [(h0, .inr (10, [.ref tp, .int 0, .int (-1), .ref ps, .ref sp, .ref tk, .ref dr, .ref pr, .ref da, .ref nw, .ref im, .int 0, .ref ac, .ref ke, .ref si, .ref tx, .ref an, .ref dw])), (ps, .inl (y 3, 4, .inr (.inr (.inr (.inr (fun _ => none)))))), (nw, .inr (6, [.ref nwt, .ref nwb, .int 0, .ref nwn, .ref nwi, .int 0, .ref nwr])), (nwr, .inl (y 0, 3, .inl (fun _ => 0)))] s.heap := hP
  have hl := lv_entry ([.ref h0, .int i, .int k, .int j]) (n := 5) (Nat.le_of_ble_eq_true rfl)
  rw [lg_entry_eq]
  generalize (lg_sl ([.ref h0, .int i, .int k, .int j]) ++ List.replicate (5 - (lg_sl ([.ref h0, .int i, .int k, .int j])).length) Slot.unset).toArray = ls at hl ⊢
  have hl : lv_has ls 5 [(0, .ref h0), (1, .int i), (2, .int k), (3, .int j)] := hl
  refine lv_aload_n hx hb dX10_key_0 rfl (lv_at hl 0 rfl) ?_
  refine lv_iload_n hx hb dX10_key_1 rfl (lv_at hl 3 rfl) ?_
  refine nq_rdi (va_runV (As := [.int j]) (rest := []) ⟨hx, hb, hml, hown, hts⟩ (c_tapeHas l G y s.heap.size h0 tp ps sp tk dr pr da nw im ac ke si tx an dw j ) (cwV 1 hts gX10_key_X10_tapeHas rfl rfl rfl (by decide +kernel) ⟨Nat.le_of_ble_eq_true rfl, Nat.le_of_ble_eq_true rfl⟩) (nq_PV hK hP hD [0] rfl rfl 0 rfl rfl) rfl rfl hl.1 rfl (lv_room (Nat.le_of_ble_eq_true rfl)) dX10_key_2 ⟨Nat.le_of_ble_eq_true rfl, Nat.le_of_ble_eq_true rfl⟩) hP hS hA (fun r_1 H locs hw_2 hP hS => ?_)
  rcases hw_2 with ⟨c_3, hr_4⟩ | ⟨c_5, hr_6⟩
  · subst c_3
    subst hr_4
    refine lv_if_ne (tgt := 18) hx hb dX10_key_5 (by decide) (fun _ => ?_) (fun c_7 => absurd c_7 (by decide))
    refine lv_aload_n hx hb dX10_key_18 rfl (lv_at hl 0 rfl) ?_
    refine lv_iload_n hx hb dX10_key_19 rfl (lv_at hl 1 rfl) ?_
    refine nq_rdq (va_runV (As := [.int i]) (rest := []) ⟨hx, hb, hml, hown, hts⟩ (c_pathAt l G y H.size h0 tp ps sp tk dr pr da nw im ac ke si tx an dw i ) (cwV 1 hts gX10_key_X10_pathAt rfl rfl rfl (by decide +kernel) ⟨Nat.le_of_ble_eq_true rfl, Nat.le_of_ble_eq_true rfl⟩) (nq_PV hK hP hD [0, 1] rfl rfl 0 rfl rfl) rfl rfl hl.1 rfl (lv_room (Nat.le_of_ble_eq_true rfl)) dX10_key_20 ⟨Nat.le_of_ble_eq_true rfl, Nat.le_of_ble_eq_true rfl⟩) hP hS hA (fun r_8 H locs hw_9 hP hS => ?_)
    subst hw_9
    refine lv_astoreN (lv' := [(4, .null), (0, .ref h0), (1, .int i), (2, .int k), (3, .int 0)]) hx hb dX10_key_23 hl (by decide) rfl (fun ls hl => ?_)
    refine lv_aloadN hx hb dX10_key_25 (lv_at hl 0 rfl) ?_
    refine lv_ifnullN (tgt := 37) hx hb dX10_key_27 (by decide) ?_
    refine lv_aload_n hx hb dX10_key_37 rfl (lv_at hl 1 rfl) ?_
    refine nq_wri (wr := [(ps, .inl (y 3, 4, .inr (.inr (.inr (.inr (fun _ => none))))))]) (va_runV (As := []) (rest := []) ⟨hx, hb, hml, hown, hts⟩ (c_refusedUnread l G y H.size h0 tp ps sp tk dr pr da nw im ac ke si tx an dw nwt nwb nwn nwi nwr ) (cwV 0 hts gX10_key_X10_refusedUnread rfl rfl rfl (by decide +kernel) ⟨Nat.le_of_ble_eq_true rfl, Nat.le_of_ble_eq_true rfl⟩) (nq_PV hK hP hD [0, 2, 3] rfl rfl 0 rfl rfl) rfl rfl hl.1 rfl (lv_room (Nat.le_of_ble_eq_true rfl)) dX10_key_38 ⟨Nat.le_of_ble_eq_true rfl, Nat.le_of_ble_eq_true rfl⟩) hP hD hS hA [0, 2, 3] [1] rfl rfl (by decide) (by decide) (fun r_12 u_10 H locs hw_11 hP hD hS => ?_)
    have hP : va_P G vwCl [(ps, .inl (y 3, 4, .inr (.inr (.inr (.inr (fun _ => none))))))] H := hP
    have hD : va_D A [(ps, .inl (y 3, 4, .inr (.inr (.inr (.inr (fun _ => none))))))] := hD
    subst hw_11
    have hP9 := hP.sub (ws' := []) [] rfl
    have hD9 := hD.sub (ws' := []) [] (by decide) rfl
    refine vx_ret ?_
    refine W.widen (k := 1) (n := 6) (Nat.le_of_ble_eq_true rfl) (Nat.le_of_ble_eq_true rfl) ?_
    exact W.iret (v := (-1)) hx hb hr (fun t ht hW => ⟨⟨(-1), (), rfl, ⟨by simp [sp_key], by simp [sp_key]⟩, by rw [ht]; exact hP9, by first | exact hD9 | (rw [hAe]; exact hD9)⟩, hS.F ht⟩) hS.2.2 dX10_key_41
  · subst hr_6
    refine lv_if_ne (tgt := 18) hx hb dX10_key_5 (by decide) (fun c_14 => absurd c_14 (by decide)) (fun _ => ?_)
    exact nq_throwI (BX := fun E => E = nq_IAE ∧ (sp_key i k j).1 = 1) (text := "the tape has not so many bytes") hx hb hl0 hown hts (by first | exact fun w h => List.mem_cons_of_mem _ (List.mem_append_right _ h) | exact fun w h => List.mem_cons_of_mem _ (List.mem_append_left _ (List.mem_append_right _ h)) | decide +kernel) (by decide +kernel) (by decide +kernel) hXs hS (hl.1.trans hml.symm) htab hlocks (List.mem_of_getElem? (i := 0) rfl) dX10_key_8 dX10_key_11 dX10_key_12 dX10_key_14 dX10_key_17 (Nat.le_of_ble_eq_true rfl) (Nat.le_of_ble_eq_true rfl) (Nat.le_of_ble_eq_true rfl) (Nat.le_of_ble_eq_true rfl) (⟨rfl, by simp [sp_key, c_5]⟩) (Nat.le_of_ble_eq_true rfl) (Nat.le_of_ble_eq_true rfl)

set_option maxHeartbeats 4000000 in
set_option maxRecDepth 100000 in
theorem x_tree (l : Launch) (hl0 : l.stackTraces = false) (G : va_G) (y : Nat → ClassId) (sz : Nat) (h0 : Nat) (tp : Nat) (ps : Nat) (sp : Nat) (tk : Nat) (dr : Nat) (pr : Nat) (da : Nat) (nw : Nat) (im : Nat) (ac : Nat) (ke : Nat) (si : Nat) (tx : Nat) (an : Nat) (dw : Nat) (tk1 : Nat) (tk2 : Nat) (tk3 : Nat) (tk4 : Nat) (dak : Nat) (dav : Nat) (dae : Nat) (dad : Nat) (nwt : Nat) (nwb : Nat) (nwn : Nat) (nwi : Nat) (nwr : Nat) (i : Int32)  : vx_Met l yX10_tree wsX10_tree ({ frames := 6, cells := 1, slots := 6, locals := 112 }) (nq_PX G y sz [.ref h0, .int i] [(h0, .inr (10, [.ref tp, .int 0, .int (-1), .ref ps, .ref sp, .ref tk, .ref dr, .ref pr, .ref da, .ref nw, .ref im, .int 0, .ref ac, .ref ke, .ref si, .ref tx, .ref an, .ref dw])), (dr, .inr (1, [.ref tk])), (tk, .inr (8, [.ref tk1, .ref tk2, .ref tk3, .ref tk4, .int 0, .int 0, .int 0, .int 0, .int (-1)])), (tk1, .inl (y 0, 401, .inl (fun _ => 0))), (tk2, .inl (y 0, 401, .inl (fun _ => 0))), (tk3, .inl (y 0, 401, .inl (fun _ => 0))), (tk4, .inl (y 0, 401, .inl (fun _ => 0))), (tp, .inl (y 0, 400, .inl (fun _ => 0))), (da, .inr (9, [.ref dak, .ref dav, .ref dae, .ref dad, .int 0])), (nw, .inr (6, [.ref nwt, .ref nwb, .int 0, .ref nwn, .ref nwi, .int 0, .ref nwr])), (nwr, .inl (y 0, 3, .inl (fun _ => 0)))]) (va_Qi (fun (r : Int32) (_ : Unit) => (sp_tree i).1 = 0 ∧ r = (sp_tree i).2) (fun (u : Unit) t9 => va_P G vwCl ([]) t9.heap ∧ va_D (va_A [(h0, .inr (10, [.ref tp, .int 0, .int (-1), .ref ps, .ref sp, .ref tk, .ref dr, .ref pr, .ref da, .ref nw, .ref im, .int 0, .ref ac, .ref ke, .ref si, .ref tx, .ref an, .ref dw])), (dr, .inr (1, [.ref tk])), (tk, .inr (8, [.ref tk1, .ref tk2, .ref tk3, .ref tk4, .int 0, .int 0, .int 0, .int 0, .int (-1)])), (tk1, .inl (y 0, 401, .inl (fun _ => 0))), (tk2, .inl (y 0, 401, .inl (fun _ => 0))), (tk3, .inl (y 0, 401, .inl (fun _ => 0))), (tk4, .inl (y 0, 401, .inl (fun _ => 0))), (tp, .inl (y 0, 400, .inl (fun _ => 0))), (da, .inr (9, [.ref dak, .ref dav, .ref dae, .ref dad, .int 0])), (nw, .inr (6, [.ref nwt, .ref nwb, .int 0, .ref nwn, .ref nwi, .int 0, .ref nwr])), (nwr, .inl (y 0, 3, .inl (fun _ => 0)))] sz) ([])) (va_A [(h0, .inr (10, [.ref tp, .int 0, .int (-1), .ref ps, .ref sp, .ref tk, .ref dr, .ref pr, .ref da, .ref nw, .ref im, .int 0, .ref ac, .ref ke, .ref si, .ref tx, .ref an, .ref dw])), (dr, .inr (1, [.ref tk])), (tk, .inr (8, [.ref tk1, .ref tk2, .ref tk3, .ref tk4, .int 0, .int 0, .int 0, .int 0, .int (-1)])), (tk1, .inl (y 0, 401, .inl (fun _ => 0))), (tk2, .inl (y 0, 401, .inl (fun _ => 0))), (tk3, .inl (y 0, 401, .inl (fun _ => 0))), (tk4, .inl (y 0, 401, .inl (fun _ => 0))), (tp, .inl (y 0, 400, .inl (fun _ => 0))), (da, .inr (9, [.ref dak, .ref dav, .ref dae, .ref dad, .int 0])), (nw, .inr (6, [.ref nwt, .ref nwb, .int 0, .ref nwn, .ref nwi, .int 0, .ref nwr])), (nwr, .inl (y 0, 3, .inl (fun _ => 0)))] sz)) (vx_X (fun (_ : Unit) => True) (fun E _ _ => E = nq_IAE ∧ (sp_tree i).1 = 1) (va_A [(h0, .inr (10, [.ref tp, .int 0, .int (-1), .ref ps, .ref sp, .ref tk, .ref dr, .ref pr, .ref da, .ref nw, .ref im, .int 0, .ref ac, .ref ke, .ref si, .ref tx, .ref an, .ref dw])), (dr, .inr (1, [.ref tk])), (tk, .inr (8, [.ref tk1, .ref tk2, .ref tk3, .ref tk4, .int 0, .int 0, .int 0, .int 0, .int (-1)])), (tk1, .inl (y 0, 401, .inl (fun _ => 0))), (tk2, .inl (y 0, 401, .inl (fun _ => 0))), (tk3, .inl (y 0, 401, .inl (fun _ => 0))), (tk4, .inl (y 0, 401, .inl (fun _ => 0))), (tp, .inl (y 0, 400, .inl (fun _ => 0))), (da, .inr (9, [.ref dak, .ref dav, .ref dae, .ref dad, .int 0])), (nw, .inr (6, [.ref nwt, .ref nwb, .int 0, .ref nwn, .ref nwi, .int 0, .ref nwr])), (nwr, .inl (y 0, 3, .inl (fun _ => 0)))] sz)) 1 6 (va_A [(h0, .inr (10, [.ref tp, .int 0, .int (-1), .ref ps, .ref sp, .ref tk, .ref dr, .ref pr, .ref da, .ref nw, .ref im, .int 0, .ref ac, .ref ke, .ref si, .ref tx, .ref an, .ref dw])), (dr, .inr (1, [.ref tk])), (tk, .inr (8, [.ref tk1, .ref tk2, .ref tk3, .ref tk4, .int 0, .int 0, .int 0, .int 0, .int (-1)])), (tk1, .inl (y 0, 401, .inl (fun _ => 0))), (tk2, .inl (y 0, 401, .inl (fun _ => 0))), (tk3, .inl (y 0, 401, .inl (fun _ => 0))), (tk4, .inl (y 0, 401, .inl (fun _ => 0))), (tp, .inl (y 0, 400, .inl (fun _ => 0))), (da, .inr (9, [.ref dak, .ref dav, .ref dae, .ref dad, .int 0])), (nw, .inr (6, [.ref nwt, .ref nwb, .int 0, .ref nwn, .ref nwi, .int 0, .ref nwr])), (nwr, .inl (y 0, 3, .inl (fun _ => 0)))] sz) := by
  refine vx_ofW (cc := cX10_tree) (maxL := 3) (ret := (some .int)) (by decide) rfl ?_
  intro p e s m args below meth c s₁ B hml htab hv
  obtain ⟨rfl, hsz, hP, hK, hD0, hXs⟩ := hv
  have hx := B.exec
  have hb := B.bytes
  have hr := B.returns
  have hts := atoms_spec (ws := wsX10_tree) B.pre
  have hown : s.vm.findClass RX10 = some m.cls := findClass_of_methodNamed B.named
  have hlocks := B.notSynchronized
  subst hsz
  have hD := hD0.self (sz := s.heap.size)
  generalize hAe : va_A [(h0, .inr (10, [.ref tp, .int 0, .int (-1), .ref ps, .ref sp, .ref tk, .ref dr, .ref pr, .ref da, .ref nw, .ref im, .int 0, .ref ac, .ref ke, .ref si, .ref tx, .ref an, .ref dw])), (dr, .inr (1, [.ref tk])), (tk, .inr (8, [.ref tk1, .ref tk2, .ref tk3, .ref tk4, .int 0, .int 0, .int 0, .int 0, .int (-1)])), (tk1, .inl (y 0, 401, .inl (fun _ => 0))), (tk2, .inl (y 0, 401, .inl (fun _ => 0))), (tk3, .inl (y 0, 401, .inl (fun _ => 0))), (tk4, .inl (y 0, 401, .inl (fun _ => 0))), (tp, .inl (y 0, 400, .inl (fun _ => 0))), (da, .inr (9, [.ref dak, .ref dav, .ref dae, .ref dad, .int 0])), (nw, .inr (6, [.ref nwt, .ref nwb, .int 0, .ref nwn, .ref nwi, .int 0, .ref nwr])), (nwr, .inl (y 0, 3, .inl (fun _ => 0)))] s.heap.size = A at hD hXs ⊢
  have hA : ∀ q : Nat, s.heap.size ≤ q → A q := fun q h => by rw [← hAe]; exact Or.inr h
  have hS : va_S A s.heap s.heap [] := va_S.rf
  have hP : va_P G vwCl [(h0, .inr (10, [.ref tp, .int 0, .int (-1), .ref ps, .ref sp, .ref tk, .ref dr, .ref pr, .ref da, .ref nw, .ref im, .int 0, .ref ac, .ref ke, .ref si, .ref tx, .ref an, .ref dw])), (dr, .inr (1, [.ref tk])), (tk, .inr (8, [.ref tk1, .ref tk2, .ref tk3, .ref tk4, .int 0, .int 0, .int 0, .int 0, .int (-1)])), (tk1, .inl (y 0, 401, .inl (fun _ => 0))), (tk2, .inl (y 0, 401, .inl (fun _ => 0))), (tk3, .inl (y 0, 401, .inl (fun _ => 0))), (tk4, .inl (y 0, 401, .inl (fun _ => 0))), (tp, .inl (y 0, 400, .inl (fun _ => 0))), (da, .inr (9, [.ref dak, .ref dav, .ref dae, .ref dad, .int 0])), (nw, .inr (6, [.ref nwt, .ref nwb, .int 0, .ref nwn, .ref nwi, .int 0, .ref nwr])), (nwr, .inl (y 0, 3, .inl (fun _ => 0)))] s.heap := hP
  have hl := lv_entry ([.ref h0, .int i]) (n := 3) (Nat.le_of_ble_eq_true rfl)
  rw [lg_entry_eq]
  generalize (lg_sl ([.ref h0, .int i]) ++ List.replicate (3 - (lg_sl ([.ref h0, .int i])).length) Slot.unset).toArray = ls at hl ⊢
  have hl : lv_has ls 3 [(0, .ref h0), (1, .int i)] := hl
  refine lv_aload_n hx hb dX10_tree_0 rfl (lv_at hl 0 rfl) ?_
  refine lv_iload_n hx hb dX10_tree_1 rfl (lv_at hl 1 rfl) ?_
  refine nq_rdi (va_runV (As := [.int i]) (rest := []) ⟨hx, hb, hml, hown, hts⟩ (c_tapeHas l G y s.heap.size h0 tp ps sp tk dr pr da nw im ac ke si tx an dw i ) (cwV 1 hts gX10_tree_X10_tapeHas rfl rfl rfl (by decide +kernel) ⟨Nat.le_of_ble_eq_true rfl, Nat.le_of_ble_eq_true rfl⟩) (nq_PV hK hP hD [0] rfl rfl 0 rfl rfl) rfl rfl hl.1 rfl (lv_room (Nat.le_of_ble_eq_true rfl)) dX10_tree_2 ⟨Nat.le_of_ble_eq_true rfl, Nat.le_of_ble_eq_true rfl⟩) hP hS hA (fun r_1 H locs hw_2 hP hS => ?_)
  rcases hw_2 with ⟨c_3, hr_4⟩ | ⟨c_5, hr_6⟩
  · subst c_3
    subst hr_4
    refine lv_if_ne (tgt := 18) hx hb dX10_tree_5 (by decide) (fun _ => ?_) (fun c_7 => absurd c_7 (by decide))
    refine lv_aload_n hx hb dX10_tree_18 rfl (lv_at hl 0 rfl) ?_
    refine lv_iload_n hx hb dX10_tree_19 rfl (lv_at hl 1 rfl) ?_
    refine nq_wri (wr := []) (va_runV (As := [.int 0]) (rest := []) ⟨hx, hb, hml, hown, hts⟩ (c_readData l G y H.size h0 tp ps sp tk dr pr da nw im ac ke si tx an dw tk1 tk2 tk3 tk4 dak dav dae dad nwt nwb nwn nwi nwr (fun _ => 0) ) (cwV 1 hts gX10_tree_X10_readData rfl rfl rfl (by decide +kernel) ⟨Nat.le_of_ble_eq_true rfl, Nat.le_of_ble_eq_true rfl⟩) (nq_PV hK hP hD [0, 1, 2, 3, 4, 5, 6, 7, 8, 9, 10] rfl rfl 0 rfl rfl) rfl rfl hl.1 rfl (lv_room (Nat.le_of_ble_eq_true rfl)) dX10_tree_20 ⟨Nat.le_of_ble_eq_true rfl, Nat.le_of_ble_eq_true rfl⟩) hP hD hS hA [0, 1, 2, 3, 4, 5, 6, 7, 8, 9, 10] [] rfl rfl (by decide) (by decide) (fun r_10 u_8 H locs hw_9 hP hD hS => ?_)
    have hP : va_P G vwCl [] H := hP
    have hD : va_D A [] := hD
    subst hw_9
    refine lv_istore_n (lv' := [(2, .int 1), (0, .ref h0), (1, .int 0)]) hx hb dX10_tree_23 rfl hl (by decide) rfl (fun ls hl => ?_)
    refine lv_iload_n hx hb dX10_tree_24 rfl (lv_at hl 0 rfl) ?_
    refine lv_if_ne (tgt := 63) hx hb dX10_tree_25 (by decide) (fun _ => ?_) (fun c_11 => absurd c_11 (by decide))
    refine lv_iload_n hx hb dX10_tree_63 rfl (lv_at hl 0 rfl) ?_
    have hP9 := hP.sub (ws' := []) [] rfl
    have hD9 := hD.sub (ws' := []) [] (by decide) rfl
    refine vx_ret ?_
    refine W.widen (k := 1) (n := 6) (Nat.le_of_ble_eq_true rfl) (Nat.le_of_ble_eq_true rfl) ?_
    exact W.iret (v := 1) hx hb hr (fun t ht hW => ⟨⟨1, (), rfl, ⟨by decide, by decide⟩, by rw [ht]; exact hP9, by first | exact hD9 | (rw [hAe]; exact hD9)⟩, hS.F ht⟩) hS.2.2 dX10_tree_64
  · subst hr_6
    refine lv_if_ne (tgt := 18) hx hb dX10_tree_5 (by decide) (fun c_12 => absurd c_12 (by decide)) (fun _ => ?_)
    exact nq_throwI (BX := fun E => E = nq_IAE ∧ (sp_tree i).1 = 1) (text := "the tape has not so many bytes") hx hb hl0 hown hts (by first | exact fun w h => List.mem_cons_of_mem _ (List.mem_append_right _ h) | exact fun w h => List.mem_cons_of_mem _ (List.mem_append_left _ (List.mem_append_right _ h)) | decide +kernel) (by decide +kernel) (by decide +kernel) hXs hS (hl.1.trans hml.symm) htab hlocks (List.mem_of_getElem? (i := 0) rfl) dX10_tree_8 dX10_tree_11 dX10_tree_12 dX10_tree_14 dX10_tree_17 (Nat.le_of_ble_eq_true rfl) (Nat.le_of_ble_eq_true rfl) (Nat.le_of_ble_eq_true rfl) (Nat.le_of_ble_eq_true rfl) (⟨rfl, by simp [sp_tree, c_5]⟩) (Nat.le_of_ble_eq_true rfl) (Nat.le_of_ble_eq_true rfl)

set_option maxHeartbeats 4000000 in
set_option maxRecDepth 100000 in
theorem x_path (l : Launch) (hl0 : l.stackTraces = false) (G : va_G) (y : Nat → ClassId) (sz : Nat) (h0 : Nat) (tp : Nat) (ps : Nat) (sp : Nat) (tk : Nat) (dr : Nat) (pr : Nat) (da : Nat) (nw : Nat) (im : Nat) (ac : Nat) (ke : Nat) (si : Nat) (tx : Nat) (an : Nat) (dw : Nat) (tk1 : Nat) (tk2 : Nat) (tk3 : Nat) (tk4 : Nat) (sp1 : Nat) (sp2 : Nat) (sp3 : Nat) (sp4 : Nat) (sp5 : Nat) (sp6 : Nat) (sp7 : Nat) (sp8 : Nat) (sp9 : Nat) (sp10 : Nat) (i : Int32) (j : Int32)  : vx_Met l yX10_path wsX10_path ({ frames := 6, cells := 11, slots := 614, locals := 100 }) (nq_PX G y sz [.ref h0, .int i, .int j] [(h0, .inr (10, [.ref tp, .int 0, .int (-1), .ref ps, .ref sp, .ref tk, .ref dr, .ref pr, .ref da, .ref nw, .ref im, .int 0, .ref ac, .ref ke, .ref si, .ref tx, .ref an, .ref dw])), (pr, .inr (5, [.ref tk])), (tk, .inr (8, [.ref tk1, .ref tk2, .ref tk3, .ref tk4, .int 0, .int 0, .int 0, .int 0, .int (-1)])), (tk1, .inl (y 0, 401, .inl (fun _ => 0))), (tk2, .inl (y 0, 401, .inl (fun _ => 0))), (tk3, .inl (y 0, 401, .inl (fun _ => 0))), (tk4, .inl (y 0, 401, .inl (fun _ => 0))), (tp, .inl (y 0, 400, .inl (fun _ => 0))), (sp, .inr (4, [.ref sp1, .ref sp2, .ref sp3, .int 0, .ref sp4, .int 0, .ref sp5, .ref sp6, .int 0, .ref sp7, .ref sp8, .ref sp9, .ref sp10, .int 0])), (ps, .inl (y 3, 4, .inr (.inr (.inr (.inr (fun _ => none))))))]) (va_Qi (fun (r : Int32) (_ : Unit) => (sp_path i j).1 = 0 ∧ r = (sp_path i j).2) (fun (u : Unit) t9 => va_P G vwCl ([]) t9.heap ∧ va_D (va_A [(h0, .inr (10, [.ref tp, .int 0, .int (-1), .ref ps, .ref sp, .ref tk, .ref dr, .ref pr, .ref da, .ref nw, .ref im, .int 0, .ref ac, .ref ke, .ref si, .ref tx, .ref an, .ref dw])), (pr, .inr (5, [.ref tk])), (tk, .inr (8, [.ref tk1, .ref tk2, .ref tk3, .ref tk4, .int 0, .int 0, .int 0, .int 0, .int (-1)])), (tk1, .inl (y 0, 401, .inl (fun _ => 0))), (tk2, .inl (y 0, 401, .inl (fun _ => 0))), (tk3, .inl (y 0, 401, .inl (fun _ => 0))), (tk4, .inl (y 0, 401, .inl (fun _ => 0))), (tp, .inl (y 0, 400, .inl (fun _ => 0))), (sp, .inr (4, [.ref sp1, .ref sp2, .ref sp3, .int 0, .ref sp4, .int 0, .ref sp5, .ref sp6, .int 0, .ref sp7, .ref sp8, .ref sp9, .ref sp10, .int 0])), (ps, .inl (y 3, 4, .inr (.inr (.inr (.inr (fun _ => none))))))] sz) ([])) (va_A [(h0, .inr (10, [.ref tp, .int 0, .int (-1), .ref ps, .ref sp, .ref tk, .ref dr, .ref pr, .ref da, .ref nw, .ref im, .int 0, .ref ac, .ref ke, .ref si, .ref tx, .ref an, .ref dw])), (pr, .inr (5, [.ref tk])), (tk, .inr (8, [.ref tk1, .ref tk2, .ref tk3, .ref tk4, .int 0, .int 0, .int 0, .int 0, .int (-1)])), (tk1, .inl (y 0, 401, .inl (fun _ => 0))), (tk2, .inl (y 0, 401, .inl (fun _ => 0))), (tk3, .inl (y 0, 401, .inl (fun _ => 0))), (tk4, .inl (y 0, 401, .inl (fun _ => 0))), (tp, .inl (y 0, 400, .inl (fun _ => 0))), (sp, .inr (4, [.ref sp1, .ref sp2, .ref sp3, .int 0, .ref sp4, .int 0, .ref sp5, .ref sp6, .int 0, .ref sp7, .ref sp8, .ref sp9, .ref sp10, .int 0])), (ps, .inl (y 3, 4, .inr (.inr (.inr (.inr (fun _ => none))))))] sz)) (vx_X (fun (_ : Unit) => True) (fun E _ _ => (E = nq_NSE ∧ (sp_path i j).1 = 1) ∨ (E = nq_IAE ∧ (sp_path i j).1 = 2)) (va_A [(h0, .inr (10, [.ref tp, .int 0, .int (-1), .ref ps, .ref sp, .ref tk, .ref dr, .ref pr, .ref da, .ref nw, .ref im, .int 0, .ref ac, .ref ke, .ref si, .ref tx, .ref an, .ref dw])), (pr, .inr (5, [.ref tk])), (tk, .inr (8, [.ref tk1, .ref tk2, .ref tk3, .ref tk4, .int 0, .int 0, .int 0, .int 0, .int (-1)])), (tk1, .inl (y 0, 401, .inl (fun _ => 0))), (tk2, .inl (y 0, 401, .inl (fun _ => 0))), (tk3, .inl (y 0, 401, .inl (fun _ => 0))), (tk4, .inl (y 0, 401, .inl (fun _ => 0))), (tp, .inl (y 0, 400, .inl (fun _ => 0))), (sp, .inr (4, [.ref sp1, .ref sp2, .ref sp3, .int 0, .ref sp4, .int 0, .ref sp5, .ref sp6, .int 0, .ref sp7, .ref sp8, .ref sp9, .ref sp10, .int 0])), (ps, .inl (y 3, 4, .inr (.inr (.inr (.inr (fun _ => none))))))] sz)) 11 614 (va_A [(h0, .inr (10, [.ref tp, .int 0, .int (-1), .ref ps, .ref sp, .ref tk, .ref dr, .ref pr, .ref da, .ref nw, .ref im, .int 0, .ref ac, .ref ke, .ref si, .ref tx, .ref an, .ref dw])), (pr, .inr (5, [.ref tk])), (tk, .inr (8, [.ref tk1, .ref tk2, .ref tk3, .ref tk4, .int 0, .int 0, .int 0, .int 0, .int (-1)])), (tk1, .inl (y 0, 401, .inl (fun _ => 0))), (tk2, .inl (y 0, 401, .inl (fun _ => 0))), (tk3, .inl (y 0, 401, .inl (fun _ => 0))), (tk4, .inl (y 0, 401, .inl (fun _ => 0))), (tp, .inl (y 0, 400, .inl (fun _ => 0))), (sp, .inr (4, [.ref sp1, .ref sp2, .ref sp3, .int 0, .ref sp4, .int 0, .ref sp5, .ref sp6, .int 0, .ref sp7, .ref sp8, .ref sp9, .ref sp10, .int 0])), (ps, .inl (y 3, 4, .inr (.inr (.inr (.inr (fun _ => none))))))] sz) := by
  refine vx_ofW (cc := cX10_path) (maxL := 5) (ret := (some .int)) (by decide) rfl ?_
  intro p e s m args below meth c s₁ B hml htab hv
  obtain ⟨rfl, hsz, hP, hK, hD0, hXs⟩ := hv
  have hx := B.exec
  have hb := B.bytes
  have hr := B.returns
  have hts := atoms_spec (ws := wsX10_path) B.pre
  have hown : s.vm.findClass RX10 = some m.cls := findClass_of_methodNamed B.named
  have hlocks := B.notSynchronized
  subst hsz
  have hD := hD0.self (sz := s.heap.size)
  generalize hAe : va_A [(h0, .inr (10, [.ref tp, .int 0, .int (-1), .ref ps, .ref sp, .ref tk, .ref dr, .ref pr, .ref da, .ref nw, .ref im, .int 0, .ref ac, .ref ke, .ref si, .ref tx, .ref an, .ref dw])), (pr, .inr (5, [.ref tk])), (tk, .inr (8, [.ref tk1, .ref tk2, .ref tk3, .ref tk4, .int 0, .int 0, .int 0, .int 0, .int (-1)])), (tk1, .inl (y 0, 401, .inl (fun _ => 0))), (tk2, .inl (y 0, 401, .inl (fun _ => 0))), (tk3, .inl (y 0, 401, .inl (fun _ => 0))), (tk4, .inl (y 0, 401, .inl (fun _ => 0))), (tp, .inl (y 0, 400, .inl (fun _ => 0))), (sp, .inr (4, [.ref sp1, .ref sp2, .ref sp3, .int 0, .ref sp4, .int 0, .ref sp5, .ref sp6, .int 0, .ref sp7, .ref sp8, .ref sp9, .ref sp10, .int 0])), (ps, .inl (y 3, 4, .inr (.inr (.inr (.inr (fun _ => none))))))] s.heap.size = A at hD hXs ⊢
  have hA : ∀ q : Nat, s.heap.size ≤ q → A q := fun q h => by rw [← hAe]; exact Or.inr h
  have hS : va_S A s.heap s.heap [] := va_S.rf
  have hP : va_P G vwCl [(h0, .inr (10, [.ref tp, .int 0, .int (-1), .ref ps, .ref sp, .ref tk, .ref dr, .ref pr, .ref da, .ref nw, .ref im, .int 0, .ref ac, .ref ke, .ref si, .ref tx, .ref an, .ref dw])), (pr, .inr (5, [.ref tk])), (tk, .inr (8, [.ref tk1, .ref tk2, .ref tk3, .ref tk4, .int 0, .int 0, .int 0, .int 0, .int (-1)])), (tk1, .inl (y 0, 401, .inl (fun _ => 0))), (tk2, .inl (y 0, 401, .inl (fun _ => 0))), (tk3, .inl (y 0, 401, .inl (fun _ => 0))), (tk4, .inl (y 0, 401, .inl (fun _ => 0))), (tp, .inl (y 0, 400, .inl (fun _ => 0))), (sp, .inr (4, [.ref sp1, .ref sp2, .ref sp3, .int 0, .ref sp4, .int 0, .ref sp5, .ref sp6, .int 0, .ref sp7, .ref sp8, .ref sp9, .ref sp10, .int 0])), (ps, .inl (y 3, 4, .inr (.inr (.inr (.inr (fun _ => none))))))] s.heap := hP
  have inX10 : ∀ w ∈ wsX100, w ∈ wsX10_path := by decide +kernel
  have inX4 : ∀ w ∈ wsX40, w ∈ wsX10_path := by decide +kernel
  have hl := lv_entry ([.ref h0, .int i, .int j]) (n := 5) (Nat.le_of_ble_eq_true rfl)
  rw [lg_entry_eq]
  generalize (lg_sl ([.ref h0, .int i, .int j]) ++ List.replicate (5 - (lg_sl ([.ref h0, .int i, .int j])).length) Slot.unset).toArray = ls at hl ⊢
  have hl : lv_has ls 5 [(0, .ref h0), (1, .int i), (2, .int j)] := hl
  refine lv_iload_n hx hb dX10_path_0 rfl (lv_at hl 1 rfl) ?_
  refine lv_if_lt (tgt := 9) hx hb dX10_path_1 (by decide) (fun c_1 => ?_) (fun c_1 => ?_)
  · have hz_3 := ((nq_hlt c_1 (j := (-1)) (by decide)))
    exact nq_throwN (BX := fun E => (E = nq_NSE ∧ (sp_path i j).1 = 1) ∨ (E = nq_IAE ∧ (sp_path i j).1 = 2)) (text := "no such path may be") hx hb hl0 hown hts (by first | exact fun w h => List.mem_cons_of_mem _ (List.mem_append_right _ h) | exact fun w h => List.mem_cons_of_mem _ (List.mem_append_left _ (List.mem_append_right _ h)) | decide +kernel) (by decide +kernel) (by decide +kernel) hXs hS (hl.1.trans hml.symm) htab hlocks (List.mem_of_getElem? (i := 1) rfl) dX10_path_9 dX10_path_12 dX10_path_13 dX10_path_15 dX10_path_18 (Nat.le_of_ble_eq_true rfl) (Nat.le_of_ble_eq_true rfl) (Nat.le_of_ble_eq_true rfl) (Nat.le_of_ble_eq_true rfl) (Or.inl (⟨rfl, by simp [sp_path, hz_3]⟩)) (Nat.le_of_ble_eq_true rfl) (Nat.le_of_ble_eq_true rfl)
  · refine lv_iload_n hx hb dX10_path_4 rfl (lv_at hl 1 rfl) ?_
    refine lv_iconst (v := 4) hx hb dX10_path_5 (by decide) ?_
    refine lv_icmp_lt (tgt := 19) hx hb dX10_path_6 (by decide) (fun c_4 => ?_) (fun c_4 => ?_)
    · refine lv_aload_n hx hb dX10_path_19 rfl (lv_at hl 0 rfl) ?_
      refine lv_iload_n hx hb dX10_path_20 rfl (lv_at hl 2 rfl) ?_
      refine nq_rdi (va_runV (As := [.int j]) (rest := []) ⟨hx, hb, hml, hown, hts⟩ (c_tapeHas l G y s.heap.size h0 tp ps sp tk dr pr da nw im ac ke si tx an dw j ) (cwV 1 hts gX10_path_X10_tapeHas rfl rfl rfl (by decide +kernel) ⟨Nat.le_of_ble_eq_true rfl, Nat.le_of_ble_eq_true rfl⟩) (nq_PV hK hP hD [0] rfl rfl 0 rfl rfl) rfl rfl hl.1 rfl (lv_room (Nat.le_of_ble_eq_true rfl)) dX10_path_21 ⟨Nat.le_of_ble_eq_true rfl, Nat.le_of_ble_eq_true rfl⟩) hP hS hA (fun r_5 H locs hw_6 hP hS => ?_)
      rcases hw_6 with ⟨c_7, hr_8⟩ | ⟨c_9, hr_10⟩
      · subst c_7
        subst hr_8
        refine lv_if_ne (tgt := 37) hx hb dX10_path_24 (by decide) (fun _ => ?_) (fun c_11 => absurd c_11 (by decide))
        refine lv_aload_n hx hb dX10_path_37 rfl (lv_at hl 0 rfl) ?_
        refine va_get (D := G) (ci := 10) (v := .ref pr) (C := RX10) (T := TX10) (N := 18) hx hb hts inX10 hown hK.1 hP 0 rfl rfl 7 (by decide) (hts (.fieldLink RX10 47 "NestQuery" "pathReader" "LNestQuery$PathReader;") (by decide +kernel)) (fun _ h9 => h9) rfl dX10_path_38 ?_
        refine lv_aload_n hx hb dX10_path_41 rfl (lv_at hl 0 rfl) ?_
        refine va_get (D := G) (ci := 10) (v := .ref tp) (C := RX10) (T := TX10) (N := 18) hx hb hts inX10 hown hK.1 hP 0 rfl rfl 0 (by decide) (hts (.fieldLink RX10 9 "NestQuery" "tape" "[I") (by decide +kernel)) (fun _ h9 => h9) rfl dX10_path_42 ?_
        refine lv_iload_n hx hb dX10_path_45 rfl (lv_at hl 2 rfl) ?_
        refine lv_aload_n hx hb dX10_path_46 rfl (lv_at hl 0 rfl) ?_
        refine va_get (D := G) (ci := 10) (v := .ref sp) (C := RX10) (T := TX10) (N := 18) hx hb hts inX10 hown hK.1 hP 0 rfl rfl 4 (by decide) (hts (.fieldLink RX10 24 "NestQuery" "sparePath" "LNestQuery$Path;") (by decide +kernel)) (fun _ h9 => h9) rfl dX10_path_47 ?_
        refine nq_wri (wr := [(h0, .inr (10, [.ref tp, .int 0, .int (-1), .ref ps, .ref sp, .ref tk, .ref dr, .ref pr, .ref da, .ref nw, .ref im, .int 0, .ref ac, .ref ke, .ref si, .ref tx, .ref an, .ref dw])), (ps, .inl (y 3, 4, .inr (.inr (.inr (.inr (fun _ => none))))))]) (va_runV (As := [.ref tp, .int 0, .ref sp]) (rest := []) ⟨hx, hb, hml, hown, hts⟩ (c_PathReader_read l G y H.size pr tk tk1 tk2 tk3 tk4 tp sp sp1 sp2 sp3 sp4 sp5 sp6 sp7 sp8 sp9 sp10 (fun _ => 0) ) (cwV 3 hts gX10_path_X5_read rfl rfl rfl (by decide +kernel) ⟨Nat.le_of_ble_eq_true rfl, Nat.le_of_ble_eq_true rfl⟩) (nq_PV hK hP hD [1, 2, 3, 4, 5, 6, 7, 8] rfl rfl 1 rfl rfl) rfl rfl hl.1 rfl (lv_room (Nat.le_of_ble_eq_true rfl)) dX10_path_50 ⟨Nat.le_of_ble_eq_true rfl, Nat.le_of_ble_eq_true rfl⟩) hP hD hS hA [1, 2, 3, 4, 5, 6, 7, 8] [0, 9] rfl rfl (by decide) (by decide) (fun r_14 u_12 H locs hw_13 hP hD hS => ?_)
        have hP : va_P G vwCl [(h0, .inr (10, [.ref tp, .int 0, .int (-1), .ref ps, .ref sp, .ref tk, .ref dr, .ref pr, .ref da, .ref nw, .ref im, .int 0, .ref ac, .ref ke, .ref si, .ref tx, .ref an, .ref dw])), (ps, .inl (y 3, 4, .inr (.inr (.inr (.inr (fun _ => none)))))), (tk, .inr (8, [.ref tk1, .ref tk2, .ref tk3, .ref tk4, .int 1, .int 0, .int 259, .int 0, .int (-1)])), (sp, .inr (4, [.ref sp1, .ref sp2, .ref sp3, .int 0, .ref sp4, .int 0, .ref sp5, .ref sp6, .int 0, .ref sp7, .ref sp8, .ref sp9, .ref sp10, .int 0]))] H := hP
        have hD : va_D A [(h0, .inr (10, [.ref tp, .int 0, .int (-1), .ref ps, .ref sp, .ref tk, .ref dr, .ref pr, .ref da, .ref nw, .ref im, .int 0, .ref ac, .ref ke, .ref si, .ref tx, .ref an, .ref dw])), (ps, .inl (y 3, 4, .inr (.inr (.inr (.inr (fun _ => none)))))), (tk, .inr (8, [.ref tk1, .ref tk2, .ref tk3, .ref tk4, .int 1, .int 0, .int 259, .int 0, .int (-1)])), (sp, .inr (4, [.ref sp1, .ref sp2, .ref sp3, .int 0, .ref sp4, .int 0, .ref sp5, .ref sp6, .int 0, .ref sp7, .ref sp8, .ref sp9, .ref sp10, .int 0]))] := hD
        subst hw_13
        refine lv_istore_n (lv' := [(3, .int 0), (0, .ref h0), (1, .int i), (2, .int 0)]) hx hb dX10_path_53 rfl hl (by decide) rfl (fun ls hl => ?_)
        refine lv_aload_n hx hb dX10_path_54 rfl (lv_at hl 1 rfl) ?_
        refine lv_iload_n hx hb dX10_path_55 rfl (lv_at hl 0 rfl) ?_
        refine nq_wrv (wr := [(ps, .inl (y 3, 4, .inr (.inr (.inr (.inr (fun _ => none)))))), (sp, .inr (4, [.ref sp1, .ref sp2, .ref sp3, .int 0, .ref sp4, .int 0, .ref sp5, .ref sp6, .int 0, .ref sp7, .ref sp8, .ref sp9, .ref sp10, .int 0]))]) (va_runV (As := [.int 0]) (rest := []) ⟨hx, hb, hml, hown, hts⟩ (c_textWasRead0 l G y H.size h0 tp ps sp tk dr pr da nw im ac ke si tx an dw tk1 tk2 tk3 tk4 ) (cwV 1 hts gX10_path_X10_textWasRead rfl rfl rfl (by decide +kernel) ⟨Nat.le_of_ble_eq_true rfl, Nat.le_of_ble_eq_true rfl⟩) (nq_PV hK hP hD [0, 2] rfl rfl 0 rfl rfl) rfl rfl hl.1 rfl (lv_room (Nat.le_of_ble_eq_true rfl)) dX10_path_56 ⟨Nat.le_of_ble_eq_true rfl, Nat.le_of_ble_eq_true rfl⟩) hP hD hS hA [0, 2] [1, 3] rfl rfl (by decide) (by decide) (fun u_15 H locs hw_16 hP hD hS => ?_)
        have hP : va_P G vwCl [(ps, .inl (y 3, 4, .inr (.inr (.inr (.inr (fun _ => none)))))), (sp, .inr (4, [.ref sp1, .ref sp2, .ref sp3, .int 0, .ref sp4, .int 0, .ref sp5, .ref sp6, .int 0, .ref sp7, .ref sp8, .ref sp9, .ref sp10, .int 0])), (h0, .inr (10, [.ref tp, .int 0, .int (-1), .ref ps, .ref sp, .ref tk, .ref dr, .ref pr, .ref da, .ref nw, .ref im, .int 0, .ref ac, .ref ke, .ref si, .ref tx, .ref an, .ref dw]))] H := hP
        have hD : va_D A [(ps, .inl (y 3, 4, .inr (.inr (.inr (.inr (fun _ => none)))))), (sp, .inr (4, [.ref sp1, .ref sp2, .ref sp3, .int 0, .ref sp4, .int 0, .ref sp5, .ref sp6, .int 0, .ref sp7, .ref sp8, .ref sp9, .ref sp10, .int 0])), (h0, .inr (10, [.ref tp, .int 0, .int (-1), .ref ps, .ref sp, .ref tk, .ref dr, .ref pr, .ref da, .ref nw, .ref im, .int 0, .ref ac, .ref ke, .ref si, .ref tx, .ref an, .ref dw]))] := hD
        refine lv_iload_n hx hb dX10_path_59 rfl (lv_at hl 0 rfl) ?_
        refine lv_if_ne (tgt := 102) hx hb dX10_path_60 (by decide) (fun c_18 => absurd c_18 (by decide)) (fun _ => ?_)
        refine lv_aload_n hx hb dX10_path_63 rfl (lv_at hl 1 rfl) ?_
        refine va_get (D := G) (ci := 10) (v := .ref ps) (C := RX10) (T := TX10) (N := 18) hx hb hts inX10 hown hK.1 hP 2 rfl rfl 3 (by decide) (hts (.fieldLink RX10 19 "NestQuery" "paths" "[LNestQuery$Path;") (by decide +kernel)) (fun _ h9 => h9) rfl dX10_path_64 ?_
        refine lv_iload_n hx hb dX10_path_67 rfl (lv_at hl 2 rfl) ?_
        refine va_aldq hx hb hK.1 hP 0 3 rfl rfl (i := i) (nq_inb c_1 (nq_hlt c_4 (j := 3) (by decide)) (by decide) (by decide)) dX10_path_68 ?_
        refine nq_topq (z := none) (rfl) ?_
        refine lv_astoreN (lv' := [(4, .null), (3, .int 0), (0, .ref h0), (1, .int i), (2, .int 0)]) hx hb dX10_path_69 hl (by decide) rfl (fun ls hl => ?_)
        refine lv_aload_n hx hb dX10_path_71 rfl (lv_at hl 2 rfl) ?_
        refine va_get (D := G) (ci := 10) (v := .ref ps) (C := RX10) (T := TX10) (N := 18) hx hb hts inX10 hown hK.1 hP 2 rfl rfl 3 (by decide) (hts (.fieldLink RX10 19 "NestQuery" "paths" "[LNestQuery$Path;") (by decide +kernel)) (fun _ h9 => h9) rfl dX10_path_72 ?_
        refine lv_iload_n hx hb dX10_path_75 rfl (lv_at hl 3 rfl) ?_
        refine lv_aload_n hx hb dX10_path_76 rfl (lv_at hl 2 rfl) ?_
        refine va_get (D := G) (ci := 10) (v := .ref sp) (C := RX10) (T := TX10) (N := 18) hx hb hts inX10 hown hK.1 hP 2 rfl rfl 4 (by decide) (hts (.fieldLink RX10 24 "NestQuery" "sparePath" "LNestQuery$Path;") (by decide +kernel)) (fun _ h9 => h9) rfl dX10_path_77 ?_
        refine va_astq hx hb hK.1 hP hD hS 0 3 1 4 rfl rfl rfl rfl (i := i) (nq_inb c_1 (nq_hlt c_4 (j := 3) (by decide)) (by decide) (by decide)) dX10_path_80 (fun H locs hP hD hS => ?_)
        have hP : va_P G vwCl [(ps, .inl (y 3, 4, .inr (.inr (.inr (.inr (va_up (fun _ => none) i.toNatClampNeg (some sp))))))), (sp, .inr (4, [.ref sp1, .ref sp2, .ref sp3, .int 0, .ref sp4, .int 0, .ref sp5, .ref sp6, .int 0, .ref sp7, .ref sp8, .ref sp9, .ref sp10, .int 0])), (h0, .inr (10, [.ref tp, .int 0, .int (-1), .ref ps, .ref sp, .ref tk, .ref dr, .ref pr, .ref da, .ref nw, .ref im, .int 0, .ref ac, .ref ke, .ref si, .ref tx, .ref an, .ref dw]))] H := hP
        have hD : va_D A [(ps, .inl (y 3, 4, .inr (.inr (.inr (.inr (va_up (fun _ => none) i.toNatClampNeg (some sp))))))), (sp, .inr (4, [.ref sp1, .ref sp2, .ref sp3, .int 0, .ref sp4, .int 0, .ref sp5, .ref sp6, .int 0, .ref sp7, .ref sp8, .ref sp9, .ref sp10, .int 0])), (h0, .inr (10, [.ref tp, .int 0, .int (-1), .ref ps, .ref sp, .ref tk, .ref dr, .ref pr, .ref da, .ref nw, .ref im, .int 0, .ref ac, .ref ke, .ref si, .ref tx, .ref an, .ref dw]))] := hD
        generalize (va_up (fun _ => none) i.toNatClampNeg (some sp)) = f_19 at hP hD
        refine lv_aload_n hx hb dX10_path_81 rfl (lv_at hl 2 rfl) ?_
        refine lv_aloadN hx hb dX10_path_82 (lv_at hl 0 rfl) ?_
        refine lv_ifnonnullN hx hb dX10_path_84 ?_
        refine va_new (D := G) (ci := 4) (fs := [.null, .null, .null, .int 0, .null, .int 0, .null, .null, .int 0, .null, .null, .null, .null, .int 0]) (C := RX4) (T := TX4) (N := 14) hx hb hts inX4 tyX4 tyX4_ok hown (hts (.classLink RX10 17 RX4) (by decide +kernel)) (hts (.instantiable RX4 14) (by decide +kernel)) (hts (.initialized RX4) (by decide +kernel)) hK.1 hP hD hS hA rfl (nq_defX4) (Nat.le_of_ble_eq_true rfl) (Nat.le_of_ble_eq_true rfl) dX10_path_87 (fun q_20 H hP hD hS => ?_)
        have hP : va_P G vwCl [(ps, .inl (y 3, 4, .inr (.inr (.inr (.inr f_19))))), (sp, .inr (4, [.ref sp1, .ref sp2, .ref sp3, .int 0, .ref sp4, .int 0, .ref sp5, .ref sp6, .int 0, .ref sp7, .ref sp8, .ref sp9, .ref sp10, .int 0])), (h0, .inr (10, [.ref tp, .int 0, .int (-1), .ref ps, .ref sp, .ref tk, .ref dr, .ref pr, .ref da, .ref nw, .ref im, .int 0, .ref ac, .ref ke, .ref si, .ref tx, .ref an, .ref dw])), (q_20, .inr (4, [.null, .null, .null, .int 0, .null, .int 0, .null, .null, .int 0, .null, .null, .null, .null, .int 0]))] H := hP
        have hD : va_D A [(ps, .inl (y 3, 4, .inr (.inr (.inr (.inr f_19))))), (sp, .inr (4, [.ref sp1, .ref sp2, .ref sp3, .int 0, .ref sp4, .int 0, .ref sp5, .ref sp6, .int 0, .ref sp7, .ref sp8, .ref sp9, .ref sp10, .int 0])), (h0, .inr (10, [.ref tp, .int 0, .int (-1), .ref ps, .ref sp, .ref tk, .ref dr, .ref pr, .ref da, .ref nw, .ref im, .int 0, .ref ac, .ref ke, .ref si, .ref tx, .ref an, .ref dw])), (q_20, .inr (4, [.null, .null, .null, .int 0, .null, .int 0, .null, .null, .int 0, .null, .null, .null, .null, .int 0]))] := hD
        refine lv_dup hx hb dX10_path_90 rfl ?_
        refine nq_wrv (wr := [(ps, .inl (y 3, 4, .inr (.inr (.inr (.inr f_19))))), (sp, .inr (4, [.ref sp1, .ref sp2, .ref sp3, .int 0, .ref sp4, .int 0, .ref sp5, .ref sp6, .int 0, .ref sp7, .ref sp8, .ref sp9, .ref sp10, .int 0])), (h0, .inr (10, [.ref tp, .int 0, .int (-1), .ref ps, .ref sp, .ref tk, .ref dr, .ref pr, .ref da, .ref nw, .ref im, .int 0, .ref ac, .ref ke, .ref si, .ref tx, .ref an, .ref dw]))]) (va_runIN (As := []) (rest := [.ref q_20, .ref h0]) ⟨hx, hb, hml, hown, hts⟩ (i_Path l G y H.size q_20 ) ⟨(va_cnB 0 hts gX10_path_X4_init_n23 rfl rfl rfl (hK.2.1.2 _ (List.mem_of_getElem? (i := 0) rfl)) (hts (.initialized RX4) (by decide +kernel)) (by decide +kernel) ⟨Nat.le_of_ble_eq_true rfl, Nat.le_of_ble_eq_true rfl⟩), rfl, hts (.instanceMethod yX4_init) (by decide +kernel)⟩ (nq_PS hK hP hD [3] rfl rfl) rfl rfl hl.1 rfl (lv_room (Nat.le_of_ble_eq_true rfl)) dX10_path_91 ⟨Nat.le_of_ble_eq_true rfl, Nat.le_of_ble_eq_true rfl⟩) hP hD hS hA [3] [0, 1, 2] rfl rfl (by decide) (by decide) (fun u_21 H locs hw_22 hP hD hS => ?_)
        obtain ⟨q1_24, q2_25, q3_26, q4_27, q5_28, q6_29, q7_30, q8_31, q9_32, q10_33⟩ := u_21
        have hP : va_P G vwCl [(ps, .inl (y 3, 4, .inr (.inr (.inr (.inr f_19))))), (sp, .inr (4, [.ref sp1, .ref sp2, .ref sp3, .int 0, .ref sp4, .int 0, .ref sp5, .ref sp6, .int 0, .ref sp7, .ref sp8, .ref sp9, .ref sp10, .int 0])), (h0, .inr (10, [.ref tp, .int 0, .int (-1), .ref ps, .ref sp, .ref tk, .ref dr, .ref pr, .ref da, .ref nw, .ref im, .int 0, .ref ac, .ref ke, .ref si, .ref tx, .ref an, .ref dw])), (q_20, .inr (4, [.ref q1_24, .ref q2_25, .ref q3_26, .int 0, .ref q4_27, .int 0, .ref q5_28, .ref q6_29, .int 0, .ref q7_30, .ref q8_31, .ref q9_32, .ref q10_33, .int 0]))] H := hP
        have hD : va_D A [(ps, .inl (y 3, 4, .inr (.inr (.inr (.inr f_19))))), (sp, .inr (4, [.ref sp1, .ref sp2, .ref sp3, .int 0, .ref sp4, .int 0, .ref sp5, .ref sp6, .int 0, .ref sp7, .ref sp8, .ref sp9, .ref sp10, .int 0])), (h0, .inr (10, [.ref tp, .int 0, .int (-1), .ref ps, .ref sp, .ref tk, .ref dr, .ref pr, .ref da, .ref nw, .ref im, .int 0, .ref ac, .ref ke, .ref si, .ref tx, .ref an, .ref dw])), (q_20, .inr (4, [.ref q1_24, .ref q2_25, .ref q3_26, .int 0, .ref q4_27, .int 0, .ref q5_28, .ref q6_29, .int 0, .ref q7_30, .ref q8_31, .ref q9_32, .ref q10_33, .int 0]))] := hD
        refine lv_goto (tgt := 99) hx hb dX10_path_94 (by decide) ?_
        refine va_put (D := G) (ci := 10) (v := .ref q_20) (ty := .object "NestQuery$Path") (C := RX10) (T := TX10) (N := 18) hx hb hts inX10 tyX10 tyX10_ok nmX10 hown hK.1 hP hD hS 2 rfl rfl 4 (by decide) (hts (.fieldLink RX10 24 "NestQuery" "sparePath" "LNestQuery$Path;") (by decide +kernel)) (fun _ h9 => h9) rfl (by decide +kernel) rfl rfl (Nat.le_of_ble_eq_true rfl) dX10_path_99 (fun H locs hP hD hS => ?_)
        have hP : va_P G vwCl [(ps, .inl (y 3, 4, .inr (.inr (.inr (.inr f_19))))), (sp, .inr (4, [.ref sp1, .ref sp2, .ref sp3, .int 0, .ref sp4, .int 0, .ref sp5, .ref sp6, .int 0, .ref sp7, .ref sp8, .ref sp9, .ref sp10, .int 0])), (h0, .inr (10, [.ref tp, .int 0, .int (-1), .ref ps, .ref q_20, .ref tk, .ref dr, .ref pr, .ref da, .ref nw, .ref im, .int 0, .ref ac, .ref ke, .ref si, .ref tx, .ref an, .ref dw])), (q_20, .inr (4, [.ref q1_24, .ref q2_25, .ref q3_26, .int 0, .ref q4_27, .int 0, .ref q5_28, .ref q6_29, .int 0, .ref q7_30, .ref q8_31, .ref q9_32, .ref q10_33, .int 0]))] H := hP
        have hD : va_D A [(ps, .inl (y 3, 4, .inr (.inr (.inr (.inr f_19))))), (sp, .inr (4, [.ref sp1, .ref sp2, .ref sp3, .int 0, .ref sp4, .int 0, .ref sp5, .ref sp6, .int 0, .ref sp7, .ref sp8, .ref sp9, .ref sp10, .int 0])), (h0, .inr (10, [.ref tp, .int 0, .int (-1), .ref ps, .ref q_20, .ref tk, .ref dr, .ref pr, .ref da, .ref nw, .ref im, .int 0, .ref ac, .ref ke, .ref si, .ref tx, .ref an, .ref dw])), (q_20, .inr (4, [.ref q1_24, .ref q2_25, .ref q3_26, .int 0, .ref q4_27, .int 0, .ref q5_28, .ref q6_29, .int 0, .ref q7_30, .ref q8_31, .ref q9_32, .ref q10_33, .int 0]))] := hD
        refine lv_iload_n hx hb dX10_path_102 rfl (lv_at hl 1 rfl) ?_
        have hz_35 := (c_1)
        have hz_36 := ((nq_hlt c_4 (j := 3) (by decide)))
        have hP9 := hP.sub (ws' := []) [] rfl
        have hD9 := hD.sub (ws' := []) [] (by decide) rfl
        refine vx_ret ?_
        refine W.widen (k := 11) (n := 614) (Nat.le_of_ble_eq_true rfl) (Nat.le_of_ble_eq_true rfl) ?_
        exact W.iret (v := 0) hx hb hr (fun t ht hW => ⟨⟨0, (), rfl, ⟨by simp [sp_path, hz_35, hz_36], by simp [sp_path, hz_35, hz_36]⟩, by rw [ht]; exact hP9, by first | exact hD9 | (rw [hAe]; exact hD9)⟩, hS.F ht⟩) hS.2.2 dX10_path_103
      · subst hr_10
        refine lv_if_ne (tgt := 37) hx hb dX10_path_24 (by decide) (fun c_37 => absurd c_37 (by decide)) (fun _ => ?_)
        have hz_39 := (c_1)
        have hz_40 := ((nq_hlt c_4 (j := 3) (by decide)))
        exact nq_throwI (BX := fun E => (E = nq_NSE ∧ (sp_path i j).1 = 1) ∨ (E = nq_IAE ∧ (sp_path i j).1 = 2)) (text := "the tape has not so many bytes") hx hb hl0 hown hts (by first | exact fun w h => List.mem_cons_of_mem _ (List.mem_append_right _ h) | exact fun w h => List.mem_cons_of_mem _ (List.mem_append_left _ (List.mem_append_right _ h)) | decide +kernel) (by decide +kernel) (by decide +kernel) hXs hS (hl.1.trans hml.symm) htab hlocks (List.mem_of_getElem? (i := 0) rfl) dX10_path_27 dX10_path_30 dX10_path_31 dX10_path_33 dX10_path_36 (Nat.le_of_ble_eq_true rfl) (Nat.le_of_ble_eq_true rfl) (Nat.le_of_ble_eq_true rfl) (Nat.le_of_ble_eq_true rfl) (Or.inr (⟨rfl, by simp [sp_path, c_9, hz_39, hz_40]⟩)) (Nat.le_of_ble_eq_true rfl) (Nat.le_of_ble_eq_true rfl)
    · have hz_42 := (c_4)
      exact nq_throwN (BX := fun E => (E = nq_NSE ∧ (sp_path i j).1 = 1) ∨ (E = nq_IAE ∧ (sp_path i j).1 = 2)) (text := "no such path may be") hx hb hl0 hown hts (by first | exact fun w h => List.mem_cons_of_mem _ (List.mem_append_right _ h) | exact fun w h => List.mem_cons_of_mem _ (List.mem_append_left _ (List.mem_append_right _ h)) | decide +kernel) (by decide +kernel) (by decide +kernel) hXs hS (hl.1.trans hml.symm) htab hlocks (List.mem_of_getElem? (i := 1) rfl) dX10_path_9 dX10_path_12 dX10_path_13 dX10_path_15 dX10_path_18 (Nat.le_of_ble_eq_true rfl) (Nat.le_of_ble_eq_true rfl) (Nat.le_of_ble_eq_true rfl) (Nat.le_of_ble_eq_true rfl) (Or.inl (⟨rfl, by simp [sp_path, hz_42]⟩)) (Nat.le_of_ble_eq_true rfl) (Nat.le_of_ble_eq_true rfl)
