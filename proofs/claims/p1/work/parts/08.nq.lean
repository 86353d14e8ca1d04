set_option maxHeartbeats 4000000 in
set_option maxRecDepth 100000 in
theorem c_layBytes0 (l : Launch) (G : va_G) (y : Nat → ClassId) (sz : Nat) (h0 : Nat) (tp : Nat) (ps : Nat) (sp : Nat) (tk : Nat) (dr : Nat) (pr : Nat) (da : Nat) (nw : Nat) (im : Nat) (ac : Nat) (ke : Nat) (si : Nat) (tx : Nat) (an : Nat) (dw : Nat) (f : Nat → Int32) (a : Int32)  : Met l yX10_layBytes wsX10_layBytes ({ frames := 0, cells := 0, slots := 0, locals := 0 }) (nq_P G y sz [.ref h0, .int a] [(h0, .inr (10, [.ref tp, .int 0, .int (-1), .ref ps, .ref sp, .ref tk, .ref dr, .ref pr, .ref da, .ref nw, .ref im, .int 0, .ref ac, .ref ke, .ref si, .ref tx, .ref an, .ref dw])), (tp, .inl (y 0, 400, .inl f))]) (va_Qv (fun (_ : Nat → Int32) => True) (fun (u : Nat → Int32) t9 => va_P G vwCl ([(h0, .inr (10, [.ref tp, .int 4, .int (-1), .ref ps, .ref sp, .ref tk, .ref dr, .ref pr, .ref da, .ref nw, .ref im, .int 0, .ref ac, .ref ke, .ref si, .ref tx, .ref an, .ref dw])), (tp, .inl (y 0, 400, .inl u))]) t9.heap ∧ va_D (va_A [(h0, .inr (10, [.ref tp, .int 0, .int (-1), .ref ps, .ref sp, .ref tk, .ref dr, .ref pr, .ref da, .ref nw, .ref im, .int 0, .ref ac, .ref ke, .ref si, .ref tx, .ref an, .ref dw])), (tp, .inl (y 0, 400, .inl f))] sz) ([(h0, .inr (10, [.ref tp, .int 4, .int (-1), .ref ps, .ref sp, .ref tk, .ref dr, .ref pr, .ref da, .ref nw, .ref im, .int 0, .ref ac, .ref ke, .ref si, .ref tx, .ref an, .ref dw])), (tp, .inl (y 0, 400, .inl u))])) (va_A [(h0, .inr (10, [.ref tp, .int 0, .int (-1), .ref ps, .ref sp, .ref tk, .ref dr, .ref pr, .ref da, .ref nw, .ref im, .int 0, .ref ac, .ref ke, .ref si, .ref tx, .ref an, .ref dw])), (tp, .inl (y 0, 400, .inl f))] sz)) 0 0 (va_A [(h0, .inr (10, [.ref tp, .int 0, .int (-1), .ref ps, .ref sp, .ref tk, .ref dr, .ref pr, .ref da, .ref nw, .ref im, .int 0, .ref ac, .ref ke, .ref si, .ref tx, .ref an, .ref dw])), (tp, .inl (y 0, 400, .inl f))] sz) := by
  refine Met.ofW (cc := cX10_layBytes) (maxL := 3) (ret := none) (by decide) rfl ?_
  intro p e s m args below meth c s₁ B hml hv
  obtain ⟨rfl, hsz, hP, hK, hD0⟩ := hv
  have hx := B.exec
  have hb := B.bytes
  have hr := B.returns
  have hts := atoms_spec (ws := wsX10_layBytes) B.pre
  have hown : s.vm.findClass RX10 = some m.cls := findClass_of_methodNamed B.named
  have hlocks := B.notSynchronized
  subst hsz
  have hD := hD0.self (sz := s.heap.size)
  generalize hAe : va_A [(h0, .inr (10, [.ref tp, .int 0, .int (-1), .ref ps, .ref sp, .ref tk, .ref dr, .ref pr, .ref da, .ref nw, .ref im, .int 0, .ref ac, .ref ke, .ref si, .ref tx, .ref an, .ref dw])), (tp, .inl (y 0, 400, .inl f))] s.heap.size = A at hD ⊢
  have hA : ∀ q : Nat, s.heap.size ≤ q → A q := fun q h => by rw [← hAe]; exact Or.inr h
  have hS : va_S A s.heap s.heap [] := va_S.rf
  have hP : va_P G vwCl [(h0, .inr (10, [.ref tp, .int 0, .int (-1), .ref ps, .ref sp, .ref tk, .ref dr, .ref pr, .ref da, .ref nw, .ref im, .int 0, .ref ac, .ref ke, .ref si, .ref tx, .ref an, .ref dw])), (tp, .inl (y 0, 400, .inl f))] s.heap := hP
  have inX10 : ∀ w ∈ wsX100, w ∈ wsX10_layBytes := by decide +kernel
  have hl := lv_entry ([.ref h0, .int a]) (n := 3) (Nat.le_of_ble_eq_true rfl)
  rw [lg_entry_eq]
  generalize (lg_sl ([.ref h0, .int a]) ++ List.replicate (3 - (lg_sl ([.ref h0, .int a])).length) Slot.unset).toArray = ls at hl ⊢
  have hl : lv_has ls 3 [(0, .ref h0), (1, .int a)] := hl
  refine lv_bipush (v := 24) hx hb dX10_layBytes_0 (by decide) ?_
  refine lv_istore_n (lv' := [(2, .int 24), (0, .ref h0), (1, .int a)]) hx hb dX10_layBytes_2 rfl hl (by decide) rfl (fun ls hl => ?_)
  refine lv_iload_n hx hb dX10_layBytes_3 rfl (lv_at hl 0 rfl) ?_
  refine lv_if_lt (tgt := 56) hx hb dX10_layBytes_4 (by decide) (fun c_1 => absurd c_1 (by decide)) (fun _ => ?_)
  refine lv_aload_n hx hb dX10_layBytes_7 rfl (lv_at hl 1 rfl) ?_
  refine va_get (D := G) (ci := 10) (v := .int 0) (C := RX10) (T := TX10) (N := 18) hx hb hts inX10 hown hK.1 hP 0 rfl rfl 1 (by decide) (hts (.fieldLink RX10 114 "NestQuery" "tapeCount" "I") (by decide +kernel)) (fun _ h9 => h9) rfl dX10_layBytes_8 ?_
  refine lv_if_lt (tgt := 50) hx hb dX10_layBytes_11 (by decide) (fun c_2 => absurd c_2 (by decide)) (fun _ => ?_)
  refine lv_aload_n hx hb dX10_layBytes_14 rfl (lv_at hl 1 rfl) ?_
  refine va_get (D := G) (ci := 10) (v := .int 0) (C := RX10) (T := TX10) (N := 18) hx hb hts inX10 hown hK.1 hP 0 rfl rfl 1 (by decide) (hts (.fieldLink RX10 114 "NestQuery" "tapeCount" "I") (by decide +kernel)) (fun _ h9 => h9) rfl dX10_layBytes_15 ?_
  refine lv_sipush (v := 400) hx hb dX10_layBytes_18 (by decide) ?_
  refine lv_icmp_ge (tgt := 50) hx hb dX10_layBytes_21 (by decide) (fun c_3 => absurd c_3 (by decide)) (fun _ => ?_)
  refine lv_aload_n hx hb dX10_layBytes_24 rfl (lv_at hl 1 rfl) ?_
  refine va_get (D := G) (ci := 10) (v := .ref tp) (C := RX10) (T := TX10) (N := 18) hx hb hts inX10 hown hK.1 hP 0 rfl rfl 0 (by decide) (hts (.fieldLink RX10 9 "NestQuery" "tape" "[I") (by decide +kernel)) (fun _ h9 => h9) rfl dX10_layBytes_25 ?_
  refine lv_aload_n hx hb dX10_layBytes_28 rfl (lv_at hl 1 rfl) ?_
  refine va_get (D := G) (ci := 10) (v := .int 0) (C := RX10) (T := TX10) (N := 18) hx hb hts inX10 hown hK.1 hP 0 rfl rfl 1 (by decide) (hts (.fieldLink RX10 114 "NestQuery" "tapeCount" "I") (by decide +kernel)) (fun _ h9 => h9) rfl dX10_layBytes_29 ?_
  refine lv_iload_n hx hb dX10_layBytes_32 rfl (lv_at hl 2 rfl) ?_
  refine lv_iload_n hx hb dX10_layBytes_33 rfl (lv_at hl 0 rfl) ?_
  refine lv_iushr hx hb dX10_layBytes_34 rfl ?_
  refine lv_topi (fun w_4 _ => ?_)
  refine lv_sipush (v := 255) hx hb dX10_layBytes_35 (by decide) ?_
  refine lv_iand hx hb dX10_layBytes_38 ?_
  refine lv_topi (fun w_5 _ => ?_)
  refine va_iast hx hb hK.1 hP hD hS 1 0 rfl rfl (i := 0) (nq_in (by decide)) dX10_layBytes_39 (fun H locs hP hD hS => ?_)
  have hP : va_P G vwCl [(h0, .inr (10, [.ref tp, .int 0, .int (-1), .ref ps, .ref sp, .ref tk, .ref dr, .ref pr, .ref da, .ref nw, .ref im, .int 0, .ref ac, .ref ke, .ref si, .ref tx, .ref an, .ref dw])), (tp, .inl (y 0, 400, .inl (upd f 0 w_5)))] H := hP
  have hD : va_D A [(h0, .inr (10, [.ref tp, .int 0, .int (-1), .ref ps, .ref sp, .ref tk, .ref dr, .ref pr, .ref da, .ref nw, .ref im, .int 0, .ref ac, .ref ke, .ref si, .ref tx, .ref an, .ref dw])), (tp, .inl (y 0, 400, .inl (upd f 0 w_5)))] := hD
  refine lv_aload_n hx hb dX10_layBytes_40 rfl (lv_at hl 1 rfl) ?_
  refine lv_dup hx hb dX10_layBytes_41 rfl ?_
  refine va_get (D := G) (ci := 10) (v := .int 0) (C := RX10) (T := TX10) (N := 18) hx hb hts inX10 hown hK.1 hP 0 rfl rfl 1 (by decide) (hts (.fieldLink RX10 114 "NestQuery" "tapeCount" "I") (by decide +kernel)) (fun _ h9 => h9) rfl dX10_layBytes_42 ?_
  refine lv_iconst (v := 1) hx hb dX10_layBytes_45 (by decide) ?_
  refine lv_iadd hx hb dX10_layBytes_46 ?_
  refine nq_top (z := 1) (by decide) ?_
  refine va_put (D := G) (ci := 10) (v := .int 1) (ty := .int) (C := RX10) (T := TX10) (N := 18) hx hb hts inX10 tyX10 tyX10_ok nmX10 hown hK.1 hP hD hS 0 rfl rfl 1 (by decide) (hts (.fieldLink RX10 114 "NestQuery" "tapeCount" "I") (by decide +kernel)) (fun _ h9 => h9) rfl (by decide +kernel) rfl rfl (Nat.le_of_ble_eq_true rfl) dX10_layBytes_47 (fun H locs hP hD hS => ?_)
  have hP : va_P G vwCl [(h0, .inr (10, [.ref tp, .int 1, .int (-1), .ref ps, .ref sp, .ref tk, .ref dr, .ref pr, .ref da, .ref nw, .ref im, .int 0, .ref ac, .ref ke, .ref si, .ref tx, .ref an, .ref dw])), (tp, .inl (y 0, 400, .inl (upd f 0 w_5)))] H := hP
  have hD : va_D A [(h0, .inr (10, [.ref tp, .int 1, .int (-1), .ref ps, .ref sp, .ref tk, .ref dr, .ref pr, .ref da, .ref nw, .ref im, .int 0, .ref ac, .ref ke, .ref si, .ref tx, .ref an, .ref dw])), (tp, .inl (y 0, 400, .inl (upd f 0 w_5)))] := hD
  refine lv_iinc (v := 16) (lv' := [(2, .int 16), (0, .ref h0), (1, .int a)]) hx hb dX10_layBytes_50 hl (k := 0) rfl (by decide) (by decide) rfl (fun ls hl => ?_)
  refine lv_goto (tgt := 3) hx hb dX10_layBytes_53 (by decide) ?_
  refine lv_iload_n hx hb dX10_layBytes_3 rfl (lv_at hl 0 rfl) ?_
  refine lv_if_lt (tgt := 56) hx hb dX10_layBytes_4 (by decide) (fun c_6 => absurd c_6 (by decide)) (fun _ => ?_)
  refine lv_aload_n hx hb dX10_layBytes_7 rfl (lv_at hl 1 rfl) ?_
  refine va_get (D := G) (ci := 10) (v := .int 1) (C := RX10) (T := TX10) (N := 18) hx hb hts inX10 hown hK.1 hP 0 rfl rfl 1 (by decide) (hts (.fieldLink RX10 114 "NestQuery" "tapeCount" "I") (by decide +kernel)) (fun _ h9 => h9) rfl dX10_layBytes_8 ?_
  refine lv_if_lt (tgt := 50) hx hb dX10_layBytes_11 (by decide) (fun c_7 => absurd c_7 (by decide)) (fun _ => ?_)
  refine lv_aload_n hx hb dX10_layBytes_14 rfl (lv_at hl 1 rfl) ?_
  refine va_get (D := G) (ci := 10) (v := .int 1) (C := RX10) (T := TX10) (N := 18) hx hb hts inX10 hown hK.1 hP 0 rfl rfl 1 (by decide) (hts (.fieldLink RX10 114 "NestQuery" "tapeCount" "I") (by decide +kernel)) (fun _ h9 => h9) rfl dX10_layBytes_15 ?_
  refine lv_sipush (v := 400) hx hb dX10_layBytes_18 (by decide) ?_
  refine lv_icmp_ge (tgt := 50) hx hb dX10_layBytes_21 (by decide) (fun c_8 => absurd c_8 (by decide)) (fun _ => ?_)
  refine lv_aload_n hx hb dX10_layBytes_24 rfl (lv_at hl 1 rfl) ?_
  refine va_get (D := G) (ci := 10) (v := .ref tp) (C := RX10) (T := TX10) (N := 18) hx hb hts inX10 hown hK.1 hP 0 rfl rfl 0 (by decide) (hts (.fieldLink RX10 9 "NestQuery" "tape" "[I") (by decide +kernel)) (fun _ h9 => h9) rfl dX10_layBytes_25 ?_
  refine lv_aload_n hx hb dX10_layBytes_28 rfl (lv_at hl 1 rfl) ?_
  refine va_get (D := G) (ci := 10) (v := .int 1) (C := RX10) (T := TX10) (N := 18) hx hb hts inX10 hown hK.1 hP 0 rfl rfl 1 (by decide) (hts (.fieldLink RX10 114 "NestQuery" "tapeCount" "I") (by decide +kernel)) (fun _ h9 => h9) rfl dX10_layBytes_29 ?_
  refine lv_iload_n hx hb dX10_layBytes_32 rfl (lv_at hl 2 rfl) ?_
  refine lv_iload_n hx hb dX10_layBytes_33 rfl (lv_at hl 0 rfl) ?_
  refine lv_iushr hx hb dX10_layBytes_34 rfl ?_
  refine lv_topi (fun w_9 _ => ?_)
  refine lv_sipush (v := 255) hx hb dX10_layBytes_35 (by decide) ?_
  refine lv_iand hx hb dX10_layBytes_38 ?_
  refine lv_topi (fun w_10 _ => ?_)
  refine va_iast hx hb hK.1 hP hD hS 1 0 rfl rfl (i := 1) (nq_in (by decide)) dX10_layBytes_39 (fun H locs hP hD hS => ?_)
  have hP : va_P G vwCl [(h0, .inr (10, [.ref tp, .int 1, .int (-1), .ref ps, .ref sp, .ref tk, .ref dr, .ref pr, .ref da, .ref nw, .ref im, .int 0, .ref ac, .ref ke, .ref si, .ref tx, .ref an, .ref dw])), (tp, .inl (y 0, 400, .inl (upd (upd f 0 w_5) 1 w_10)))] H := hP
  have hD : va_D A [(h0, .inr (10, [.ref tp, .int 1, .int (-1), .ref ps, .ref sp, .ref tk, .ref dr, .ref pr, .ref da, .ref nw, .ref im, .int 0, .ref ac, .ref ke, .ref si, .ref tx, .ref an, .ref dw])), (tp, .inl (y 0, 400, .inl (upd (upd f 0 w_5) 1 w_10)))] := hD
  refine lv_aload_n hx hb dX10_layBytes_40 rfl (lv_at hl 1 rfl) ?_
  refine lv_dup hx hb dX10_layBytes_41 rfl ?_
  refine va_get (D := G) (ci := 10) (v := .int 1) (C := RX10) (T := TX10) (N := 18) hx hb hts inX10 hown hK.1 hP 0 rfl rfl 1 (by decide) (hts (.fieldLink RX10 114 "NestQuery" "tapeCount" "I") (by decide +kernel)) (fun _ h9 => h9) rfl dX10_layBytes_42 ?_
  refine lv_iconst (v := 1) hx hb dX10_layBytes_45 (by decide) ?_
  refine lv_iadd hx hb dX10_layBytes_46 ?_
  refine nq_top (z := 2) (by decide) ?_
  refine va_put (D := G) (ci := 10) (v := .int 2) (ty := .int) (C := RX10) (T := TX10) (N := 18) hx hb hts inX10 tyX10 tyX10_ok nmX10 hown hK.1 hP hD hS 0 rfl rfl 1 (by decide) (hts (.fieldLink RX10 114 "NestQuery" "tapeCount" "I") (by decide +kernel)) (fun _ h9 => h9) rfl (by decide +kernel) rfl rfl (Nat.le_of_ble_eq_true rfl) dX10_layBytes_47 (fun H locs hP hD hS => ?_)
  have hP : va_P G vwCl [(h0, .inr (10, [.ref tp, .int 2, .int (-1), .ref ps, .ref sp, .ref tk, .ref dr, .ref pr, .ref da, .ref nw, .ref im, .int 0, .ref ac, .ref ke, .ref si, .ref tx, .ref an, .ref dw])), (tp, .inl (y 0, 400, .inl (upd (upd f 0 w_5) 1 w_10)))] H := hP
  have hD : va_D A [(h0, .inr (10, [.ref tp, .int 2, .int (-1), .ref ps, .ref sp, .ref tk, .ref dr, .ref pr, .ref da, .ref nw, .ref im, .int 0, .ref ac, .ref ke, .ref si, .ref tx, .ref an, .ref dw])), (tp, .inl (y 0, 400, .inl (upd (upd f 0 w_5) 1 w_10)))] := hD
  refine lv_iinc (v := 8) (lv' := [(2, .int 8), (0, .ref h0), (1, .int a)]) hx hb dX10_layBytes_50 hl (k := 0) rfl (by decide) (by decide) rfl (fun ls hl => ?_)
  refine lv_goto (tgt := 3) hx hb dX10_layBytes_53 (by decide) ?_
  refine lv_iload_n hx hb dX10_layBytes_3 rfl (lv_at hl 0 rfl) ?_
  refine lv_if_lt (tgt := 56) hx hb dX10_layBytes_4 (by decide) (fun c_11 => absurd c_11 (by decide)) (fun _ => ?_)
  refine lv_aload_n hx hb dX10_layBytes_7 rfl (lv_at hl 1 rfl) ?_
  refine va_get (D := G) (ci := 10) (v := .int 2) (C := RX10) (T := TX10) (N := 18) hx hb hts inX10 hown hK.1 hP 0 rfl rfl 1 (by decide) (hts (.fieldLink RX10 114 "NestQuery" "tapeCount" "I") (by decide +kernel)) (fun _ h9 => h9) rfl dX10_layBytes_8 ?_
  refine lv_if_lt (tgt := 50) hx hb dX10_layBytes_11 (by decide) (fun c_12 => absurd c_12 (by decide)) (fun _ => ?_)
  refine lv_aload_n hx hb dX10_layBytes_14 rfl (lv_at hl 1 rfl) ?_
  refine va_get (D := G) (ci := 10) (v := .int 2) (C := RX10) (T := TX10) (N := 18) hx hb hts inX10 hown hK.1 hP 0 rfl rfl 1 (by decide) (hts (.fieldLink RX10 114 "NestQuery" "tapeCount" "I") (by decide +kernel)) (fun _ h9 => h9) rfl dX10_layBytes_15 ?_
  refine lv_sipush (v := 400) hx hb dX10_layBytes_18 (by decide) ?_
  refine lv_icmp_ge (tgt := 50) hx hb dX10_layBytes_21 (by decide) (fun c_13 => absurd c_13 (by decide)) (fun _ => ?_)
  refine lv_aload_n hx hb dX10_layBytes_24 rfl (lv_at hl 1 rfl) ?_
  refine va_get (D := G) (ci := 10) (v := .ref tp) (C := RX10) (T := TX10) (N := 18) hx hb hts inX10 hown hK.1 hP 0 rfl rfl 0 (by decide) (hts (.fieldLink RX10 9 "NestQuery" "tape" "[I") (by decide +kernel)) (fun _ h9 => h9) rfl dX10_layBytes_25 ?_
  refine lv_aload_n hx hb dX10_layBytes_28 rfl (lv_at hl 1 rfl) ?_
  refine va_get (D := G) (ci := 10) (v := .int 2) (C := RX10) (T := TX10) (N := 18) hx hb hts inX10 hown hK.1 hP 0 rfl rfl 1 (by decide) (hts (.fieldLink RX10 114 "NestQuery" "tapeCount" "I") (by decide +kernel)) (fun _ h9 => h9) rfl dX10_layBytes_29 ?_
  refine lv_iload_n hx hb dX10_layBytes_32 rfl (lv_at hl 2 rfl) ?_
  refine lv_iload_n hx hb dX10_layBytes_33 rfl (lv_at hl 0 rfl) ?_
  refine lv_iushr hx hb dX10_layBytes_34 rfl ?_
  refine lv_topi (fun w_14 _ => ?_)
  refine lv_sipush (v := 255) hx hb dX10_layBytes_35 (by decide) ?_
  refine lv_iand hx hb dX10_layBytes_38 ?_
  refine lv_topi (fun w_15 _ => ?_)
  refine va_iast hx hb hK.1 hP hD hS 1 0 rfl rfl (i := 2) (nq_in (by decide)) dX10_layBytes_39 (fun H locs hP hD hS => ?_)
  have hP : va_P G vwCl [(h0, .inr (10, [.ref tp, .int 2, .int (-1), .ref ps, .ref sp, .ref tk, .ref dr, .ref pr, .ref da, .ref nw, .ref im, .int 0, .ref ac, .ref ke, .ref si, .ref tx, .ref an, .ref dw])), (tp, .inl (y 0, 400, .inl (upd (upd (upd f 0 w_5) 1 w_10) 2 w_15)))] H := hP
  have hD : va_D A [(h0, .inr (10, [.ref tp, .int 2, .int (-1), .ref ps, .ref sp, .ref tk, .ref dr, .ref pr, .ref da, .ref nw, .ref im, .int 0, .ref ac, .ref ke, .ref si, .ref tx, .ref an, .ref dw])), (tp, .inl (y 0, 400, .inl (upd (upd (upd f 0 w_5) 1 w_10) 2 w_15)))] := hD
  refine lv_aload_n hx hb dX10_layBytes_40 rfl (lv_at hl 1 rfl) ?_
  refine lv_dup hx hb dX10_layBytes_41 rfl ?_
  refine va_get (D := G) (ci := 10) (v := .int 2) (C := RX10) (T := TX10) (N := 18) hx hb hts inX10 hown hK.1 hP 0 rfl rfl 1 (by decide) (hts (.fieldLink RX10 114 "NestQuery" "tapeCount" "I") (by decide +kernel)) (fun _ h9 => h9) rfl dX10_layBytes_42 ?_
  refine lv_iconst (v := 1) hx hb dX10_layBytes_45 (by decide) ?_
  refine lv_iadd hx hb dX10_layBytes_46 ?_
  refine nq_top (z := 3) (by decide) ?_
  refine va_put (D := G) (ci := 10) (v := .int 3) (ty := .int) (C := RX10) (T := TX10) (N := 18) hx hb hts inX10 tyX10 tyX10_ok nmX10 hown hK.1 hP hD hS 0 rfl rfl 1 (by decide) (hts (.fieldLink RX10 114 "NestQuery" "tapeCount" "I") (by decide +kernel)) (fun _ h9 => h9) rfl (by decide +kernel) rfl rfl (Nat.le_of_ble_eq_true rfl) dX10_layBytes_47 (fun H locs hP hD hS => ?_)
  have hP : va_P G vwCl [(h0, .inr (10, [.ref tp, .int 3, .int (-1), .ref ps, .ref sp, .ref tk, .ref dr, .ref pr, .ref da, .ref nw, .ref im, .int 0, .ref ac, .ref ke, .ref si, .ref tx, .ref an, .ref dw])), (tp, .inl (y 0, 400, .inl (upd (upd (upd f 0 w_5) 1 w_10) 2 w_15)))] H := hP
  have hD : va_D A [(h0, .inr (10, [.ref tp, .int 3, .int (-1), .ref ps, .ref sp, .ref tk, .ref dr, .ref pr, .ref da, .ref nw, .ref im, .int 0, .ref ac, .ref ke, .ref si, .ref tx, .ref an, .ref dw])), (tp, .inl (y 0, 400, .inl (upd (upd (upd f 0 w_5) 1 w_10) 2 w_15)))] := hD
  refine lv_iinc (v := 0) (lv' := [(2, .int 0), (0, .ref h0), (1, .int a)]) hx hb dX10_layBytes_50 hl (k := 0) rfl (by decide) (by decide) rfl (fun ls hl => ?_)
  refine lv_goto (tgt := 3) hx hb dX10_layBytes_53 (by decide) ?_
  refine lv_iload_n hx hb dX10_layBytes_3 rfl (lv_at hl 0 rfl) ?_
  refine lv_if_lt (tgt := 56) hx hb dX10_layBytes_4 (by decide) (fun c_16 => absurd c_16 (by decide)) (fun _ => ?_)
  refine lv_aload_n hx hb dX10_layBytes_7 rfl (lv_at hl 1 rfl) ?_
  refine va_get (D := G) (ci := 10) (v := .int 3) (C := RX10) (T := TX10) (N := 18) hx hb hts inX10 hown hK.1 hP 0 rfl rfl 1 (by decide) (hts (.fieldLink RX10 114 "NestQuery" "tapeCount" "I") (by decide +kernel)) (fun _ h9 => h9) rfl dX10_layBytes_8 ?_
  refine lv_if_lt (tgt := 50) hx hb dX10_layBytes_11 (by decide) (fun c_17 => absurd c_17 (by decide)) (fun _ => ?_)
  refine lv_aload_n hx hb dX10_layBytes_14 rfl (lv_at hl 1 rfl) ?_
  refine va_get (D := G) (ci := 10) (v := .int 3) (C := RX10) (T := TX10) (N := 18) hx hb hts inX10 hown hK.1 hP 0 rfl rfl 1 (by decide) (hts (.fieldLink RX10 114 "NestQuery" "tapeCount" "I") (by decide +kernel)) (fun _ h9 => h9) rfl dX10_layBytes_15 ?_
  refine lv_sipush (v := 400) hx hb dX10_layBytes_18 (by decide) ?_
  refine lv_icmp_ge (tgt := 50) hx hb dX10_layBytes_21 (by decide) (fun c_18 => absurd c_18 (by decide)) (fun _ => ?_)
  refine lv_aload_n hx hb dX10_layBytes_24 rfl (lv_at hl 1 rfl) ?_
  refine va_get (D := G) (ci := 10) (v := .ref tp) (C := RX10) (T := TX10) (N := 18) hx hb hts inX10 hown hK.1 hP 0 rfl rfl 0 (by decide) (hts (.fieldLink RX10 9 "NestQuery" "tape" "[I") (by decide +kernel)) (fun _ h9 => h9) rfl dX10_layBytes_25 ?_
  refine lv_aload_n hx hb dX10_layBytes_28 rfl (lv_at hl 1 rfl) ?_
  refine va_get (D := G) (ci := 10) (v := .int 3) (C := RX10) (T := TX10) (N := 18) hx hb hts inX10 hown hK.1 hP 0 rfl rfl 1 (by decide) (hts (.fieldLink RX10 114 "NestQuery" "tapeCount" "I") (by decide +kernel)) (fun _ h9 => h9) rfl dX10_layBytes_29 ?_
  refine lv_iload_n hx hb dX10_layBytes_32 rfl (lv_at hl 2 rfl) ?_
  refine lv_iload_n hx hb dX10_layBytes_33 rfl (lv_at hl 0 rfl) ?_
  refine lv_iushr hx hb dX10_layBytes_34 rfl ?_
  refine lv_topi (fun w_19 _ => ?_)
  refine lv_sipush (v := 255) hx hb dX10_layBytes_35 (by decide) ?_
  refine lv_iand hx hb dX10_layBytes_38 ?_
  refine lv_topi (fun w_20 _ => ?_)
  refine va_iast hx hb hK.1 hP hD hS 1 0 rfl rfl (i := 3) (nq_in (by decide)) dX10_layBytes_39 (fun H locs hP hD hS => ?_)
  have hP : va_P G vwCl [(h0, .inr (10, [.ref tp, .int 3, .int (-1), .ref ps, .ref sp, .ref tk, .ref dr, .ref pr, .ref da, .ref nw, .ref im, .int 0, .ref ac, .ref ke, .ref si, .ref tx, .ref an, .ref dw])), (tp, .inl (y 0, 400, .inl (upd (upd (upd (upd f 0 w_5) 1 w_10) 2 w_15) 3 w_20)))] H := hP
  have hD : va_D A [(h0, .inr (10, [.ref tp, .int 3, .int (-1), .ref ps, .ref sp, .ref tk, .ref dr, .ref pr, .ref da, .ref nw, .ref im, .int 0, .ref ac, .ref ke, .ref si, .ref tx, .ref an, .ref dw])), (tp, .inl (y 0, 400, .inl (upd (upd (upd (upd f 0 w_5) 1 w_10) 2 w_15) 3 w_20)))] := hD
  refine lv_aload_n hx hb dX10_layBytes_40 rfl (lv_at hl 1 rfl) ?_
  refine lv_dup hx hb dX10_layBytes_41 rfl ?_
  refine va_get (D := G) (ci := 10) (v := .int 3) (C := RX10) (T := TX10) (N := 18) hx hb hts inX10 hown hK.1 hP 0 rfl rfl 1 (by decide) (hts (.fieldLink RX10 114 "NestQuery" "tapeCount" "I") (by decide +kernel)) (fun _ h9 => h9) rfl dX10_layBytes_42 ?_
  refine lv_iconst (v := 1) hx hb dX10_layBytes_45 (by decide) ?_
  refine lv_iadd hx hb dX10_layBytes_46 ?_
  refine nq_top (z := 4) (by decide) ?_
  refine va_put (D := G) (ci := 10) (v := .int 4) (ty := .int) (C := RX10) (T := TX10) (N := 18) hx hb hts inX10 tyX10 tyX10_ok nmX10 hown hK.1 hP hD hS 0 rfl rfl 1 (by decide) (hts (.fieldLink RX10 114 "NestQuery" "tapeCount" "I") (by decide +kernel)) (fun _ h9 => h9) rfl (by decide +kernel) rfl rfl (Nat.le_of_ble_eq_true rfl) dX10_layBytes_47 (fun H locs hP hD hS => ?_)
  have hP : va_P G vwCl [(h0, .inr (10, [.ref tp, .int 4, .int (-1), .ref ps, .ref sp, .ref tk, .ref dr, .ref pr, .ref da, .ref nw, .ref im, .int 0, .ref ac, .ref ke, .ref si, .ref tx, .ref an, .ref dw])), (tp, .inl (y 0, 400, .inl (upd (upd (upd (upd f 0 w_5) 1 w_10) 2 w_15) 3 w_20)))] H := hP
  have hD : va_D A [(h0, .inr (10, [.ref tp, .int 4, .int (-1), .ref ps, .ref sp, .ref tk, .ref dr, .ref pr, .ref da, .ref nw, .ref im, .int 0, .ref ac, .ref ke, .ref si, .ref tx, .ref an, .ref dw])), (tp, .inl (y 0, 400, .inl (upd (upd (upd (upd f 0 w_5) 1 w_10) 2 w_15) 3 w_20)))] := hD
  refine lv_iinc (v := (-8)) (lv' := [(2, .int (-8)), (0, .ref h0), (1, .int a)]) hx hb dX10_layBytes_50 hl (k := 0) rfl (by decide) (by decide) rfl (fun ls hl => ?_)
  refine lv_goto (tgt := 3) hx hb dX10_layBytes_53 (by decide) ?_
  refine lv_iload_n hx hb dX10_layBytes_3 rfl (lv_at hl 0 rfl) ?_
  refine lv_if_lt (tgt := 56) hx hb dX10_layBytes_4 (by decide) (fun _ => ?_) (fun c_21 => absurd c_21 (by decide))
  have hP9 := hP.sub (ws' := [(h0, .inr (10, [.ref tp, .int 4, .int (-1), .ref ps, .ref sp, .ref tk, .ref dr, .ref pr, .ref da, .ref nw, .ref im, .int 0, .ref ac, .ref ke, .ref si, .ref tx, .ref an, .ref dw])), (tp, .inl (y 0, 400, .inl (upd (upd (upd (upd f 0 w_5) 1 w_10) 2 w_15) 3 w_20)))]) [0, 1] rfl
  have hD9 := hD.sub (ws' := [(h0, .inr (10, [.ref tp, .int 4, .int (-1), .ref ps, .ref sp, .ref tk, .ref dr, .ref pr, .ref da, .ref nw, .ref im, .int 0, .ref ac, .ref ke, .ref si, .ref tx, .ref an, .ref dw])), (tp, .inl (y 0, 400, .inl (upd (upd (upd (upd f 0 w_5) 1 w_10) 2 w_15) 3 w_20)))]) [0, 1] (by decide) rfl
  refine W.widen (k := 0) (n := 0) (Nat.le_of_ble_eq_true rfl) (Nat.le_of_ble_eq_true rfl) ?_
  exact W.vret hx hb hr (fun t ht hW => ⟨⟨(upd (upd (upd (upd f 0 w_5) 1 w_10) 2 w_15) 3 w_20), rfl, trivial, by rw [ht]; exact hP9, by first | exact hD9 | (rw [hAe]; exact hD9)⟩, hS.F ht⟩) hS.2.2 dX10_layBytes_56

set_option maxHeartbeats 4000000 in
set_option maxRecDepth 100000 in
theorem c_layBytes4 (l : Launch) (G : va_G) (y : Nat → ClassId) (sz : Nat) (h0 : Nat) (tp : Nat) (ps : Nat) (sp : Nat) (tk : Nat) (dr : Nat) (pr : Nat) (da : Nat) (nw : Nat) (im : Nat) (ac : Nat) (ke : Nat) (si : Nat) (tx : Nat) (an : Nat) (dw : Nat) (f : Nat → Int32) (a : Int32)  : Met l yX10_layBytes wsX10_layBytes ({ frames := 0, cells := 0, slots := 0, locals := 0 }) (nq_P G y sz [.ref h0, .int a] [(h0, .inr (10, [.ref tp, .int 4, .int (-1), .ref ps, .ref sp, .ref tk, .ref dr, .ref pr, .ref da, .ref nw, .ref im, .int 0, .ref ac, .ref ke, .ref si, .ref tx, .ref an, .ref dw])), (tp, .inl (y 0, 400, .inl f))]) (va_Qv (fun (_ : Nat → Int32) => True) (fun (u : Nat → Int32) t9 => va_P G vwCl ([(h0, .inr (10, [.ref tp, .int 8, .int (-1), .ref ps, .ref sp, .ref tk, .ref dr, .ref pr, .ref da, .ref nw, .ref im, .int 0, .ref ac, .ref ke, .ref si, .ref tx, .ref an, .ref dw])), (tp, .inl (y 0, 400, .inl u))]) t9.heap ∧ va_D (va_A [(h0, .inr (10, [.ref tp, .int 4, .int (-1), .ref ps, .ref sp, .ref tk, .ref dr, .ref pr, .ref da, .ref nw, .ref im, .int 0, .ref ac, .ref ke, .ref si, .ref tx, .ref an, .ref dw])), (tp, .inl (y 0, 400, .inl f))] sz) ([(h0, .inr (10, [.ref tp, .int 8, .int (-1), .ref ps, .ref sp, .ref tk, .ref dr, .ref pr, .ref da, .ref nw, .ref im, .int 0, .ref ac, .ref ke, .ref si, .ref tx, .ref an, .ref dw])), (tp, .inl (y 0, 400, .inl u))])) (va_A [(h0, .inr (10, [.ref tp, .int 4, .int (-1), .ref ps, .ref sp, .ref tk, .ref dr, .ref pr, .ref da, .ref nw, .ref im, .int 0, .ref ac, .ref ke, .ref si, .ref tx, .ref an, .ref dw])), (tp, .inl (y 0, 400, .inl f))] sz)) 0 0 (va_A [(h0, .inr (10, [.ref tp, .int 4, .int (-1), .ref ps, .ref sp, .ref tk, .ref dr, .ref pr, .ref da, .ref nw, .ref im, .int 0, .ref ac, .ref ke, .ref si, .ref tx, .ref an, .ref dw])), (tp, .inl (y 0, 400, .inl f))] sz) := by
  refine Met.ofW (cc := cX10_layBytes) (maxL := 3) (ret := none) (by decide) rfl ?_
  intro p e s m args below meth c s₁ B hml hv
  obtain ⟨rfl, hsz, hP, hK, hD0⟩ := hv
  have hx := B.exec
  have hb := B.bytes
  have hr := B.returns
  have hts := atoms_spec (ws := wsX10_layBytes) B.pre
  have hown : s.vm.findClass RX10 = some m.cls := findClass_of_methodNamed B.named
  have hlocks := B.notSynchronized
  subst hsz
  have hD := hD0.self (sz := s.heap.size)
  generalize hAe : va_A [(h0, .inr (10, [.ref tp, .int 4, .int (-1), .ref ps, .ref sp, .ref tk, .ref dr, .ref pr, .ref da, .ref nw, .ref im, .int 0, .ref ac, .ref ke, .ref si, .ref tx, .ref an, .ref dw])), (tp, .inl (y 0, 400, .inl f))] s.heap.size = A at hD ⊢
  have hA : ∀ q : Nat, s.heap.size ≤ q → A q := fun q h => by rw [← hAe]; exact Or.inr h
  have hS : va_S A s.heap s.heap [] := va_S.rf
  have hP : va_P G vwCl [(h0, .inr (10, [.ref tp, .int 4, .int (-1), .ref ps, .ref sp, .ref tk, .ref dr, .ref pr, .ref da, .ref nw, .ref im, .int 0, .ref ac, .ref ke, .ref si, .ref tx, .ref an, .ref dw])), (tp, .inl (y 0, 400, .inl f))] s.heap := hP
  have inX10 : ∀ w ∈ wsX100, w ∈ wsX10_layBytes := by decide +kernel
  have hl := lv_entry ([.ref h0, .int a]) (n := 3) (Nat.le_of_ble_eq_true rfl)
  rw [lg_entry_eq]
  generalize (lg_sl ([.ref h0, .int a]) ++ List.replicate (3 - (lg_sl ([.ref h0, .int a])).length) Slot.unset).toArray = ls at hl ⊢
  have hl : lv_has ls 3 [(0, .ref h0), (1, .int a)] := hl
  refine lv_bipush (v := 24) hx hb dX10_layBytes_0 (by decide) ?_
  refine lv_istore_n (lv' := [(2, .int 24), (0, .ref h0), (1, .int a)]) hx hb dX10_layBytes_2 rfl hl (by decide) rfl (fun ls hl => ?_)
  refine lv_iload_n hx hb dX10_layBytes_3 rfl (lv_at hl 0 rfl) ?_
  refine lv_if_lt (tgt := 56) hx hb dX10_layBytes_4 (by decide) (fun c_1 => absurd c_1 (by decide)) (fun _ => ?_)
  refine lv_aload_n hx hb dX10_layBytes_7 rfl (lv_at hl 1 rfl) ?_
  refine va_get (D := G) (ci := 10) (v := .int 4) (C := RX10) (T := TX10) (N := 18) hx hb hts inX10 hown hK.1 hP 0 rfl rfl 1 (by decide) (hts (.fieldLink RX10 114 "NestQuery" "tapeCount" "I") (by decide +kernel)) (fun _ h9 => h9) rfl dX10_layBytes_8 ?_
  refine lv_if_lt (tgt := 50) hx hb dX10_layBytes_11 (by decide) (fun c_2 => absurd c_2 (by decide)) (fun _ => ?_)
  refine lv_aload_n hx hb dX10_layBytes_14 rfl (lv_at hl 1 rfl) ?_
  refine va_get (D := G) (ci := 10) (v := .int 4) (C := RX10) (T := TX10) (N := 18) hx hb hts inX10 hown hK.1 hP 0 rfl rfl 1 (by decide) (hts (.fieldLink RX10 114 "NestQuery" "tapeCount" "I") (by decide +kernel)) (fun _ h9 => h9) rfl dX10_layBytes_15 ?_
  refine lv_sipush (v := 400) hx hb dX10_layBytes_18 (by decide) ?_
  refine lv_icmp_ge (tgt := 50) hx hb dX10_layBytes_21 (by decide) (fun c_3 => absurd c_3 (by decide)) (fun _ => ?_)
  refine lv_aload_n hx hb dX10_layBytes_24 rfl (lv_at hl 1 rfl) ?_
  refine va_get (D := G) (ci := 10) (v := .ref tp) (C := RX10) (T := TX10) (N := 18) hx hb hts inX10 hown hK.1 hP 0 rfl rfl 0 (by decide) (hts (.fieldLink RX10 9 "NestQuery" "tape" "[I") (by decide +kernel)) (fun _ h9 => h9) rfl dX10_layBytes_25 ?_
  refine lv_aload_n hx hb dX10_layBytes_28 rfl (lv_at hl 1 rfl) ?_
  refine va_get (D := G) (ci := 10) (v := .int 4) (C := RX10) (T := TX10) (N := 18) hx hb hts inX10 hown hK.1 hP 0 rfl rfl 1 (by decide) (hts (.fieldLink RX10 114 "NestQuery" "tapeCount" "I") (by decide +kernel)) (fun _ h9 => h9) rfl dX10_layBytes_29 ?_
  refine lv_iload_n hx hb dX10_layBytes_32 rfl (lv_at hl 2 rfl) ?_
  refine lv_iload_n hx hb dX10_layBytes_33 rfl (lv_at hl 0 rfl) ?_
  refine lv_iushr hx hb dX10_layBytes_34 rfl ?_
  refine lv_topi (fun w_4 _ => ?_)
  refine lv_sipush (v := 255) hx hb dX10_layBytes_35 (by decide) ?_
  refine lv_iand hx hb dX10_layBytes_38 ?_
  refine lv_topi (fun w_5 _ => ?_)
  refine va_iast hx hb hK.1 hP hD hS 1 0 rfl rfl (i := 4) (nq_in (by decide)) dX10_layBytes_39 (fun H locs hP hD hS => ?_)
  have hP : va_P G vwCl [(h0, .inr (10, [.ref tp, .int 4, .int (-1), .ref ps, .ref sp, .ref tk, .ref dr, .ref pr, .ref da, .ref nw, .ref im, .int 0, .ref ac, .ref ke, .ref si, .ref tx, .ref an, .ref dw])), (tp, .inl (y 0, 400, .inl (upd f 4 w_5)))] H := hP
  have hD : va_D A [(h0, .inr (10, [.ref tp, .int 4, .int (-1), .ref ps, .ref sp, .ref tk, .ref dr, .ref pr, .ref da, .ref nw, .ref im, .int 0, .ref ac, .ref ke, .ref si, .ref tx, .ref an, .ref dw])), (tp, .inl (y 0, 400, .inl (upd f 4 w_5)))] := hD
  refine lv_aload_n hx hb dX10_layBytes_40 rfl (lv_at hl 1 rfl) ?_
  refine lv_dup hx hb dX10_layBytes_41 rfl ?_
  refine va_get (D := G) (ci := 10) (v := .int 4) (C := RX10) (T := TX10) (N := 18) hx hb hts inX10 hown hK.1 hP 0 rfl rfl 1 (by decide) (hts (.fieldLink RX10 114 "NestQuery" "tapeCount" "I") (by decide +kernel)) (fun _ h9 => h9) rfl dX10_layBytes_42 ?_
  refine lv_iconst (v := 1) hx hb dX10_layBytes_45 (by decide) ?_
  refine lv_iadd hx hb dX10_layBytes_46 ?_
  refine nq_top (z := 5) (by decide) ?_
  refine va_put (D := G) (ci := 10) (v := .int 5) (ty := .int) (C := RX10) (T := TX10) (N := 18) hx hb hts inX10 tyX10 tyX10_ok nmX10 hown hK.1 hP hD hS 0 rfl rfl 1 (by decide) (hts (.fieldLink RX10 114 "NestQuery" "tapeCount" "I") (by decide +kernel)) (fun _ h9 => h9) rfl (by decide +kernel) rfl rfl (Nat.le_of_ble_eq_true rfl) dX10_layBytes_47 (fun H locs hP hD hS => ?_)
  have hP : va_P G vwCl [(h0, .inr (10, [.ref tp, .int 5, .int (-1), .ref ps, .ref sp, .ref tk, .ref dr, .ref pr, .ref da, .ref nw, .ref im, .int 0, .ref ac, .ref ke, .ref si, .ref tx, .ref an, .ref dw])), (tp, .inl (y 0, 400, .inl (upd f 4 w_5)))] H := hP
  have hD : va_D A [(h0, .inr (10, [.ref tp, .int 5, .int (-1), .ref ps, .ref sp, .ref tk, .ref dr, .ref pr, .ref da, .ref nw, .ref im, .int 0, .ref ac, .ref ke, .ref si, .ref tx, .ref an, .ref dw])), (tp, .inl (y 0, 400, .inl (upd f 4 w_5)))] := hD
  refine lv_iinc (v := 16) (lv' := [(2, .int 16), (0, .ref h0), (1, .int a)]) hx hb dX10_layBytes_50 hl (k := 0) rfl (by decide) (by decide) rfl (fun ls hl => ?_)
  refine lv_goto (tgt := 3) hx hb dX10_layBytes_53 (by decide) ?_
  refine lv_iload_n hx hb dX10_layBytes_3 rfl (lv_at hl 0 rfl) ?_
  refine lv_if_lt (tgt := 56) hx hb dX10_layBytes_4 (by decide) (fun c_6 => absurd c_6 (by decide)) (fun _ => ?_)
  refine lv_aload_n hx hb dX10_layBytes_7 rfl (lv_at hl 1 rfl) ?_
  refine va_get (D := G) (ci := 10) (v := .int 5) (C := RX10) (T := TX10) (N := 18) hx hb hts inX10 hown hK.1 hP 0 rfl rfl 1 (by decide) (hts (.fieldLink RX10 114 "NestQuery" "tapeCount" "I") (by decide +kernel)) (fun _ h9 => h9) rfl dX10_layBytes_8 ?_
  refine lv_if_lt (tgt := 50) hx hb dX10_layBytes_11 (by decide) (fun c_7 => absurd c_7 (by decide)) (fun _ => ?_)
  refine lv_aload_n hx hb dX10_layBytes_14 rfl (lv_at hl 1 rfl) ?_
  refine va_get (D := G) (ci := 10) (v := .int 5) (C := RX10) (T := TX10) (N := 18) hx hb hts inX10 hown hK.1 hP 0 rfl rfl 1 (by decide) (hts (.fieldLink RX10 114 "NestQuery" "tapeCount" "I") (by decide +kernel)) (fun _ h9 => h9) rfl dX10_layBytes_15 ?_
  refine lv_sipush (v := 400) hx hb dX10_layBytes_18 (by decide) ?_
  refine lv_icmp_ge (tgt := 50) hx hb dX10_layBytes_21 (by decide) (fun c_8 => absurd c_8 (by decide)) (fun _ => ?_)
  refine lv_aload_n hx hb dX10_layBytes_24 rfl (lv_at hl 1 rfl) ?_
  refine va_get (D := G) (ci := 10) (v := .ref tp) (C := RX10) (T := TX10) (N := 18) hx hb hts inX10 hown hK.1 hP 0 rfl rfl 0 (by decide) (hts (.fieldLink RX10 9 "NestQuery" "tape" "[I") (by decide +kernel)) (fun _ h9 => h9) rfl dX10_layBytes_25 ?_
  refine lv_aload_n hx hb dX10_layBytes_28 rfl (lv_at hl 1 rfl) ?_
  refine va_get (D := G) (ci := 10) (v := .int 5) (C := RX10) (T := TX10) (N := 18) hx hb hts inX10 hown hK.1 hP 0 rfl rfl 1 (by decide) (hts (.fieldLink RX10 114 "NestQuery" "tapeCount" "I") (by decide +kernel)) (fun _ h9 => h9) rfl dX10_layBytes_29 ?_
  refine lv_iload_n hx hb dX10_layBytes_32 rfl (lv_at hl 2 rfl) ?_
  refine lv_iload_n hx hb dX10_layBytes_33 rfl (lv_at hl 0 rfl) ?_
  refine lv_iushr hx hb dX10_layBytes_34 rfl ?_
  refine lv_topi (fun w_9 _ => ?_)
  refine lv_sipush (v := 255) hx hb dX10_layBytes_35 (by decide) ?_
  refine lv_iand hx hb dX10_layBytes_38 ?_
  refine lv_topi (fun w_10 _ => ?_)
  refine va_iast hx hb hK.1 hP hD hS 1 0 rfl rfl (i := 5) (nq_in (by decide)) dX10_layBytes_39 (fun H locs hP hD hS => ?_)
  have hP : va_P G vwCl [(h0, .inr (10, [.ref tp, .int 5, .int (-1), .ref ps, .ref sp, .ref tk, .ref dr, .ref pr, .ref da, .ref nw, .ref im, .int 0, .ref ac, .ref ke, .ref si, .ref tx, .ref an, .ref dw])), (tp, .inl (y 0, 400, .inl (upd (upd f 4 w_5) 5 w_10)))] H := hP
  have hD : va_D A [(h0, .inr (10, [.ref tp, .int 5, .int (-1), .ref ps, .ref sp, .ref tk, .ref dr, .ref pr, .ref da, .ref nw, .ref im, .int 0, .ref ac, .ref ke, .ref si, .ref tx, .ref an, .ref dw])), (tp, .inl (y 0, 400, .inl (upd (upd f 4 w_5) 5 w_10)))] := hD
  refine lv_aload_n hx hb dX10_layBytes_40 rfl (lv_at hl 1 rfl) ?_
  refine lv_dup hx hb dX10_layBytes_41 rfl ?_
  refine va_get (D := G) (ci := 10) (v := .int 5) (C := RX10) (T := TX10) (N := 18) hx hb hts inX10 hown hK.1 hP 0 rfl rfl 1 (by decide) (hts (.fieldLink RX10 114 "NestQuery" "tapeCount" "I") (by decide +kernel)) (fun _ h9 => h9) rfl dX10_layBytes_42 ?_
  refine lv_iconst (v := 1) hx hb dX10_layBytes_45 (by decide) ?_
  refine lv_iadd hx hb dX10_layBytes_46 ?_
  refine nq_top (z := 6) (by decide) ?_
  refine va_put (D := G) (ci := 10) (v := .int 6) (ty := .int) (C := RX10) (T := TX10) (N := 18) hx hb hts inX10 tyX10 tyX10_ok nmX10 hown hK.1 hP hD hS 0 rfl rfl 1 (by decide) (hts (.fieldLink RX10 114 "NestQuery" "tapeCount" "I") (by decide +kernel)) (fun _ h9 => h9) rfl (by decide +kernel) rfl rfl (Nat.le_of_ble_eq_true rfl) dX10_layBytes_47 (fun H locs hP hD hS => ?_)
  have hP : va_P G vwCl [(h0, .inr (10, [.ref tp, .int 6, .int (-1), .ref ps, .ref sp, .ref tk, .ref dr, .ref pr, .ref da, .ref nw, .ref im, .int 0, .ref ac, .ref ke, .ref si, .ref tx, .ref an, .ref dw])), (tp, .inl (y 0, 400, .inl (upd (upd f 4 w_5) 5 w_10)))] H := hP
  have hD : va_D A [(h0, .inr (10, [.ref tp, .int 6, .int (-1), .ref ps, .ref sp, .ref tk, .ref dr, .ref pr, .ref da, .ref nw, .ref im, .int 0, .ref ac, .ref ke, .ref si, .ref tx, .ref an, .ref dw])), (tp, .inl (y 0, 400, .inl (upd (upd f 4 w_5) 5 w_10)))] := hD
  refine lv_iinc (v := 8) (lv' := [(2, .int 8), (0, .ref h0), (1, .int a)]) hx hb dX10_layBytes_50 hl (k := 0) rfl (by decide) (by decide) rfl (fun ls hl => ?_)
  refine lv_goto (tgt := 3) hx hb dX10_layBytes_53 (by decide) ?_
  refine lv_iload_n hx hb dX10_layBytes_3 rfl (lv_at hl 0 rfl) ?_
  refine lv_if_lt (tgt := 56) hx hb dX10_layBytes_4 (by decide) (fun c_11 => absurd c_11 (by decide)) (fun _ => ?_)
  refine lv_aload_n hx hb dX10_layBytes_7 rfl (lv_at hl 1 rfl) ?_
  refine va_get (D := G) (ci := 10) (v := .int 6) (C := RX10) (T := TX10) (N := 18) hx hb hts inX10 hown hK.1 hP 0 rfl rfl 1 (by decide) (hts (.fieldLink RX10 114 "NestQuery" "tapeCount" "I") (by decide +kernel)) (fun _ h9 => h9) rfl dX10_layBytes_8 ?_
  refine lv_if_lt (tgt := 50) hx hb dX10_layBytes_11 (by decide) (fun c_12 => absurd c_12 (by decide)) (fun _ => ?_)
  refine lv_aload_n hx hb dX10_layBytes_14 rfl (lv_at hl 1 rfl) ?_
  refine va_get (D := G) (ci := 10) (v := .int 6) (C := RX10) (T := TX10) (N := 18) hx hb hts inX10 hown hK.1 hP 0 rfl rfl 1 (by decide) (hts (.fieldLink RX10 114 "NestQuery" "tapeCount" "I") (by decide +kernel)) (fun _ h9 => h9) rfl dX10_layBytes_15 ?_
  refine lv_sipush (v := 400) hx hb dX10_layBytes_18 (by decide) ?_
  refine lv_icmp_ge (tgt := 50) hx hb dX10_layBytes_21 (by decide) (fun c_13 => absurd c_13 (by decide)) (fun _ => ?_)
  refine lv_aload_n hx hb dX10_layBytes_24 rfl (lv_at hl 1 rfl) ?_
  refine va_get (D := G) (ci := 10) (v := .ref tp) (C := RX10) (T := TX10) (N := 18) hx hb hts inX10 hown hK.1 hP 0 rfl rfl 0 (by decide) (hts (.fieldLink RX10 9 "NestQuery" "tape" "[I") (by decide +kernel)) (fun _ h9 => h9) rfl dX10_layBytes_25 ?_
  refine lv_aload_n hx hb dX10_layBytes_28 rfl (lv_at hl 1 rfl) ?_
  refine va_get (D := G) (ci := 10) (v := .int 6) (C := RX10) (T := TX10) (N := 18) hx hb hts inX10 hown hK.1 hP 0 rfl rfl 1 (by decide) (hts (.fieldLink RX10 114 "NestQuery" "tapeCount" "I") (by decide +kernel)) (fun _ h9 => h9) rfl dX10_layBytes_29 ?_
  refine lv_iload_n hx hb dX10_layBytes_32 rfl (lv_at hl 2 rfl) ?_
  refine lv_iload_n hx hb dX10_layBytes_33 rfl (lv_at hl 0 rfl) ?_
  refine lv_iushr hx hb dX10_layBytes_34 rfl ?_
  refine lv_topi (fun w_14 _ => ?_)
  refine lv_sipush (v := 255) hx hb dX10_layBytes_35 (by decide) ?_
  refine lv_iand hx hb dX10_layBytes_38 ?_
  refine lv_topi (fun w_15 _ => ?_)
  refine va_iast hx hb hK.1 hP hD hS 1 0 rfl rfl (i := 6) (nq_in (by decide)) dX10_layBytes_39 (fun H locs hP hD hS => ?_)
  have hP : va_P G vwCl [(h0, .inr (10, [.ref tp, .int 6, .int (-1), .ref ps, .ref sp, .ref tk, .ref dr, .ref pr, .ref da, .ref nw, .ref im, .int 0, .ref ac, .ref ke, .ref si, .ref tx, .ref an, .ref dw])), (tp, .inl (y 0, 400, .inl (upd (upd (upd f 4 w_5) 5 w_10) 6 w_15)))] H := hP
  have hD : va_D A [(h0, .inr (10, [.ref tp, .int 6, .int (-1), .ref ps, .ref sp, .ref tk, .ref dr, .ref pr, .ref da, .ref nw, .ref im, .int 0, .ref ac, .ref ke, .ref si, .ref tx, .ref an, .ref dw])), (tp, .inl (y 0, 400, .inl (upd (upd (upd f 4 w_5) 5 w_10) 6 w_15)))] := hD
  refine lv_aload_n hx hb dX10_layBytes_40 rfl (lv_at hl 1 rfl) ?_
  refine lv_dup hx hb dX10_layBytes_41 rfl ?_
  refine va_get (D := G) (ci := 10) (v := .int 6) (C := RX10) (T := TX10) (N := 18) hx hb hts inX10 hown hK.1 hP 0 rfl rfl 1 (by decide) (hts (.fieldLink RX10 114 "NestQuery" "tapeCount" "I") (by decide +kernel)) (fun _ h9 => h9) rfl dX10_layBytes_42 ?_
  refine lv_iconst (v := 1) hx hb dX10_layBytes_45 (by decide) ?_
  refine lv_iadd hx hb dX10_layBytes_46 ?_
  refine nq_top (z := 7) (by decide) ?_
  refine va_put (D := G) (ci := 10) (v := .int 7) (ty := .int) (C := RX10) (T := TX10) (N := 18) hx hb hts inX10 tyX10 tyX10_ok nmX10 hown hK.1 hP hD hS 0 rfl rfl 1 (by decide) (hts (.fieldLink RX10 114 "NestQuery" "tapeCount" "I") (by decide +kernel)) (fun _ h9 => h9) rfl (by decide +kernel) rfl rfl (Nat.le_of_ble_eq_true rfl) dX10_layBytes_47 (fun H locs hP hD hS => ?_)
  have hP : va_P G vwCl [(h0, .inr (10, [.ref tp, .int 7, .int (-1), .ref ps, .ref sp, .ref tk, .ref dr, .ref pr, .ref da, .ref nw, .ref im, .int 0, .ref ac, .ref ke, .ref si, .ref tx, .ref an, .ref dw])), (tp, .inl (y 0, 400, .inl (upd (upd (upd f 4 w_5) 5 w_10) 6 w_15)))] H := hP
  have hD : va_D A [(h0, .inr (10, [.ref tp, .int 7, .int (-1), .ref ps, .ref sp, .ref tk, .ref dr, .ref pr, .ref da, .ref nw, .ref im, .int 0, .ref ac, .ref ke, .ref si, .ref tx, .ref an, .ref dw])), (tp, .inl (y 0, 400, .inl (upd (upd (upd f 4 w_5) 5 w_10) 6 w_15)))] := hD
  refine lv_iinc (v := 0) (lv' := [(2, .int 0), (0, .ref h0), (1, .int a)]) hx hb dX10_layBytes_50 hl (k := 0) rfl (by decide) (by decide) rfl (fun ls hl => ?_)
  refine lv_goto (tgt := 3) hx hb dX10_layBytes_53 (by decide) ?_
  refine lv_iload_n hx hb dX10_layBytes_3 rfl (lv_at hl 0 rfl) ?_
  refine lv_if_lt (tgt := 56) hx hb dX10_layBytes_4 (by decide) (fun c_16 => absurd c_16 (by decide)) (fun _ => ?_)
  refine lv_aload_n hx hb dX10_layBytes_7 rfl (lv_at hl 1 rfl) ?_
  refine va_get (D := G) (ci := 10) (v := .int 7) (C := RX10) (T := TX10) (N := 18) hx hb hts inX10 hown hK.1 hP 0 rfl rfl 1 (by decide) (hts (.fieldLink RX10 114 "NestQuery" "tapeCount" "I") (by decide +kernel)) (fun _ h9 => h9) rfl dX10_layBytes_8 ?_
  refine lv_if_lt (tgt := 50) hx hb dX10_layBytes_11 (by decide) (fun c_17 => absurd c_17 (by decide)) (fun _ => ?_)
  refine lv_aload_n hx hb dX10_layBytes_14 rfl (lv_at hl 1 rfl) ?_
  refine va_get (D := G) (ci := 10) (v := .int 7) (C := RX10) (T := TX10) (N := 18) hx hb hts inX10 hown hK.1 hP 0 rfl rfl 1 (by decide) (hts (.fieldLink RX10 114 "NestQuery" "tapeCount" "I") (by decide +kernel)) (fun _ h9 => h9) rfl dX10_layBytes_15 ?_
  refine lv_sipush (v := 400) hx hb dX10_layBytes_18 (by decide) ?_
  refine lv_icmp_ge (tgt := 50) hx hb dX10_layBytes_21 (by decide) (fun c_18 => absurd c_18 (by decide)) (fun _ => ?_)
  refine lv_aload_n hx hb dX10_layBytes_24 rfl (lv_at hl 1 rfl) ?_
  refine va_get (D := G) (ci := 10) (v := .ref tp) (C := RX10) (T := TX10) (N := 18) hx hb hts inX10 hown hK.1 hP 0 rfl rfl 0 (by decide) (hts (.fieldLink RX10 9 "NestQuery" "tape" "[I") (by decide +kernel)) (fun _ h9 => h9) rfl dX10_layBytes_25 ?_
  refine lv_aload_n hx hb dX10_layBytes_28 rfl (lv_at hl 1 rfl) ?_
  refine va_get (D := G) (ci := 10) (v := .int 7) (C := RX10) (T := TX10) (N := 18) hx hb hts inX10 hown hK.1 hP 0 rfl rfl 1 (by decide) (hts (.fieldLink RX10 114 "NestQuery" "tapeCount" "I") (by decide +kernel)) (fun _ h9 => h9) rfl dX10_layBytes_29 ?_
  refine lv_iload_n hx hb dX10_layBytes_32 rfl (lv_at hl 2 rfl) ?_
  refine lv_iload_n hx hb dX10_layBytes_33 rfl (lv_at hl 0 rfl) ?_
  refine lv_iushr hx hb dX10_layBytes_34 rfl ?_
  refine lv_topi (fun w_19 _ => ?_)
  refine lv_sipush (v := 255) hx hb dX10_layBytes_35 (by decide) ?_
  refine lv_iand hx hb dX10_layBytes_38 ?_
  refine lv_topi (fun w_20 _ => ?_)
  refine va_iast hx hb hK.1 hP hD hS 1 0 rfl rfl (i := 7) (nq_in (by decide)) dX10_layBytes_39 (fun H locs hP hD hS => ?_)
  have hP : va_P G vwCl [(h0, .inr (10, [.ref tp, .int 7, .int (-1), .ref ps, .ref sp, .ref tk, .ref dr, .ref pr, .ref da, .ref nw, .ref im, .int 0, .ref ac, .ref ke, .ref si, .ref tx, .ref an, .ref dw])), (tp, .inl (y 0, 400, .inl (upd (upd (upd (upd f 4 w_5) 5 w_10) 6 w_15) 7 w_20)))] H := hP
  have hD : va_D A [(h0, .inr (10, [.ref tp, .int 7, .int (-1), .ref ps, .ref sp, .ref tk, .ref dr, .ref pr, .ref da, .ref nw, .ref im, .int 0, .ref ac, .ref ke, .ref si, .ref tx, .ref an, .ref dw])), (tp, .inl (y 0, 400, .inl (upd (upd (upd (upd f 4 w_5) 5 w_10) 6 w_15) 7 w_20)))] := hD
  refine lv_aload_n hx hb dX10_layBytes_40 rfl (lv_at hl 1 rfl) ?_
  refine lv_dup hx hb dX10_layBytes_41 rfl ?_
  refine va_get (D := G) (ci := 10) (v := .int 7) (C := RX10) (T := TX10) (N := 18) hx hb hts inX10 hown hK.1 hP 0 rfl rfl 1 (by decide) (hts (.fieldLink RX10 114 "NestQuery" "tapeCount" "I") (by decide +kernel)) (fun _ h9 => h9) rfl dX10_layBytes_42 ?_
  refine lv_iconst (v := 1) hx hb dX10_layBytes_45 (by decide) ?_
  refine lv_iadd hx hb dX10_layBytes_46 ?_
  refine nq_top (z := 8) (by decide) ?_
  refine va_put (D := G) (ci := 10) (v := .int 8) (ty := .int) (C := RX10) (T := TX10) (N := 18) hx hb hts inX10 tyX10 tyX10_ok nmX10 hown hK.1 hP hD hS 0 rfl rfl 1 (by decide) (hts (.fieldLink RX10 114 "NestQuery" "tapeCount" "I") (by decide +kernel)) (fun _ h9 => h9) rfl (by decide +kernel) rfl rfl (Nat.le_of_ble_eq_true rfl) dX10_layBytes_47 (fun H locs hP hD hS => ?_)
  have hP : va_P G vwCl [(h0, .inr (10, [.ref tp, .int 8, .int (-1), .ref ps, .ref sp, .ref tk, .ref dr, .ref pr, .ref da, .ref nw, .ref im, .int 0, .ref ac, .ref ke, .ref si, .ref tx, .ref an, .ref dw])), (tp, .inl (y 0, 400, .inl (upd (upd (upd (upd f 4 w_5) 5 w_10) 6 w_15) 7 w_20)))] H := hP
  have hD : va_D A [(h0, .inr (10, [.ref tp, .int 8, .int (-1), .ref ps, .ref sp, .ref tk, .ref dr, .ref pr, .ref da, .ref nw, .ref im, .int 0, .ref ac, .ref ke, .ref si, .ref tx, .ref an, .ref dw])), (tp, .inl (y 0, 400, .inl (upd (upd (upd (upd f 4 w_5) 5 w_10) 6 w_15) 7 w_20)))] := hD
  refine lv_iinc (v := (-8)) (lv' := [(2, .int (-8)), (0, .ref h0), (1, .int a)]) hx hb dX10_layBytes_50 hl (k := 0) rfl (by decide) (by decide) rfl (fun ls hl => ?_)
  refine lv_goto (tgt := 3) hx hb dX10_layBytes_53 (by decide) ?_
  refine lv_iload_n hx hb dX10_layBytes_3 rfl (lv_at hl 0 rfl) ?_
  refine lv_if_lt (tgt := 56) hx hb dX10_layBytes_4 (by decide) (fun _ => ?_) (fun c_21 => absurd c_21 (by decide))
  have hP9 := hP.sub (ws' := [(h0, .inr (10, [.ref tp, .int 8, .int (-1), .ref ps, .ref sp, .ref tk, .ref dr, .ref pr, .ref da, .ref nw, .ref im, .int 0, .ref ac, .ref ke, .ref si, .ref tx, .ref an, .ref dw])), (tp, .inl (y 0, 400, .inl (upd (upd (upd (upd f 4 w_5) 5 w_10) 6 w_15) 7 w_20)))]) [0, 1] rfl
  have hD9 := hD.sub (ws' := [(h0, .inr (10, [.ref tp, .int 8, .int (-1), .ref ps, .ref sp, .ref tk, .ref dr, .ref pr, .ref da, .ref nw, .ref im, .int 0, .ref ac, .ref ke, .ref si, .ref tx, .ref an, .ref dw])), (tp, .inl (y 0, 400, .inl (upd (upd (upd (upd f 4 w_5) 5 w_10) 6 w_15) 7 w_20)))]) [0, 1] (by decide) rfl
  refine W.widen (k := 0) (n := 0) (Nat.le_of_ble_eq_true rfl) (Nat.le_of_ble_eq_true rfl) ?_
  exact W.vret hx hb hr (fun t ht hW => ⟨⟨(upd (upd (upd (upd f 4 w_5) 5 w_10) 6 w_15) 7 w_20), rfl, trivial, by rw [ht]; exact hP9, by first | exact hD9 | (rw [hAe]; exact hD9)⟩, hS.F ht⟩) hS.2.2 dX10_layBytes_56

set_option maxHeartbeats 4000000 in
set_option maxRecDepth 100000 in
theorem c_layBytes8 (l : Launch) (G : va_G) (y : Nat → ClassId) (sz : Nat) (h0 : Nat) (tp : Nat) (ps : Nat) (sp : Nat) (tk : Nat) (dr : Nat) (pr : Nat) (da : Nat) (nw : Nat) (im : Nat) (ac : Nat) (ke : Nat) (si : Nat) (tx : Nat) (an : Nat) (dw : Nat) (f : Nat → Int32) (a : Int32)  : Met l yX10_layBytes wsX10_layBytes ({ frames := 0, cells := 0, slots := 0, locals := 0 }) (nq_P G y sz [.ref h0, .int a] [(h0, .inr (10, [.ref tp, .int 8, .int (-1), .ref ps, .ref sp, .ref tk, .ref dr, .ref pr, .ref da, .ref nw, .ref im, .int 0, .ref ac, .ref ke, .ref si, .ref tx, .ref an, .ref dw])), (tp, .inl (y 0, 400, .inl f))]) (va_Qv (fun (_ : Nat → Int32) => True) (fun (u : Nat → Int32) t9 => va_P G vwCl ([(h0, .inr (10, [.ref tp, .int 12, .int (-1), .ref ps, .ref sp, .ref tk, .ref dr, .ref pr, .ref da, .ref nw, .ref im, .int 0, .ref ac, .ref ke, .ref si, .ref tx, .ref an, .ref dw])), (tp, .inl (y 0, 400, .inl u))]) t9.heap ∧ va_D (va_A [(h0, .inr (10, [.ref tp, .int 8, .int (-1), .ref ps, .ref sp, .ref tk, .ref dr, .ref pr, .ref da, .ref nw, .ref im, .int 0, .ref ac, .ref ke, .ref si, .ref tx, .ref an, .ref dw])), (tp, .inl (y 0, 400, .inl f))] sz) ([(h0, .inr (10, [.ref tp, .int 12, .int (-1), .ref ps, .ref sp, .ref tk, .ref dr, .ref pr, .ref da, .ref nw, .ref im, .int 0, .ref ac, .ref ke, .ref si, .ref tx, .ref an, .ref dw])), (tp, .inl (y 0, 400, .inl u))])) (va_A [(h0, .inr (10, [.ref tp, .int 8, .int (-1), .ref ps, .ref sp, .ref tk, .ref dr, .ref pr, .ref da, .ref nw, .ref im, .int 0, .ref ac, .ref ke, .ref si, .ref tx, .ref an, .ref dw])), (tp, .inl (y 0, 400, .inl f))] sz)) 0 0 (va_A [(h0, .inr (10, [.ref tp, .int 8, .int (-1), .ref ps, .ref sp, .ref tk, .ref dr, .ref pr, .ref da, .ref nw, .ref im, .int 0, .ref ac, .ref ke, .ref si, .ref tx, .ref an, .ref dw])), (tp, .inl (y 0, 400, .inl f))] sz) := by
  refine Met.ofW (cc := cX10_layBytes) (maxL := 3) (ret := none) (by decide) rfl ?_
  intro p e s m args below meth c s₁ B hml hv
  obtain ⟨rfl, hsz, hP, hK, hD0⟩ := hv
  have hx := B.exec
  have hb := B.bytes
  have hr := B.returns
  have hts := atoms_spec (ws := wsX10_layBytes) B.pre
  have hown : s.vm.findClass RX10 = some m.cls := findClass_of_methodNamed B.named
  have hlocks := B.notSynchronized
  subst hsz
  have hD := hD0.self (sz := s.heap.size)
  generalize hAe : va_A [(h0, .inr (10, [.ref tp, .int 8, .int (-1), .ref ps, .ref sp, .ref tk, .ref dr, .ref pr, .ref da, .ref nw, .ref im, .int 0, .ref ac, .ref ke, .ref si, .ref tx, .ref an, .ref dw])), (tp, .inl (y 0, 400, .inl f))] s.heap.size = A at hD ⊢
  have hA : ∀ q : Nat, s.heap.size ≤ q → A q := fun q h => by rw [← hAe]; exact Or.inr h
  have hS : va_S A s.heap s.heap [] := va_S.rf
  have hP : va_P G vwCl [(h0, .inr (10, [.ref tp, .int 8, .int (-1), .ref ps, .ref sp, .ref tk, .ref dr, .ref pr, .ref da, .ref nw, .ref im, .int 0, .ref ac, .ref ke, .ref si, .ref tx, .ref an, .ref dw])), (tp, .inl (y 0, 400, .inl f))] s.heap := hP
  have inX10 : ∀ w ∈ wsX100, w ∈ wsX10_layBytes := by decide +kernel
  have hl := lv_entry ([.ref h0, .int a]) (n := 3) (Nat.le_of_ble_eq_true rfl)
  rw [lg_entry_eq]
  generalize (lg_sl ([.ref h0, .int a]) ++ List.replicate (3 - (lg_sl ([.ref h0, .int a])).length) Slot.unset).toArray = ls at hl ⊢
  have hl : lv_has ls 3 [(0, .ref h0), (1, .int a)] := hl
  refine lv_bipush (v := 24) hx hb dX10_layBytes_0 (by decide) ?_
  refine lv_istore_n (lv' := [(2, .int 24), (0, .ref h0), (1, .int a)]) hx hb dX10_layBytes_2 rfl hl (by decide) rfl (fun ls hl => ?_)
  refine lv_iload_n hx hb dX10_layBytes_3 rfl (lv_at hl 0 rfl) ?_
  refine lv_if_lt (tgt := 56) hx hb dX10_layBytes_4 (by decide) (fun c_1 => absurd c_1 (by decide)) (fun _ => ?_)
  refine lv_aload_n hx hb dX10_layBytes_7 rfl (lv_at hl 1 rfl) ?_
  refine va_get (D := G) (ci := 10) (v := .int 8) (C := RX10) (T := TX10) (N := 18) hx hb hts inX10 hown hK.1 hP 0 rfl rfl 1 (by decide) (hts (.fieldLink RX10 114 "NestQuery" "tapeCount" "I") (by decide +kernel)) (fun _ h9 => h9) rfl dX10_layBytes_8 ?_
  refine lv_if_lt (tgt := 50) hx hb dX10_layBytes_11 (by decide) (fun c_2 => absurd c_2 (by decide)) (fun _ => ?_)
  refine lv_aload_n hx hb dX10_layBytes_14 rfl (lv_at hl 1 rfl) ?_
  refine va_get (D := G) (ci := 10) (v := .int 8) (C := RX10) (T := TX10) (N := 18) hx hb hts inX10 hown hK.1 hP 0 rfl rfl 1 (by decide) (hts (.fieldLink RX10 114 "NestQuery" "tapeCount" "I") (by decide +kernel)) (fun _ h9 => h9) rfl dX10_layBytes_15 ?_
  refine lv_sipush (v := 400) hx hb dX10_layBytes_18 (by decide) ?_
  refine lv_icmp_ge (tgt := 50) hx hb dX10_layBytes_21 (by decide) (fun c_3 => absurd c_3 (by decide)) (fun _ => ?_)
  refine lv_aload_n hx hb dX10_layBytes_24 rfl (lv_at hl 1 rfl) ?_
  refine va_get (D := G) (ci := 10) (v := .ref tp) (C := RX10) (T := TX10) (N := 18) hx hb hts inX10 hown hK.1 hP 0 rfl rfl 0 (by decide) (hts (.fieldLink RX10 9 "NestQuery" "tape" "[I") (by decide +kernel)) (fun _ h9 => h9) rfl dX10_layBytes_25 ?_
  refine lv_aload_n hx hb dX10_layBytes_28 rfl (lv_at hl 1 rfl) ?_
  refine va_get (D := G) (ci := 10) (v := .int 8) (C := RX10) (T := TX10) (N := 18) hx hb hts inX10 hown hK.1 hP 0 rfl rfl 1 (by decide) (hts (.fieldLink RX10 114 "NestQuery" "tapeCount" "I") (by decide +kernel)) (fun _ h9 => h9) rfl dX10_layBytes_29 ?_
  refine lv_iload_n hx hb dX10_layBytes_32 rfl (lv_at hl 2 rfl) ?_
  refine lv_iload_n hx hb dX10_layBytes_33 rfl (lv_at hl 0 rfl) ?_
  refine lv_iushr hx hb dX10_layBytes_34 rfl ?_
  refine lv_topi (fun w_4 _ => ?_)
  refine lv_sipush (v := 255) hx hb dX10_layBytes_35 (by decide) ?_
  refine lv_iand hx hb dX10_layBytes_38 ?_
  refine lv_topi (fun w_5 _ => ?_)
  refine va_iast hx hb hK.1 hP hD hS 1 0 rfl rfl (i := 8) (nq_in (by decide)) dX10_layBytes_39 (fun H locs hP hD hS => ?_)
  have hP : va_P G vwCl [(h0, .inr (10, [.ref tp, .int 8, .int (-1), .ref ps, .ref sp, .ref tk, .ref dr, .ref pr, .ref da, .ref nw, .ref im, .int 0, .ref ac, .ref ke, .ref si, .ref tx, .ref an, .ref dw])), (tp, .inl (y 0, 400, .inl (upd f 8 w_5)))] H := hP
  have hD : va_D A [(h0, .inr (10, [.ref tp, .int 8, .int (-1), .ref ps, .ref sp, .ref tk, .ref dr, .ref pr, .ref da, .ref nw, .ref im, .int 0, .ref ac, .ref ke, .ref si, .ref tx, .ref an, .ref dw])), (tp, .inl (y 0, 400, .inl (upd f 8 w_5)))] := hD
  refine lv_aload_n hx hb dX10_layBytes_40 rfl (lv_at hl 1 rfl) ?_
  refine lv_dup hx hb dX10_layBytes_41 rfl ?_
  refine va_get (D := G) (ci := 10) (v := .int 8) (C := RX10) (T := TX10) (N := 18) hx hb hts inX10 hown hK.1 hP 0 rfl rfl 1 (by decide) (hts (.fieldLink RX10 114 "NestQuery" "tapeCount" "I") (by decide +kernel)) (fun _ h9 => h9) rfl dX10_layBytes_42 ?_
  refine lv_iconst (v := 1) hx hb dX10_layBytes_45 (by decide) ?_
  refine lv_iadd hx hb dX10_layBytes_46 ?_
  refine nq_top (z := 9) (by decide) ?_
  refine va_put (D := G) (ci := 10) (v := .int 9) (ty := .int) (C := RX10) (T := TX10) (N := 18) hx hb hts inX10 tyX10 tyX10_ok nmX10 hown hK.1 hP hD hS 0 rfl rfl 1 (by decide) (hts (.fieldLink RX10 114 "NestQuery" "tapeCount" "I") (by decide +kernel)) (fun _ h9 => h9) rfl (by decide +kernel) rfl rfl (Nat.le_of_ble_eq_true rfl) dX10_layBytes_47 (fun H locs hP hD hS => ?_)
  have hP : va_P G vwCl [(h0, .inr (10, [.ref tp, .int 9, .int (-1), .ref ps, .ref sp, .ref tk, .ref dr, .ref pr, .ref da, .ref nw, .ref im, .int 0, .ref ac, .ref ke, .ref si, .ref tx, .ref an, .ref dw])), (tp, .inl (y 0, 400, .inl (upd f 8 w_5)))] H := hP
  have hD : va_D A [(h0, .inr (10, [.ref tp, .int 9, .int (-1), .ref ps, .ref sp, .ref tk, .ref dr, .ref pr, .ref da, .ref nw, .ref im, .int 0, .ref ac, .ref ke, .ref si, .ref tx, .ref an, .ref dw])), (tp, .inl (y 0, 400, .inl (upd f 8 w_5)))] := hD
  refine lv_iinc (v := 16) (lv' := [(2, .int 16), (0, .ref h0), (1, .int a)]) hx hb dX10_layBytes_50 hl (k := 0) rfl (by decide) (by decide) rfl (fun ls hl => ?_)
  refine lv_goto (tgt := 3) hx hb dX10_layBytes_53 (by decide) ?_
  refine lv_iload_n hx hb dX10_layBytes_3 rfl (lv_at hl 0 rfl) ?_
  refine lv_if_lt (tgt := 56) hx hb dX10_layBytes_4 (by decide) (fun c_6 => absurd c_6 (by decide)) (fun _ => ?_)
  refine lv_aload_n hx hb dX10_layBytes_7 rfl (lv_at hl 1 rfl) ?_
  refine va_get (D := G) (ci := 10) (v := .int 9) (C := RX10) (T := TX10) (N := 18) hx hb hts inX10 hown hK.1 hP 0 rfl rfl 1 (by decide) (hts (.fieldLink RX10 114 "NestQuery" "tapeCount" "I") (by decide +kernel)) (fun _ h9 => h9) rfl dX10_layBytes_8 ?_
  refine lv_if_lt (tgt := 50) hx hb dX10_layBytes_11 (by decide) (fun c_7 => absurd c_7 (by decide)) (fun _ => ?_)
  refine lv_aload_n hx hb dX10_layBytes_14 rfl (lv_at hl 1 rfl) ?_
  refine va_get (D := G) (ci := 10) (v := .int 9) (C := RX10) (T := TX10) (N := 18) hx hb hts inX10 hown hK.1 hP 0 rfl rfl 1 (by decide) (hts (.fieldLink RX10 114 "NestQuery" "tapeCount" "I") (by decide +kernel)) (fun _ h9 => h9) rfl dX10_layBytes_15 ?_
  refine lv_sipush (v := 400) hx hb dX10_layBytes_18 (by decide) ?_
  refine lv_icmp_ge (tgt := 50) hx hb dX10_layBytes_21 (by decide) (fun c_8 => absurd c_8 (by decide)) (fun _ => ?_)
  refine lv_aload_n hx hb dX10_layBytes_24 rfl (lv_at hl 1 rfl) ?_
  refine va_get (D := G) (ci := 10) (v := .ref tp) (C := RX10) (T := TX10) (N := 18) hx hb hts inX10 hown hK.1 hP 0 rfl rfl 0 (by decide) (hts (.fieldLink RX10 9 "NestQuery" "tape" "[I") (by decide +kernel)) (fun _ h9 => h9) rfl dX10_layBytes_25 ?_
  refine lv_aload_n hx hb dX10_layBytes_28 rfl (lv_at hl 1 rfl) ?_
  refine va_get (D := G) (ci := 10) (v := .int 9) (C := RX10) (T := TX10) (N := 18) hx hb hts inX10 hown hK.1 hP 0 rfl rfl 1 (by decide) (hts (.fieldLink RX10 114 "NestQuery" "tapeCount" "I") (by decide +kernel)) (fun _ h9 => h9) rfl dX10_layBytes_29 ?_
  refine lv_iload_n hx hb dX10_layBytes_32 rfl (lv_at hl 2 rfl) ?_
  refine lv_iload_n hx hb dX10_layBytes_33 rfl (lv_at hl 0 rfl) ?_
  refine lv_iushr hx hb dX10_layBytes_34 rfl ?_
  refine lv_topi (fun w_9 _ => ?_)
  refine lv_sipush (v := 255) hx hb dX10_layBytes_35 (by decide) ?_
  refine lv_iand hx hb dX10_layBytes_38 ?_
  refine lv_topi (fun w_10 _ => ?_)
  refine va_iast hx hb hK.1 hP hD hS 1 0 rfl rfl (i := 9) (nq_in (by decide)) dX10_layBytes_39 (fun H locs hP hD hS => ?_)
  have hP : va_P G vwCl [(h0, .inr (10, [.ref tp, .int 9, .int (-1), .ref ps, .ref sp, .ref tk, .ref dr, .ref pr, .ref da, .ref nw, .ref im, .int 0, .ref ac, .ref ke, .ref si, .ref tx, .ref an, .ref dw])), (tp, .inl (y 0, 400, .inl (upd (upd f 8 w_5) 9 w_10)))] H := hP
  have hD : va_D A [(h0, .inr (10, [.ref tp, .int 9, .int (-1), .ref ps, .ref sp, .ref tk, .ref dr, .ref pr, .ref da, .ref nw, .ref im, .int 0, .ref ac, .ref ke, .ref si, .ref tx, .ref an, .ref dw])), (tp, .inl (y 0, 400, .inl (upd (upd f 8 w_5) 9 w_10)))] := hD
  refine lv_aload_n hx hb dX10_layBytes_40 rfl (lv_at hl 1 rfl) ?_
  refine lv_dup hx hb dX10_layBytes_41 rfl ?_
  refine va_get (D := G) (ci := 10) (v := .int 9) (C := RX10) (T := TX10) (N := 18) hx hb hts inX10 hown hK.1 hP 0 rfl rfl 1 (by decide) (hts (.fieldLink RX10 114 "NestQuery" "tapeCount" "I") (by decide +kernel)) (fun _ h9 => h9) rfl dX10_layBytes_42 ?_
  refine lv_iconst (v := 1) hx hb dX10_layBytes_45 (by decide) ?_
  refine lv_iadd hx hb dX10_layBytes_46 ?_
  refine nq_top (z := 10) (by decide) ?_
  refine va_put (D := G) (ci := 10) (v := .int 10) (ty := .int) (C := RX10) (T := TX10) (N := 18) hx hb hts inX10 tyX10 tyX10_ok nmX10 hown hK.1 hP hD hS 0 rfl rfl 1 (by decide) (hts (.fieldLink RX10 114 "NestQuery" "tapeCount" "I") (by decide +kernel)) (fun _ h9 => h9) rfl (by decide +kernel) rfl rfl (Nat.le_of_ble_eq_true rfl) dX10_layBytes_47 (fun H locs hP hD hS => ?_)
  have hP : va_P G vwCl [(h0, .inr (10, [.ref tp, .int 10, .int (-1), .ref ps, .ref sp, .ref tk, .ref dr, .ref pr, .ref da, .ref nw, .ref im, .int 0, .ref ac, .ref ke, .ref si, .ref tx, .ref an, .ref dw])), (tp, .inl (y 0, 400, .inl (upd (upd f 8 w_5) 9 w_10)))] H := hP
  have hD : va_D A [(h0, .inr (10, [.ref tp, .int 10, .int (-1), .ref ps, .ref sp, .ref tk, .ref dr, .ref pr, .ref da, .ref nw, .ref im, .int 0, .ref ac, .ref ke, .ref si, .ref tx, .ref an, .ref dw])), (tp, .inl (y 0, 400, .inl (upd (upd f 8 w_5) 9 w_10)))] := hD
  refine lv_iinc (v := 8) (lv' := [(2, .int 8), (0, .ref h0), (1, .int a)]) hx hb dX10_layBytes_50 hl (k := 0) rfl (by decide) (by decide) rfl (fun ls hl => ?_)
  refine lv_goto (tgt := 3) hx hb dX10_layBytes_53 (by decide) ?_
  refine lv_iload_n hx hb dX10_layBytes_3 rfl (lv_at hl 0 rfl) ?_
  refine lv_if_lt (tgt := 56) hx hb dX10_layBytes_4 (by decide) (fun c_11 => absurd c_11 (by decide)) (fun _ => ?_)
  refine lv_aload_n hx hb dX10_layBytes_7 rfl (lv_at hl 1 rfl) ?_
  refine va_get (D := G) (ci := 10) (v := .int 10) (C := RX10) (T := TX10) (N := 18) hx hb hts inX10 hown hK.1 hP 0 rfl rfl 1 (by decide) (hts (.fieldLink RX10 114 "NestQuery" "tapeCount" "I") (by decide +kernel)) (fun _ h9 => h9) rfl dX10_layBytes_8 ?_
  refine lv_if_lt (tgt := 50) hx hb dX10_layBytes_11 (by decide) (fun c_12 => absurd c_12 (by decide)) (fun _ => ?_)
  refine lv_aload_n hx hb dX10_layBytes_14 rfl (lv_at hl 1 rfl) ?_
  refine va_get (D := G) (ci := 10) (v := .int 10) (C := RX10) (T := TX10) (N := 18) hx hb hts inX10 hown hK.1 hP 0 rfl rfl 1 (by decide) (hts (.fieldLink RX10 114 "NestQuery" "tapeCount" "I") (by decide +kernel)) (fun _ h9 => h9) rfl dX10_layBytes_15 ?_
  refine lv_sipush (v := 400) hx hb dX10_layBytes_18 (by decide) ?_
  refine lv_icmp_ge (tgt := 50) hx hb dX10_layBytes_21 (by decide) (fun c_13 => absurd c_13 (by decide)) (fun _ => ?_)
  refine lv_aload_n hx hb dX10_layBytes_24 rfl (lv_at hl 1 rfl) ?_
  refine va_get (D := G) (ci := 10) (v := .ref tp) (C := RX10) (T := TX10) (N := 18) hx hb hts inX10 hown hK.1 hP 0 rfl rfl 0 (by decide) (hts (.fieldLink RX10 9 "NestQuery" "tape" "[I") (by decide +kernel)) (fun _ h9 => h9) rfl dX10_layBytes_25 ?_
  refine lv_aload_n hx hb dX10_layBytes_28 rfl (lv_at hl 1 rfl) ?_
  refine va_get (D := G) (ci := 10) (v := .int 10) (C := RX10) (T := TX10) (N := 18) hx hb hts inX10 hown hK.1 hP 0 rfl rfl 1 (by decide) (hts (.fieldLink RX10 114 "NestQuery" "tapeCount" "I") (by decide +kernel)) (fun _ h9 => h9) rfl dX10_layBytes_29 ?_
  refine lv_iload_n hx hb dX10_layBytes_32 rfl (lv_at hl 2 rfl) ?_
  refine lv_iload_n hx hb dX10_layBytes_33 rfl (lv_at hl 0 rfl) ?_
  refine lv_iushr hx hb dX10_layBytes_34 rfl ?_
  refine lv_topi (fun w_14 _ => ?_)
  refine lv_sipush (v := 255) hx hb dX10_layBytes_35 (by decide) ?_
  refine lv_iand hx hb dX10_layBytes_38 ?_
  refine lv_topi (fun w_15 _ => ?_)
  refine va_iast hx hb hK.1 hP hD hS 1 0 rfl rfl (i := 10) (nq_in (by decide)) dX10_layBytes_39 (fun H locs hP hD hS => ?_)
  have hP : va_P G vwCl [(h0, .inr (10, [.ref tp, .int 10, .int (-1), .ref ps, .ref sp, .ref tk, .ref dr, .ref pr, .ref da, .ref nw, .ref im, .int 0, .ref ac, .ref ke, .ref si, .ref tx, .ref an, .ref dw])), (tp, .inl (y 0, 400, .inl (upd (upd (upd f 8 w_5) 9 w_10) 10 w_15)))] H := hP
  have hD : va_D A [(h0, .inr (10, [.ref tp, .int 10, .int (-1), .ref ps, .ref sp, .ref tk, .ref dr, .ref pr, .ref da, .ref nw, .ref im, .int 0, .ref ac, .ref ke, .ref si, .ref tx, .ref an, .ref dw])), (tp, .inl (y 0, 400, .inl (upd (upd (upd f 8 w_5) 9 w_10) 10 w_15)))] := hD
  refine lv_aload_n hx hb dX10_layBytes_40 rfl (lv_at hl 1 rfl) ?_
  refine lv_dup hx hb dX10_layBytes_41 rfl ?_
  refine va_get (D := G) (ci := 10) (v := .int 10) (C := RX10) (T := TX10) (N := 18) hx hb hts inX10 hown hK.1 hP 0 rfl rfl 1 (by decide) (hts (.fieldLink RX10 114 "NestQuery" "tapeCount" "I") (by decide +kernel)) (fun _ h9 => h9) rfl dX10_layBytes_42 ?_
  refine lv_iconst (v := 1) hx hb dX10_layBytes_45 (by decide) ?_
  refine lv_iadd hx hb dX10_layBytes_46 ?_
  refine nq_top (z := 11) (by decide) ?_
  refine va_put (D := G) (ci := 10) (v := .int 11) (ty := .int) (C := RX10) (T := TX10) (N := 18) hx hb hts inX10 tyX10 tyX10_ok nmX10 hown hK.1 hP hD hS 0 rfl rfl 1 (by decide) (hts (.fieldLink RX10 114 "NestQuery" "tapeCount" "I") (by decide +kernel)) (fun _ h9 => h9) rfl (by decide +kernel) rfl rfl (Nat.le_of_ble_eq_true rfl) dX10_layBytes_47 (fun H locs hP hD hS => ?_)
  have hP : va_P G vwCl [(h0, .inr (10, [.ref tp, .int 11, .int (-1), .ref ps, .ref sp, .ref tk, .ref dr, .ref pr, .ref da, .ref nw, .ref im, .int 0, .ref ac, .ref ke, .ref si, .ref tx, .ref an, .ref dw])), (tp, .inl (y 0, 400, .inl (upd (upd (upd f 8 w_5) 9 w_10) 10 w_15)))] H := hP
  have hD : va_D A [(h0, .inr (10, [.ref tp, .int 11, .int (-1), .ref ps, .ref sp, .ref tk, .ref dr, .ref pr, .ref da, .ref nw, .ref im, .int 0, .ref ac, .ref ke, .ref si, .ref tx, .ref an, .ref dw])), (tp, .inl (y 0, 400, .inl (upd (upd (upd f 8 w_5) 9 w_10) 10 w_15)))] := hD
  refine lv_iinc (v := 0) (lv' := [(2, .int 0), (0, .ref h0), (1, .int a)]) hx hb dX10_layBytes_50 hl (k := 0) rfl (by decide) (by decide) rfl (fun ls hl => ?_)
  refine lv_goto (tgt := 3) hx hb dX10_layBytes_53 (by decide) ?_
  refine lv_iload_n hx hb dX10_layBytes_3 rfl (lv_at hl 0 rfl) ?_
  refine lv_if_lt (tgt := 56) hx hb dX10_layBytes_4 (by decide) (fun c_16 => absurd c_16 (by decide)) (fun _ => ?_)
  refine lv_aload_n hx hb dX10_layBytes_7 rfl (lv_at hl 1 rfl) ?_
  refine va_get (D := G) (ci := 10) (v := .int 11) (C := RX10) (T := TX10) (N := 18) hx hb hts inX10 hown hK.1 hP 0 rfl rfl 1 (by decide) (hts (.fieldLink RX10 114 "NestQuery" "tapeCount" "I") (by decide +kernel)) (fun _ h9 => h9) rfl dX10_layBytes_8 ?_
  refine lv_if_lt (tgt := 50) hx hb dX10_layBytes_11 (by decide) (fun c_17 => absurd c_17 (by decide)) (fun _ => ?_)
  refine lv_aload_n hx hb dX10_layBytes_14 rfl (lv_at hl 1 rfl) ?_
  refine va_get (D := G) (ci := 10) (v := .int 11) (C := RX10) (T := TX10) (N := 18) hx hb hts inX10 hown hK.1 hP 0 rfl rfl 1 (by decide) (hts (.fieldLink RX10 114 "NestQuery" "tapeCount" "I") (by decide +kernel)) (fun _ h9 => h9) rfl dX10_layBytes_15 ?_
  refine lv_sipush (v := 400) hx hb dX10_layBytes_18 (by decide) ?_
  refine lv_icmp_ge (tgt := 50) hx hb dX10_layBytes_21 (by decide) (fun c_18 => absurd c_18 (by decide)) (fun _ => ?_)
  refine lv_aload_n hx hb dX10_layBytes_24 rfl (lv_at hl 1 rfl) ?_
  refine va_get (D := G) (ci := 10) (v := .ref tp) (C := RX10) (T := TX10) (N := 18) hx hb hts inX10 hown hK.1 hP 0 rfl rfl 0 (by decide) (hts (.fieldLink RX10 9 "NestQuery" "tape" "[I") (by decide +kernel)) (fun _ h9 => h9) rfl dX10_layBytes_25 ?_
  refine lv_aload_n hx hb dX10_layBytes_28 rfl (lv_at hl 1 rfl) ?_
  refine va_get (D := G) (ci := 10) (v := .int 11) (C := RX10) (T := TX10) (N := 18) hx hb hts inX10 hown hK.1 hP 0 rfl rfl 1 (by decide) (hts (.fieldLink RX10 114 "NestQuery" "tapeCount" "I") (by decide +kernel)) (fun _ h9 => h9) rfl dX10_layBytes_29 ?_
  refine lv_iload_n hx hb dX10_layBytes_32 rfl (lv_at hl 2 rfl) ?_
  refine lv_iload_n hx hb dX10_layBytes_33 rfl (lv_at hl 0 rfl) ?_
  refine lv_iushr hx hb dX10_layBytes_34 rfl ?_
  refine lv_topi (fun w_19 _ => ?_)
  refine lv_sipush (v := 255) hx hb dX10_layBytes_35 (by decide) ?_
  refine lv_iand hx hb dX10_layBytes_38 ?_
  refine lv_topi (fun w_20 _ => ?_)
  refine va_iast hx hb hK.1 hP hD hS 1 0 rfl rfl (i := 11) (nq_in (by decide)) dX10_layBytes_39 (fun H locs hP hD hS => ?_)
  have hP : va_P G vwCl [(h0, .inr (10, [.ref tp, .int 11, .int (-1), .ref ps, .ref sp, .ref tk, .ref dr, .ref pr, .ref da, .ref nw, .ref im, .int 0, .ref ac, .ref ke, .ref si, .ref tx, .ref an, .ref dw])), (tp, .inl (y 0, 400, .inl (upd (upd (upd (upd f 8 w_5) 9 w_10) 10 w_15) 11 w_20)))] H := hP
  have hD : va_D A [(h0, .inr (10, [.ref tp, .int 11, .int (-1), .ref ps, .ref sp, .ref tk, .ref dr, .ref pr, .ref da, .ref nw, .ref im, .int 0, .ref ac, .ref ke, .ref si, .ref tx, .ref an, .ref dw])), (tp, .inl (y 0, 400, .inl (upd (upd (upd (upd f 8 w_5) 9 w_10) 10 w_15) 11 w_20)))] := hD
  refine lv_aload_n hx hb dX10_layBytes_40 rfl (lv_at hl 1 rfl) ?_
  refine lv_dup hx hb dX10_layBytes_41 rfl ?_
  refine va_get (D := G) (ci := 10) (v := .int 11) (C := RX10) (T := TX10) (N := 18) hx hb hts inX10 hown hK.1 hP 0 rfl rfl 1 (by decide) (hts (.fieldLink RX10 114 "NestQuery" "tapeCount" "I") (by decide +kernel)) (fun _ h9 => h9) rfl dX10_layBytes_42 ?_
  refine lv_iconst (v := 1) hx hb dX10_layBytes_45 (by decide) ?_
  refine lv_iadd hx hb dX10_layBytes_46 ?_
  refine nq_top (z := 12) (by decide) ?_
  refine va_put (D := G) (ci := 10) (v := .int 12) (ty := .int) (C := RX10) (T := TX10) (N := 18) hx hb hts inX10 tyX10 tyX10_ok nmX10 hown hK.1 hP hD hS 0 rfl rfl 1 (by decide) (hts (.fieldLink RX10 114 "NestQuery" "tapeCount" "I") (by decide +kernel)) (fun _ h9 => h9) rfl (by decide +kernel) rfl rfl (Nat.le_of_ble_eq_true rfl) dX10_layBytes_47 (fun H locs hP hD hS => ?_)
  have hP : va_P G vwCl [(h0, .inr (10, [.ref tp, .int 12, .int (-1), .ref ps, .ref sp, .ref tk, .ref dr, .ref pr, .ref da, .ref nw, .ref im, .int 0, .ref ac, .ref ke, .ref si, .ref tx, .ref an, .ref dw])), (tp, .inl (y 0, 400, .inl (upd (upd (upd (upd f 8 w_5) 9 w_10) 10 w_15) 11 w_20)))] H := hP
  have hD : va_D A [(h0, .inr (10, [.ref tp, .int 12, .int (-1), .ref ps, .ref sp, .ref tk, .ref dr, .ref pr, .ref da, .ref nw, .ref im, .int 0, .ref ac, .ref ke, .ref si, .ref tx, .ref an, .ref dw])), (tp, .inl (y 0, 400, .inl (upd (upd (upd (upd f 8 w_5) 9 w_10) 10 w_15) 11 w_20)))] := hD
  refine lv_iinc (v := (-8)) (lv' := [(2, .int (-8)), (0, .ref h0), (1, .int a)]) hx hb dX10_layBytes_50 hl (k := 0) rfl (by decide) (by decide) rfl (fun ls hl => ?_)
  refine lv_goto (tgt := 3) hx hb dX10_layBytes_53 (by decide) ?_
  refine lv_iload_n hx hb dX10_layBytes_3 rfl (lv_at hl 0 rfl) ?_
  refine lv_if_lt (tgt := 56) hx hb dX10_layBytes_4 (by decide) (fun _ => ?_) (fun c_21 => absurd c_21 (by decide))
  have hP9 := hP.sub (ws' := [(h0, .inr (10, [.ref tp, .int 12, .int (-1), .ref ps, .ref sp, .ref tk, .ref dr, .ref pr, .ref da, .ref nw, .ref im, .int 0, .ref ac, .ref ke, .ref si, .ref tx, .ref an, .ref dw])), (tp, .inl (y 0, 400, .inl (upd (upd (upd (upd f 8 w_5) 9 w_10) 10 w_15) 11 w_20)))]) [0, 1] rfl
  have hD9 := hD.sub (ws' := [(h0, .inr (10, [.ref tp, .int 12, .int (-1), .ref ps, .ref sp, .ref tk, .ref dr, .ref pr, .ref da, .ref nw, .ref im, .int 0, .ref ac, .ref ke, .ref si, .ref tx, .ref an, .ref dw])), (tp, .inl (y 0, 400, .inl (upd (upd (upd (upd f 8 w_5) 9 w_10) 10 w_15) 11 w_20)))]) [0, 1] (by decide) rfl
  refine W.widen (k := 0) (n := 0) (Nat.le_of_ble_eq_true rfl) (Nat.le_of_ble_eq_true rfl) ?_
  exact W.vret hx hb hr (fun t ht hW => ⟨⟨(upd (upd (upd (upd f 8 w_5) 9 w_10) 10 w_15) 11 w_20), rfl, trivial, by rw [ht]; exact hP9, by first | exact hD9 | (rw [hAe]; exact hD9)⟩, hS.F ht⟩) hS.2.2 dX10_layBytes_56

set_option maxHeartbeats 4000000 in
set_option maxRecDepth 100000 in
theorem c_layBytes12 (l : Launch) (G : va_G) (y : Nat → ClassId) (sz : Nat) (h0 : Nat) (tp : Nat) (ps : Nat) (sp : Nat) (tk : Nat) (dr : Nat) (pr : Nat) (da : Nat) (nw : Nat) (im : Nat) (ac : Nat) (ke : Nat) (si : Nat) (tx : Nat) (an : Nat) (dw : Nat) (f : Nat → Int32) (a : Int32)  : Met l yX10_layBytes wsX10_layBytes ({ frames := 0, cells := 0, slots := 0, locals := 0 }) (nq_P G y sz [.ref h0, .int a] [(h0, .inr (10, [.ref tp, .int 12, .int (-1), .ref ps, .ref sp, .ref tk, .ref dr, .ref pr, .ref da, .ref nw, .ref im, .int 0, .ref ac, .ref ke, .ref si, .ref tx, .ref an, .ref dw])), (tp, .inl (y 0, 400, .inl f))]) (va_Qv (fun (_ : Nat → Int32) => True) (fun (u : Nat → Int32) t9 => va_P G vwCl ([(h0, .inr (10, [.ref tp, .int 16, .int (-1), .ref ps, .ref sp, .ref tk, .ref dr, .ref pr, .ref da, .ref nw, .ref im, .int 0, .ref ac, .ref ke, .ref si, .ref tx, .ref an, .ref dw])), (tp, .inl (y 0, 400, .inl u))]) t9.heap ∧ va_D (va_A [(h0, .inr (10, [.ref tp, .int 12, .int (-1), .ref ps, .ref sp, .ref tk, .ref dr, .ref pr, .ref da, .ref nw, .ref im, .int 0, .ref ac, .ref ke, .ref si, .ref tx, .ref an, .ref dw])), (tp, .inl (y 0, 400, .inl f))] sz) ([(h0, .inr (10, [.ref tp, .int 16, .int (-1), .ref ps, .ref sp, .ref tk, .ref dr, .ref pr, .ref da, .ref nw, .ref im, .int 0, .ref ac, .ref ke, .ref si, .ref tx, .ref an, .ref dw])), (tp, .inl (y 0, 400, .inl u))])) (va_A [(h0, .inr (10, [.ref tp, .int 12, .int (-1), .ref ps, .ref sp, .ref tk, .ref dr, .ref pr, .ref da, .ref nw, .ref im, .int 0, .ref ac, .ref ke, .ref si, .ref tx, .ref an, .ref dw])), (tp, .inl (y 0, 400, .inl f))] sz)) 0 0 (va_A [(h0, .inr (10, [.ref tp, .int 12, .int (-1), .ref ps, .ref sp, .ref tk, .ref dr, .ref pr, .ref da, .ref nw, .ref im, .int 0, .ref ac, .ref ke, .ref si, .ref tx, .ref an, .ref dw])), (tp, .inl (y 0, 400, .inl f))] sz) := by
  refine Met.ofW (cc := cX10_layBytes) (maxL := 3) (ret := none) (by decide) rfl ?_
  intro p e s m args below meth c s₁ B hml hv
  obtain ⟨rfl, hsz, hP, hK, hD0⟩ := hv
  have hx := B.exec
  have hb := B.bytes
  have hr := B.returns
  have hts := atoms_spec (ws := wsX10_layBytes) B.pre
  have hown : s.vm.findClass RX10 = some m.cls := findClass_of_methodNamed B.named
  have hlocks := B.notSynchronized
  subst hsz
  have hD := hD0.self (sz := s.heap.size)
  generalize hAe : va_A [(h0, .inr (10, [.ref tp, .int 12, .int (-1), .ref ps, .ref sp, .ref tk, .ref dr, .ref pr, .ref da, .ref nw, .ref im, .int 0, .ref ac, .ref ke, .ref si, .ref tx, .ref an, .ref dw])), (tp, .inl (y 0, 400, .inl f))] s.heap.size = A at hD ⊢
  have hA : ∀ q : Nat, s.heap.size ≤ q → A q := fun q h => by rw [← hAe]; exact Or.inr h
  have hS : va_S A s.heap s.heap [] := va_S.rf
  have hP : va_P G vwCl [(h0, .inr (10, [.ref tp, .int 12, .int (-1), .ref ps, .ref sp, .ref tk, .ref dr, .ref pr, .ref da, .ref nw, .ref im, .int 0, .ref ac, .ref ke, .ref si, .ref tx, .ref an, .ref dw])), (tp, .inl (y 0, 400, .inl f))] s.heap := hP
  have inX10 : ∀ w ∈ wsX100, w ∈ wsX10_layBytes := by decide +kernel
  have hl := lv_entry ([.ref h0, .int a]) (n := 3) (Nat.le_of_ble_eq_true rfl)
  rw [lg_entry_eq]
  generalize (lg_sl ([.ref h0, .int a]) ++ List.replicate (3 - (lg_sl ([.ref h0, .int a])).length) Slot.unset).toArray = ls at hl ⊢
  have hl : lv_has ls 3 [(0, .ref h0), (1, .int a)] := hl
  refine lv_bipush (v := 24) hx hb dX10_layBytes_0 (by decide) ?_
  refine lv_istore_n (lv' := [(2, .int 24), (0, .ref h0), (1, .int a)]) hx hb dX10_layBytes_2 rfl hl (by decide) rfl (fun ls hl => ?_)
  refine lv_iload_n hx hb dX10_layBytes_3 rfl (lv_at hl 0 rfl) ?_
  refine lv_if_lt (tgt := 56) hx hb dX10_layBytes_4 (by decide) (fun c_1 => absurd c_1 (by decide)) (fun _ => ?_)
  refine lv_aload_n hx hb dX10_layBytes_7 rfl (lv_at hl 1 rfl) ?_
  refine va_get (D := G) (ci := 10) (v := .int 12) (C := RX10) (T := TX10) (N := 18) hx hb hts inX10 hown hK.1 hP 0 rfl rfl 1 (by decide) (hts (.fieldLink RX10 114 "NestQuery" "tapeCount" "I") (by decide +kernel)) (fun _ h9 => h9) rfl dX10_layBytes_8 ?_
  refine lv_if_lt (tgt := 50) hx hb dX10_layBytes_11 (by decide) (fun c_2 => absurd c_2 (by decide)) (fun _ => ?_)
  refine lv_aload_n hx hb dX10_layBytes_14 rfl (lv_at hl 1 rfl) ?_
  refine va_get (D := G) (ci := 10) (v := .int 12) (C := RX10) (T := TX10) (N := 18) hx hb hts inX10 hown hK.1 hP 0 rfl rfl 1 (by decide) (hts (.fieldLink RX10 114 "NestQuery" "tapeCount" "I") (by decide +kernel)) (fun _ h9 => h9) rfl dX10_layBytes_15 ?_
  refine lv_sipush (v := 400) hx hb dX10_layBytes_18 (by decide) ?_
  refine lv_icmp_ge (tgt := 50) hx hb dX10_layBytes_21 (by decide) (fun c_3 => absurd c_3 (by decide)) (fun _ => ?_)
  refine lv_aload_n hx hb dX10_layBytes_24 rfl (lv_at hl 1 rfl) ?_
  refine va_get (D := G) (ci := 10) (v := .ref tp) (C := RX10) (T := TX10) (N := 18) hx hb hts inX10 hown hK.1 hP 0 rfl rfl 0 (by decide) (hts (.fieldLink RX10 9 "NestQuery" "tape" "[I") (by decide +kernel)) (fun _ h9 => h9) rfl dX10_layBytes_25 ?_
  refine lv_aload_n hx hb dX10_layBytes_28 rfl (lv_at hl 1 rfl) ?_
  refine va_get (D := G) (ci := 10) (v := .int 12) (C := RX10) (T := TX10) (N := 18) hx hb hts inX10 hown hK.1 hP 0 rfl rfl 1 (by decide) (hts (.fieldLink RX10 114 "NestQuery" "tapeCount" "I") (by decide +kernel)) (fun _ h9 => h9) rfl dX10_layBytes_29 ?_
  refine lv_iload_n hx hb dX10_layBytes_32 rfl (lv_at hl 2 rfl) ?_
  refine lv_iload_n hx hb dX10_layBytes_33 rfl (lv_at hl 0 rfl) ?_
  refine lv_iushr hx hb dX10_layBytes_34 rfl ?_
  refine lv_topi (fun w_4 _ => ?_)
  refine lv_sipush (v := 255) hx hb dX10_layBytes_35 (by decide) ?_
  refine lv_iand hx hb dX10_layBytes_38 ?_
  refine lv_topi (fun w_5 _ => ?_)
  refine va_iast hx hb hK.1 hP hD hS 1 0 rfl rfl (i := 12) (nq_in (by decide)) dX10_layBytes_39 (fun H locs hP hD hS => ?_)
  have hP : va_P G vwCl [(h0, .inr (10, [.ref tp, .int 12, .int (-1), .ref ps, .ref sp, .ref tk, .ref dr, .ref pr, .ref da, .ref nw, .ref im, .int 0, .ref ac, .ref ke, .ref si, .ref tx, .ref an, .ref dw])), (tp, .inl (y 0, 400, .inl (upd f 12 w_5)))] H := hP
  have hD : va_D A [(h0, .inr (10, [.ref tp, .int 12, .int (-1), .ref ps, .ref sp, .ref tk, .ref dr, .ref pr, .ref da, .ref nw, .ref im, .int 0, .ref ac, .ref ke, .ref si, .ref tx, .ref an, .ref dw])), (tp, .inl (y 0, 400, .inl (upd f 12 w_5)))] := hD
  refine lv_aload_n hx hb dX10_layBytes_40 rfl (lv_at hl 1 rfl) ?_
  refine lv_dup hx hb dX10_layBytes_41 rfl ?_
  refine va_get (D := G) (ci := 10) (v := .int 12) (C := RX10) (T := TX10) (N := 18) hx hb hts inX10 hown hK.1 hP 0 rfl rfl 1 (by decide) (hts (.fieldLink RX10 114 "NestQuery" "tapeCount" "I") (by decide +kernel)) (fun _ h9 => h9) rfl dX10_layBytes_42 ?_
  refine lv_iconst (v := 1) hx hb dX10_layBytes_45 (by decide) ?_
  refine lv_iadd hx hb dX10_layBytes_46 ?_
  refine nq_top (z := 13) (by decide) ?_
  refine va_put (D := G) (ci := 10) (v := .int 13) (ty := .int) (C := RX10) (T := TX10) (N := 18) hx hb hts inX10 tyX10 tyX10_ok nmX10 hown hK.1 hP hD hS 0 rfl rfl 1 (by decide) (hts (.fieldLink RX10 114 "NestQuery" "tapeCount" "I") (by decide +kernel)) (fun _ h9 => h9) rfl (by decide +kernel) rfl rfl (Nat.le_of_ble_eq_true rfl) dX10_layBytes_47 (fun H locs hP hD hS => ?_)
  have hP : va_P G vwCl [(h0, .inr (10, [.ref tp, .int 13, .int (-1), .ref ps, .ref sp, .ref tk, .ref dr, .ref pr, .ref da, .ref nw, .ref im, .int 0, .ref ac, .ref ke, .ref si, .ref tx, .ref an, .ref dw])), (tp, .inl (y 0, 400, .inl (upd f 12 w_5)))] H := hP
  have hD : va_D A [(h0, .inr (10, [.ref tp, .int 13, .int (-1), .ref ps, .ref sp, .ref tk, .ref dr, .ref pr, .ref da, .ref nw, .ref im, .int 0, .ref ac, .ref ke, .ref si, .ref tx, .ref an, .ref dw])), (tp, .inl (y 0, 400, .inl (upd f 12 w_5)))] := hD
  refine lv_iinc (v := 16) (lv' := [(2, .int 16), (0, .ref h0), (1, .int a)]) hx hb dX10_layBytes_50 hl (k := 0) rfl (by decide) (by decide) rfl (fun ls hl => ?_)
  refine lv_goto (tgt := 3) hx hb dX10_layBytes_53 (by decide) ?_
  refine lv_iload_n hx hb dX10_layBytes_3 rfl (lv_at hl 0 rfl) ?_
  refine lv_if_lt (tgt := 56) hx hb dX10_layBytes_4 (by decide) (fun c_6 => absurd c_6 (by decide)) (fun _ => ?_)
  refine lv_aload_n hx hb dX10_layBytes_7 rfl (lv_at hl 1 rfl) ?_
  refine va_get (D := G) (ci := 10) (v := .int 13) (C := RX10) (T := TX10) (N := 18) hx hb hts inX10 hown hK.1 hP 0 rfl rfl 1 (by decide) (hts (.fieldLink RX10 114 "NestQuery" "tapeCount" "I") (by decide +kernel)) (fun _ h9 => h9) rfl dX10_layBytes_8 ?_
  refine lv_if_lt (tgt := 50) hx hb dX10_layBytes_11 (by decide) (fun c_7 => absurd c_7 (by decide)) (fun _ => ?_)
  refine lv_aload_n hx hb dX10_layBytes_14 rfl (lv_at hl 1 rfl) ?_
  refine va_get (D := G) (ci := 10) (v := .int 13) (C := RX10) (T := TX10) (N := 18) hx hb hts inX10 hown hK.1 hP 0 rfl rfl 1 (by decide) (hts (.fieldLink RX10 114 "NestQuery" "tapeCount" "I") (by decide +kernel)) (fun _ h9 => h9) rfl dX10_layBytes_15 ?_
  refine lv_sipush (v := 400) hx hb dX10_layBytes_18 (by decide) ?_
  refine lv_icmp_ge (tgt := 50) hx hb dX10_layBytes_21 (by decide) (fun c_8 => absurd c_8 (by decide)) (fun _ => ?_)
  refine lv_aload_n hx hb dX10_layBytes_24 rfl (lv_at hl 1 rfl) ?_
  refine va_get (D := G) (ci := 10) (v := .ref tp) (C := RX10) (T := TX10) (N := 18) hx hb hts inX10 hown hK.1 hP 0 rfl rfl 0 (by decide) (hts (.fieldLink RX10 9 "NestQuery" "tape" "[I") (by decide +kernel)) (fun _ h9 => h9) rfl dX10_layBytes_25 ?_
  refine lv_aload_n hx hb dX10_layBytes_28 rfl (lv_at hl 1 rfl) ?_
  refine va_get (D := G) (ci := 10) (v := .int 13) (C := RX10) (T := TX10) (N := 18) hx hb hts inX10 hown hK.1 hP 0 rfl rfl 1 (by decide) (hts (.fieldLink RX10 114 "NestQuery" "tapeCount" "I") (by decide +kernel)) (fun _ h9 => h9) rfl dX10_layBytes_29 ?_
  refine lv_iload_n hx hb dX10_layBytes_32 rfl (lv_at hl 2 rfl) ?_
  refine lv_iload_n hx hb dX10_layBytes_33 rfl (lv_at hl 0 rfl) ?_
  refine lv_iushr hx hb dX10_layBytes_34 rfl ?_
  refine lv_topi (fun w_9 _ => ?_)
  refine lv_sipush (v := 255) hx hb dX10_layBytes_35 (by decide) ?_
  refine lv_iand hx hb dX10_layBytes_38 ?_
  refine lv_topi (fun w_10 _ => ?_)
  refine va_iast hx hb hK.1 hP hD hS 1 0 rfl rfl (i := 13) (nq_in (by decide)) dX10_layBytes_39 (fun H locs hP hD hS => ?_)
  have hP : va_P G vwCl [(h0, .inr (10, [.ref tp, .int 13, .int (-1), .ref ps, .ref sp, .ref tk, .ref dr, .ref pr, .ref da, .ref nw, .ref im, .int 0, .ref ac, .ref ke, .ref si, .ref tx, .ref an, .ref dw])), (tp, .inl (y 0, 400, .inl (upd (upd f 12 w_5) 13 w_10)))] H := hP
  have hD : va_D A [(h0, .inr (10, [.ref tp, .int 13, .int (-1), .ref ps, .ref sp, .ref tk, .ref dr, .ref pr, .ref da, .ref nw, .ref im, .int 0, .ref ac, .ref ke, .ref si, .ref tx, .ref an, .ref dw])), (tp, .inl (y 0, 400, .inl (upd (upd f 12 w_5) 13 w_10)))] := hD
  refine lv_aload_n hx hb dX10_layBytes_40 rfl (lv_at hl 1 rfl) ?_
  refine lv_dup hx hb dX10_layBytes_41 rfl ?_
  refine va_get (D := G) (ci := 10) (v := .int 13) (C := RX10) (T := TX10) (N := 18) hx hb hts inX10 hown hK.1 hP 0 rfl rfl 1 (by decide) (hts (.fieldLink RX10 114 "NestQuery" "tapeCount" "I") (by decide +kernel)) (fun _ h9 => h9) rfl dX10_layBytes_42 ?_
  refine lv_iconst (v := 1) hx hb dX10_layBytes_45 (by decide) ?_
  refine lv_iadd hx hb dX10_layBytes_46 ?_
  refine nq_top (z := 14) (by decide) ?_
  refine va_put (D := G) (ci := 10) (v := .int 14) (ty := .int) (C := RX10) (T := TX10) (N := 18) hx hb hts inX10 tyX10 tyX10_ok nmX10 hown hK.1 hP hD hS 0 rfl rfl 1 (by decide) (hts (.fieldLink RX10 114 "NestQuery" "tapeCount" "I") (by decide +kernel)) (fun _ h9 => h9) rfl (by decide +kernel) rfl rfl (Nat.le_of_ble_eq_true rfl) dX10_layBytes_47 (fun H locs hP hD hS => ?_)
  have hP : va_P G vwCl [(h0, .inr (10, [.ref tp, .int 14, .int (-1), .ref ps, .ref sp, .ref tk, .ref dr, .ref pr, .ref da, .ref nw, .ref im, .int 0, .ref ac, .ref ke, .ref si, .ref tx, .ref an, .ref dw])), (tp, .inl (y 0, 400, .inl (upd (upd f 12 w_5) 13 w_10)))] H := hP
  have hD : va_D A [(h0, .inr (10, [.ref tp, .int 14, .int (-1), .ref ps, .ref sp, .ref tk, .ref dr, .ref pr, .ref da, .ref nw, .ref im, .int 0, .ref ac, .ref ke, .ref si, .ref tx, .ref an, .ref dw])), (tp, .inl (y 0, 400, .inl (upd (upd f 12 w_5) 13 w_10)))] := hD
  refine lv_iinc (v := 8) (lv' := [(2, .int 8), (0, .ref h0), (1, .int a)]) hx hb dX10_layBytes_50 hl (k := 0) rfl (by decide) (by decide) rfl (fun ls hl => ?_)
  refine lv_goto (tgt := 3) hx hb dX10_layBytes_53 (by decide) ?_
  refine lv_iload_n hx hb dX10_layBytes_3 rfl (lv_at hl 0 rfl) ?_
  refine lv_if_lt (tgt := 56) hx hb dX10_layBytes_4 (by decide) (fun c_11 => absurd c_11 (by decide)) (fun _ => ?_)
  refine lv_aload_n hx hb dX10_layBytes_7 rfl (lv_at hl 1 rfl) ?_
  refine va_get (D := G) (ci := 10) (v := .int 14) (C := RX10) (T := TX10) (N := 18) hx hb hts inX10 hown hK.1 hP 0 rfl rfl 1 (by decide) (hts (.fieldLink RX10 114 "NestQuery" "tapeCount" "I") (by decide +kernel)) (fun _ h9 => h9) rfl dX10_layBytes_8 ?_
  refine lv_if_lt (tgt := 50) hx hb dX10_layBytes_11 (by decide) (fun c_12 => absurd c_12 (by decide)) (fun _ => ?_)
  refine lv_aload_n hx hb dX10_layBytes_14 rfl (lv_at hl 1 rfl) ?_
  refine va_get (D := G) (ci := 10) (v := .int 14) (C := RX10) (T := TX10) (N := 18) hx hb hts inX10 hown hK.1 hP 0 rfl rfl 1 (by decide) (hts (.fieldLink RX10 114 "NestQuery" "tapeCount" "I") (by decide +kernel)) (fun _ h9 => h9) rfl dX10_layBytes_15 ?_
  refine lv_sipush (v := 400) hx hb dX10_layBytes_18 (by decide) ?_
  refine lv_icmp_ge (tgt := 50) hx hb dX10_layBytes_21 (by decide) (fun c_13 => absurd c_13 (by decide)) (fun _ => ?_)
  refine lv_aload_n hx hb dX10_layBytes_24 rfl (lv_at hl 1 rfl) ?_
  refine va_get (D := G) (ci := 10) (v := .ref tp) (C := RX10) (T := TX10) (N := 18) hx hb hts inX10 hown hK.1 hP 0 rfl rfl 0 (by decide) (hts (.fieldLink RX10 9 "NestQuery" "tape" "[I") (by decide +kernel)) (fun _ h9 => h9) rfl dX10_layBytes_25 ?_
  refine lv_aload_n hx hb dX10_layBytes_28 rfl (lv_at hl 1 rfl) ?_
  refine va_get (D := G) (ci := 10) (v := .int 14) (C := RX10) (T := TX10) (N := 18) hx hb hts inX10 hown hK.1 hP 0 rfl rfl 1 (by decide) (hts (.fieldLink RX10 114 "NestQuery" "tapeCount" "I") (by decide +kernel)) (fun _ h9 => h9) rfl dX10_layBytes_29 ?_
  refine lv_iload_n hx hb dX10_layBytes_32 rfl (lv_at hl 2 rfl) ?_
  refine lv_iload_n hx hb dX10_layBytes_33 rfl (lv_at hl 0 rfl) ?_
  refine lv_iushr hx hb dX10_layBytes_34 rfl ?_
  refine lv_topi (fun w_14 _ => ?_)
  refine lv_sipush (v := 255) hx hb dX10_layBytes_35 (by decide) ?_
  refine lv_iand hx hb dX10_layBytes_38 ?_
  refine lv_topi (fun w_15 _ => ?_)
  refine va_iast hx hb hK.1 hP hD hS 1 0 rfl rfl (i := 14) (nq_in (by decide)) dX10_layBytes_39 (fun H locs hP hD hS => ?_)
  have hP : va_P G vwCl [(h0, .inr (10, [.ref tp, .int 14, .int (-1), .ref ps, .ref sp, .ref tk, .ref dr, .ref pr, .ref da, .ref nw, .ref im, .int 0, .ref ac, .ref ke, .ref si, .ref tx, .ref an, .ref dw])), (tp, .inl (y 0, 400, .inl (upd (upd (upd f 12 w_5) 13 w_10) 14 w_15)))] H := hP
  have hD : va_D A [(h0, .inr (10, [.ref tp, .int 14, .int (-1), .ref ps, .ref sp, .ref tk, .ref dr, .ref pr, .ref da, .ref nw, .ref im, .int 0, .ref ac, .ref ke, .ref si, .ref tx, .ref an, .ref dw])), (tp, .inl (y 0, 400, .inl (upd (upd (upd f 12 w_5) 13 w_10) 14 w_15)))] := hD
  refine lv_aload_n hx hb dX10_layBytes_40 rfl (lv_at hl 1 rfl) ?_
  refine lv_dup hx hb dX10_layBytes_41 rfl ?_
  refine va_get (D := G) (ci := 10) (v := .int 14) (C := RX10) (T := TX10) (N := 18) hx hb hts inX10 hown hK.1 hP 0 rfl rfl 1 (by decide) (hts (.fieldLink RX10 114 "NestQuery" "tapeCount" "I") (by decide +kernel)) (fun _ h9 => h9) rfl dX10_layBytes_42 ?_
  refine lv_iconst (v := 1) hx hb dX10_layBytes_45 (by decide) ?_
  refine lv_iadd hx hb dX10_layBytes_46 ?_
  refine nq_top (z := 15) (by decide) ?_
  refine va_put (D := G) (ci := 10) (v := .int 15) (ty := .int) (C := RX10) (T := TX10) (N := 18) hx hb hts inX10 tyX10 tyX10_ok nmX10 hown hK.1 hP hD hS 0 rfl rfl 1 (by decide) (hts (.fieldLink RX10 114 "NestQuery" "tapeCount" "I") (by decide +kernel)) (fun _ h9 => h9) rfl (by decide +kernel) rfl rfl (Nat.le_of_ble_eq_true rfl) dX10_layBytes_47 (fun H locs hP hD hS => ?_)
  have hP : va_P G vwCl [(h0, .inr (10, [.ref tp, .int 15, .int (-1), .ref ps, .ref sp, .ref tk, .ref dr, .ref pr, .ref da, .ref nw, .ref im, .int 0, .ref ac, .ref ke, .ref si, .ref tx, .ref an, .ref dw])), (tp, .inl (y 0, 400, .inl (upd (upd (upd f 12 w_5) 13 w_10) 14 w_15)))] H := hP
  have hD : va_D A [(h0, .inr (10, [.ref tp, .int 15, .int (-1), .ref ps, .ref sp, .ref tk, .ref dr, .ref pr, .ref da, .ref nw, .ref im, .int 0, .ref ac, .ref ke, .ref si, .ref tx, .ref an, .ref dw])), (tp, .inl (y 0, 400, .inl (upd (upd (upd f 12 w_5) 13 w_10) 14 w_15)))] := hD
  refine lv_iinc (v := 0) (lv' := [(2, .int 0), (0, .ref h0), (1, .int a)]) hx hb dX10_layBytes_50 hl (k := 0) rfl (by decide) (by decide) rfl (fun ls hl => ?_)
  refine lv_goto (tgt := 3) hx hb dX10_layBytes_53 (by decide) ?_
  refine lv_iload_n hx hb dX10_layBytes_3 rfl (lv_at hl 0 rfl) ?_
  refine lv_if_lt (tgt := 56) hx hb dX10_layBytes_4 (by decide) (fun c_16 => absurd c_16 (by decide)) (fun _ => ?_)
  refine lv_aload_n hx hb dX10_layBytes_7 rfl (lv_at hl 1 rfl) ?_
  refine va_get (D := G) (ci := 10) (v := .int 15) (C := RX10) (T := TX10) (N := 18) hx hb hts inX10 hown hK.1 hP 0 rfl rfl 1 (by decide) (hts (.fieldLink RX10 114 "NestQuery" "tapeCount" "I") (by decide +kernel)) (fun _ h9 => h9) rfl dX10_layBytes_8 ?_
  refine lv_if_lt (tgt := 50) hx hb dX10_layBytes_11 (by decide) (fun c_17 => absurd c_17 (by decide)) (fun _ => ?_)
  refine lv_aload_n hx hb dX10_layBytes_14 rfl (lv_at hl 1 rfl) ?_
  refine va_get (D := G) (ci := 10) (v := .int 15) (C := RX10) (T := TX10) (N := 18) hx hb hts inX10 hown hK.1 hP 0 rfl rfl 1 (by decide) (hts (.fieldLink RX10 114 "NestQuery" "tapeCount" "I") (by decide +kernel)) (fun _ h9 => h9) rfl dX10_layBytes_15 ?_
  refine lv_sipush (v := 400) hx hb dX10_layBytes_18 (by decide) ?_
  refine lv_icmp_ge (tgt := 50) hx hb dX10_layBytes_21 (by decide) (fun c_18 => absurd c_18 (by decide)) (fun _ => ?_)
  refine lv_aload_n hx hb dX10_layBytes_24 rfl (lv_at hl 1 rfl) ?_
  refine va_get (D := G) (ci := 10) (v := .ref tp) (C := RX10) (T := TX10) (N := 18) hx hb hts inX10 hown hK.1 hP 0 rfl rfl 0 (by decide) (hts (.fieldLink RX10 9 "NestQuery" "tape" "[I") (by decide +kernel)) (fun _ h9 => h9) rfl dX10_layBytes_25 ?_
  refine lv_aload_n hx hb dX10_layBytes_28 rfl (lv_at hl 1 rfl) ?_
  refine va_get (D := G) (ci := 10) (v := .int 15) (C := RX10) (T := TX10) (N := 18) hx hb hts inX10 hown hK.1 hP 0 rfl rfl 1 (by decide) (hts (.fieldLink RX10 114 "NestQuery" "tapeCount" "I") (by decide +kernel)) (fun _ h9 => h9) rfl dX10_layBytes_29 ?_
  refine lv_iload_n hx hb dX10_layBytes_32 rfl (lv_at hl 2 rfl) ?_
  refine lv_iload_n hx hb dX10_layBytes_33 rfl (lv_at hl 0 rfl) ?_
  refine lv_iushr hx hb dX10_layBytes_34 rfl ?_
  refine lv_topi (fun w_19 _ => ?_)
  refine lv_sipush (v := 255) hx hb dX10_layBytes_35 (by decide) ?_
  refine lv_iand hx hb dX10_layBytes_38 ?_
  refine lv_topi (fun w_20 _ => ?_)
  refine va_iast hx hb hK.1 hP hD hS 1 0 rfl rfl (i := 15) (nq_in (by decide)) dX10_layBytes_39 (fun H locs hP hD hS => ?_)
  have hP : va_P G vwCl [(h0, .inr (10, [.ref tp, .int 15, .int (-1), .ref ps, .ref sp, .ref tk, .ref dr, .ref pr, .ref da, .ref nw, .ref im, .int 0, .ref ac, .ref ke, .ref si, .ref tx, .ref an, .ref dw])), (tp, .inl (y 0, 400, .inl (upd (upd (upd (upd f 12 w_5) 13 w_10) 14 w_15) 15 w_20)))] H := hP
  have hD : va_D A [(h0, .inr (10, [.ref tp, .int 15, .int (-1), .ref ps, .ref sp, .ref tk, .ref dr, .ref pr, .ref da, .ref nw, .ref im, .int 0, .ref ac, .ref ke, .ref si, .ref tx, .ref an, .ref dw])), (tp, .inl (y 0, 400, .inl (upd (upd (upd (upd f 12 w_5) 13 w_10) 14 w_15) 15 w_20)))] := hD
  refine lv_aload_n hx hb dX10_layBytes_40 rfl (lv_at hl 1 rfl) ?_
  refine lv_dup hx hb dX10_layBytes_41 rfl ?_
  refine va_get (D := G) (ci := 10) (v := .int 15) (C := RX10) (T := TX10) (N := 18) hx hb hts inX10 hown hK.1 hP 0 rfl rfl 1 (by decide) (hts (.fieldLink RX10 114 "NestQuery" "tapeCount" "I") (by decide +kernel)) (fun _ h9 => h9) rfl dX10_layBytes_42 ?_
  refine lv_iconst (v := 1) hx hb dX10_layBytes_45 (by decide) ?_
  refine lv_iadd hx hb dX10_layBytes_46 ?_
  refine nq_top (z := 16) (by decide) ?_
  refine va_put (D := G) (ci := 10) (v := .int 16) (ty := .int) (C := RX10) (T := TX10) (N := 18) hx hb hts inX10 tyX10 tyX10_ok nmX10 hown hK.1 hP hD hS 0 rfl rfl 1 (by decide) (hts (.fieldLink RX10 114 "NestQuery" "tapeCount" "I") (by decide +kernel)) (fun _ h9 => h9) rfl (by decide +kernel) rfl rfl (Nat.le_of_ble_eq_true rfl) dX10_layBytes_47 (fun H locs hP hD hS => ?_)
  have hP : va_P G vwCl [(h0, .inr (10, [.ref tp, .int 16, .int (-1), .ref ps, .ref sp, .ref tk, .ref dr, .ref pr, .ref da, .ref nw, .ref im, .int 0, .ref ac, .ref ke, .ref si, .ref tx, .ref an, .ref dw])), (tp, .inl (y 0, 400, .inl (upd (upd (upd (upd f 12 w_5) 13 w_10) 14 w_15) 15 w_20)))] H := hP
  have hD : va_D A [(h0, .inr (10, [.ref tp, .int 16, .int (-1), .ref ps, .ref sp, .ref tk, .ref dr, .ref pr, .ref da, .ref nw, .ref im, .int 0, .ref ac, .ref ke, .ref si, .ref tx, .ref an, .ref dw])), (tp, .inl (y 0, 400, .inl (upd (upd (upd (upd f 12 w_5) 13 w_10) 14 w_15) 15 w_20)))] := hD
  refine lv_iinc (v := (-8)) (lv' := [(2, .int (-8)), (0, .ref h0), (1, .int a)]) hx hb dX10_layBytes_50 hl (k := 0) rfl (by decide) (by decide) rfl (fun ls hl => ?_)
  refine lv_goto (tgt := 3) hx hb dX10_layBytes_53 (by decide) ?_
  refine lv_iload_n hx hb dX10_layBytes_3 rfl (lv_at hl 0 rfl) ?_
  refine lv_if_lt (tgt := 56) hx hb dX10_layBytes_4 (by decide) (fun _ => ?_) (fun c_21 => absurd c_21 (by decide))
  have hP9 := hP.sub (ws' := [(h0, .inr (10, [.ref tp, .int 16, .int (-1), .ref ps, .ref sp, .ref tk, .ref dr, .ref pr, .ref da, .ref nw, .ref im, .int 0, .ref ac, .ref ke, .ref si, .ref tx, .ref an, .ref dw])), (tp, .inl (y 0, 400, .inl (upd (upd (upd (upd f 12 w_5) 13 w_10) 14 w_15) 15 w_20)))]) [0, 1] rfl
  have hD9 := hD.sub (ws' := [(h0, .inr (10, [.ref tp, .int 16, .int (-1), .ref ps, .ref sp, .ref tk, .ref dr, .ref pr, .ref da, .ref nw, .ref im, .int 0, .ref ac, .ref ke, .ref si, .ref tx, .ref an, .ref dw])), (tp, .inl (y 0, 400, .inl (upd (upd (upd (upd f 12 w_5) 13 w_10) 14 w_15) 15 w_20)))]) [0, 1] (by decide) rfl
  refine W.widen (k := 0) (n := 0) (Nat.le_of_ble_eq_true rfl) (Nat.le_of_ble_eq_true rfl) ?_
  exact W.vret hx hb hr (fun t ht hW => ⟨⟨(upd (upd (upd (upd f 12 w_5) 13 w_10) 14 w_15) 15 w_20), rfl, trivial, by rw [ht]; exact hP9, by first | exact hD9 | (rw [hAe]; exact hD9)⟩, hS.F ht⟩) hS.2.2 dX10_layBytes_56

set_option maxHeartbeats 4000000 in
set_option maxRecDepth 100000 in
theorem c_layBytes16 (l : Launch) (G : va_G) (y : Nat → ClassId) (sz : Nat) (h0 : Nat) (tp : Nat) (ps : Nat) (sp : Nat) (tk : Nat) (dr : Nat) (pr : Nat) (da : Nat) (nw : Nat) (im : Nat) (ac : Nat) (ke : Nat) (si : Nat) (tx : Nat) (an : Nat) (dw : Nat) (f : Nat → Int32) (a : Int32)  : Met l yX10_layBytes wsX10_layBytes ({ frames := 0, cells := 0, slots := 0, locals := 0 }) (nq_P G y sz [.ref h0, .int a] [(h0, .inr (10, [.ref tp, .int 16, .int (-1), .ref ps, .ref sp, .ref tk, .ref dr, .ref pr, .ref da, .ref nw, .ref im, .int 0, .ref ac, .ref ke, .ref si, .ref tx, .ref an, .ref dw])), (tp, .inl (y 0, 400, .inl f))]) (va_Qv (fun (_ : Nat → Int32) => True) (fun (u : Nat → Int32) t9 => va_P G vwCl ([(h0, .inr (10, [.ref tp, .int 20, .int (-1), .ref ps, .ref sp, .ref tk, .ref dr, .ref pr, .ref da, .ref nw, .ref im, .int 0, .ref ac, .ref ke, .ref si, .ref tx, .ref an, .ref dw])), (tp, .inl (y 0, 400, .inl u))]) t9.heap ∧ va_D (va_A [(h0, .inr (10, [.ref tp, .int 16, .int (-1), .ref ps, .ref sp, .ref tk, .ref dr, .ref pr, .ref da, .ref nw, .ref im, .int 0, .ref ac, .ref ke, .ref si, .ref tx, .ref an, .ref dw])), (tp, .inl (y 0, 400, .inl f))] sz) ([(h0, .inr (10, [.ref tp, .int 20, .int (-1), .ref ps, .ref sp, .ref tk, .ref dr, .ref pr, .ref da, .ref nw, .ref im, .int 0, .ref ac, .ref ke, .ref si, .ref tx, .ref an, .ref dw])), (tp, .inl (y 0, 400, .inl u))])) (va_A [(h0, .inr (10, [.ref tp, .int 16, .int (-1), .ref ps, .ref sp, .ref tk, .ref dr, .ref pr, .ref da, .ref nw, .ref im, .int 0, .ref ac, .ref ke, .ref si, .ref tx, .ref an, .ref dw])), (tp, .inl (y 0, 400, .inl f))] sz)) 0 0 (va_A [(h0, .inr (10, [.ref tp, .int 16, .int (-1), .ref ps, .ref sp, .ref tk, .ref dr, .ref pr, .ref da, .ref nw, .ref im, .int 0, .ref ac, .ref ke, .ref si, .ref tx, .ref an, .ref dw])), (tp, .inl (y 0, 400, .inl f))] sz) := by
  refine Met.ofW (cc := cX10_layBytes) (maxL := 3) (ret := none) (by decide) rfl ?_
  intro p e s m args below meth c s₁ B hml hv
  obtain ⟨rfl, hsz, hP, hK, hD0⟩ := hv
  have hx := B.exec
  have hb := B.bytes
  have hr := B.returns
  have hts := atoms_spec (ws := wsX10_layBytes) B.pre
  have hown : s.vm.findClass RX10 = some m.cls := findClass_of_methodNamed B.named
  have hlocks := B.notSynchronized
  subst hsz
  have hD := hD0.self (sz := s.heap.size)
  generalize hAe : va_A [(h0, .inr (10, [.ref tp, .int 16, .int (-1), .ref ps, .ref sp, .ref tk, .ref dr, .ref pr, .ref da, .ref nw, .ref im, .int 0, .ref ac, .ref ke, .ref si, .ref tx, .ref an, .ref dw])), (tp, .inl (y 0, 400, .inl f))] s.heap.size = A at hD ⊢
  have hA : ∀ q : Nat, s.heap.size ≤ q → A q := fun q h => by rw [← hAe]; exact Or.inr h
  have hS : va_S A s.heap s.heap [] := va_S.rf
  have hP : va_P G vwCl [(h0, .inr (10, [.ref tp, .int 16, .int (-1), .ref ps, .ref sp, .ref tk, .ref dr, .ref pr, .ref da, .ref nw, .ref im, .int 0, .ref ac, .ref ke, .ref si, .ref tx, .ref an, .ref dw])), (tp, .inl (y 0, 400, .inl f))] s.heap := hP
  have inX10 : ∀ w ∈ wsX100, w ∈ wsX10_layBytes := by decide +kernel
  have hl := lv_entry ([.ref h0, .int a]) (n := 3) (Nat.le_of_ble_eq_true rfl)
  rw [lg_entry_eq]
  generalize (lg_sl ([.ref h0, .int a]) ++ List.replicate (3 - (lg_sl ([.ref h0, .int a])).length) Slot.unset).toArray = ls at hl ⊢
  have hl : lv_has ls 3 [(0, .ref h0), (1, .int a)] := hl
  refine lv_bipush (v := 24) hx hb dX10_layBytes_0 (by decide) ?_
  refine lv_istore_n (lv' := [(2, .int 24), (0, .ref h0), (1, .int a)]) hx hb dX10_layBytes_2 rfl hl (by decide) rfl (fun ls hl => ?_)
  refine lv_iload_n hx hb dX10_layBytes_3 rfl (lv_at hl 0 rfl) ?_
  refine lv_if_lt (tgt := 56) hx hb dX10_layBytes_4 (by decide) (fun c_1 => absurd c_1 (by decide)) (fun _ => ?_)
  refine lv_aload_n hx hb dX10_layBytes_7 rfl (lv_at hl 1 rfl) ?_
  refine va_get (D := G) (ci := 10) (v := .int 16) (C := RX10) (T := TX10) (N := 18) hx hb hts inX10 hown hK.1 hP 0 rfl rfl 1 (by decide) (hts (.fieldLink RX10 114 "NestQuery" "tapeCount" "I") (by decide +kernel)) (fun _ h9 => h9) rfl dX10_layBytes_8 ?_
  refine lv_if_lt (tgt := 50) hx hb dX10_layBytes_11 (by decide) (fun c_2 => absurd c_2 (by decide)) (fun _ => ?_)
  refine lv_aload_n hx hb dX10_layBytes_14 rfl (lv_at hl 1 rfl) ?_
  refine va_get (D := G) (ci := 10) (v := .int 16) (C := RX10) (T := TX10) (N := 18) hx hb hts inX10 hown hK.1 hP 0 rfl rfl 1 (by decide) (hts (.fieldLink RX10 114 "NestQuery" "tapeCount" "I") (by decide +kernel)) (fun _ h9 => h9) rfl dX10_layBytes_15 ?_
  refine lv_sipush (v := 400) hx hb dX10_layBytes_18 (by decide) ?_
  refine lv_icmp_ge (tgt := 50) hx hb dX10_layBytes_21 (by decide) (fun c_3 => absurd c_3 (by decide)) (fun _ => ?_)
  refine lv_aload_n hx hb dX10_layBytes_24 rfl (lv_at hl 1 rfl) ?_
  refine va_get (D := G) (ci := 10) (v := .ref tp) (C := RX10) (T := TX10) (N := 18) hx hb hts inX10 hown hK.1 hP 0 rfl rfl 0 (by decide) (hts (.fieldLink RX10 9 "NestQuery" "tape" "[I") (by decide +kernel)) (fun _ h9 => h9) rfl dX10_layBytes_25 ?_
  refine lv_aload_n hx hb dX10_layBytes_28 rfl (lv_at hl 1 rfl) ?_
  refine va_get (D := G) (ci := 10) (v := .int 16) (C := RX10) (T := TX10) (N := 18) hx hb hts inX10 hown hK.1 hP 0 rfl rfl 1 (by decide) (hts (.fieldLink RX10 114 "NestQuery" "tapeCount" "I") (by decide +kernel)) (fun _ h9 => h9) rfl dX10_layBytes_29 ?_
  refine lv_iload_n hx hb dX10_layBytes_32 rfl (lv_at hl 2 rfl) ?_
  refine lv_iload_n hx hb dX10_layBytes_33 rfl (lv_at hl 0 rfl) ?_
  refine lv_iushr hx hb dX10_layBytes_34 rfl ?_
  refine lv_topi (fun w_4 _ => ?_)
  refine lv_sipush (v := 255) hx hb dX10_layBytes_35 (by decide) ?_
  refine lv_iand hx hb dX10_layBytes_38 ?_
  refine lv_topi (fun w_5 _ => ?_)
  refine va_iast hx hb hK.1 hP hD hS 1 0 rfl rfl (i := 16) (nq_in (by decide)) dX10_layBytes_39 (fun H locs hP hD hS => ?_)
  have hP : va_P G vwCl [(h0, .inr (10, [.ref tp, .int 16, .int (-1), .ref ps, .ref sp, .ref tk, .ref dr, .ref pr, .ref da, .ref nw, .ref im, .int 0, .ref ac, .ref ke, .ref si, .ref tx, .ref an, .ref dw])), (tp, .inl (y 0, 400, .inl (upd f 16 w_5)))] H := hP
  have hD : va_D A [(h0, .inr (10, [.ref tp, .int 16, .int (-1), .ref ps, .ref sp, .ref tk, .ref dr, .ref pr, .ref da, .ref nw, .ref im, .int 0, .ref ac, .ref ke, .ref si, .ref tx, .ref an, .ref dw])), (tp, .inl (y 0, 400, .inl (upd f 16 w_5)))] := hD
  refine lv_aload_n hx hb dX10_layBytes_40 rfl (lv_at hl 1 rfl) ?_
  refine lv_dup hx hb dX10_layBytes_41 rfl ?_
  refine va_get (D := G) (ci := 10) (v := .int 16) (C := RX10) (T := TX10) (N := 18) hx hb hts inX10 hown hK.1 hP 0 rfl rfl 1 (by decide) (hts (.fieldLink RX10 114 "NestQuery" "tapeCount" "I") (by decide +kernel)) (fun _ h9 => h9) rfl dX10_layBytes_42 ?_
  refine lv_iconst (v := 1) hx hb dX10_layBytes_45 (by decide) ?_
  refine lv_iadd hx hb dX10_layBytes_46 ?_
  refine nq_top (z := 17) (by decide) ?_
  refine va_put (D := G) (ci := 10) (v := .int 17) (ty := .int) (C := RX10) (T := TX10) (N := 18) hx hb hts inX10 tyX10 tyX10_ok nmX10 hown hK.1 hP hD hS 0 rfl rfl 1 (by decide) (hts (.fieldLink RX10 114 "NestQuery" "tapeCount" "I") (by decide +kernel)) (fun _ h9 => h9) rfl (by decide +kernel) rfl rfl (Nat.le_of_ble_eq_true rfl) dX10_layBytes_47 (fun H locs hP hD hS => ?_)
  have hP : va_P G vwCl [(h0, .inr (10, [.ref tp, .int 17, .int (-1), .ref ps, .ref sp, .ref tk, .ref dr, .ref pr, .ref da, .ref nw, .ref im, .int 0, .ref ac, .ref ke, .ref si, .ref tx, .ref an, .ref dw])), (tp, .inl (y 0, 400, .inl (upd f 16 w_5)))] H := hP
  have hD : va_D A [(h0, .inr (10, [.ref tp, .int 17, .int (-1), .ref ps, .ref sp, .ref tk, .ref dr, .ref pr, .ref da, .ref nw, .ref im, .int 0, .ref ac, .ref ke, .ref si, .ref tx, .ref an, .ref dw])), (tp, .inl (y 0, 400, .inl (upd f 16 w_5)))] := hD
  refine lv_iinc (v := 16) (lv' := [(2, .int 16), (0, .ref h0), (1, .int a)]) hx hb dX10_layBytes_50 hl (k := 0) rfl (by decide) (by decide) rfl (fun ls hl => ?_)
  refine lv_goto (tgt := 3) hx hb dX10_layBytes_53 (by decide) ?_
  refine lv_iload_n hx hb dX10_layBytes_3 rfl (lv_at hl 0 rfl) ?_
  refine lv_if_lt (tgt := 56) hx hb dX10_layBytes_4 (by decide) (fun c_6 => absurd c_6 (by decide)) (fun _ => ?_)
  refine lv_aload_n hx hb dX10_layBytes_7 rfl (lv_at hl 1 rfl) ?_
  refine va_get (D := G) (ci := 10) (v := .int 17) (C := RX10) (T := TX10) (N := 18) hx hb hts inX10 hown hK.1 hP 0 rfl rfl 1 (by decide) (hts (.fieldLink RX10 114 "NestQuery" "tapeCount" "I") (by decide +kernel)) (fun _ h9 => h9) rfl dX10_layBytes_8 ?_
  refine lv_if_lt (tgt := 50) hx hb dX10_layBytes_11 (by decide) (fun c_7 => absurd c_7 (by decide)) (fun _ => ?_)
  refine lv_aload_n hx hb dX10_layBytes_14 rfl (lv_at hl 1 rfl) ?_
  refine va_get (D := G) (ci := 10) (v := .int 17) (C := RX10) (T := TX10) (N := 18) hx hb hts inX10 hown hK.1 hP 0 rfl rfl 1 (by decide) (hts (.fieldLink RX10 114 "NestQuery" "tapeCount" "I") (by decide +kernel)) (fun _ h9 => h9) rfl dX10_layBytes_15 ?_
  refine lv_sipush (v := 400) hx hb dX10_layBytes_18 (by decide) ?_
  refine lv_icmp_ge (tgt := 50) hx hb dX10_layBytes_21 (by decide) (fun c_8 => absurd c_8 (by decide)) (fun _ => ?_)
  refine lv_aload_n hx hb dX10_layBytes_24 rfl (lv_at hl 1 rfl) ?_
  refine va_get (D := G) (ci := 10) (v := .ref tp) (C := RX10) (T := TX10) (N := 18) hx hb hts inX10 hown hK.1 hP 0 rfl rfl 0 (by decide) (hts (.fieldLink RX10 9 "NestQuery" "tape" "[I") (by decide +kernel)) (fun _ h9 => h9) rfl dX10_layBytes_25 ?_
  refine lv_aload_n hx hb dX10_layBytes_28 rfl (lv_at hl 1 rfl) ?_
  refine va_get (D := G) (ci := 10) (v := .int 17) (C := RX10) (T := TX10) (N := 18) hx hb hts inX10 hown hK.1 hP 0 rfl rfl 1 (by decide) (hts (.fieldLink RX10 114 "NestQuery" "tapeCount" "I") (by decide +kernel)) (fun _ h9 => h9) rfl dX10_layBytes_29 ?_
  refine lv_iload_n hx hb dX10_layBytes_32 rfl (lv_at hl 2 rfl) ?_
  refine lv_iload_n hx hb dX10_layBytes_33 rfl (lv_at hl 0 rfl) ?_
  refine lv_iushr hx hb dX10_layBytes_34 rfl ?_
  refine lv_topi (fun w_9 _ => ?_)
  refine lv_sipush (v := 255) hx hb dX10_layBytes_35 (by decide) ?_
  refine lv_iand hx hb dX10_layBytes_38 ?_
  refine lv_topi (fun w_10 _ => ?_)
  refine va_iast hx hb hK.1 hP hD hS 1 0 rfl rfl (i := 17) (nq_in (by decide)) dX10_layBytes_39 (fun H locs hP hD hS => ?_)
  have hP : va_P G vwCl [(h0, .inr (10, [.ref tp, .int 17, .int (-1), .ref ps, .ref sp, .ref tk, .ref dr, .ref pr, .ref da, .ref nw, .ref im, .int 0, .ref ac, .ref ke, .ref si, .ref tx, .ref an, .ref dw])), (tp, .inl (y 0, 400, .inl (upd (upd f 16 w_5) 17 w_10)))] H := hP
  have hD : va_D A [(h0, .inr (10, [.ref tp, .int 17, .int (-1), .ref ps, .ref sp, .ref tk, .ref dr, .ref pr, .ref da, .ref nw, .ref im, .int 0, .ref ac, .ref ke, .ref si, .ref tx, .ref an, .ref dw])), (tp, .inl (y 0, 400, .inl (upd (upd f 16 w_5) 17 w_10)))] := hD
  refine lv_aload_n hx hb dX10_layBytes_40 rfl (lv_at hl 1 rfl) ?_
  refine lv_dup hx hb dX10_layBytes_41 rfl ?_
  refine va_get (D := G) (ci := 10) (v := .int 17) (C := RX10) (T := TX10) (N := 18) hx hb hts inX10 hown hK.1 hP 0 rfl rfl 1 (by decide) (hts (.fieldLink RX10 114 "NestQuery" "tapeCount" "I") (by decide +kernel)) (fun _ h9 => h9) rfl dX10_layBytes_42 ?_
  refine lv_iconst (v := 1) hx hb dX10_layBytes_45 (by decide) ?_
  refine lv_iadd hx hb dX10_layBytes_46 ?_
  refine nq_top (z := 18) (by decide) ?_
  refine va_put (D := G) (ci := 10) (v := .int 18) (ty := .int) (C := RX10) (T := TX10) (N := 18) hx hb hts inX10 tyX10 tyX10_ok nmX10 hown hK.1 hP hD hS 0 rfl rfl 1 (by decide) (hts (.fieldLink RX10 114 "NestQuery" "tapeCount" "I") (by decide +kernel)) (fun _ h9 => h9) rfl (by decide +kernel) rfl rfl (Nat.le_of_ble_eq_true rfl) dX10_layBytes_47 (fun H locs hP hD hS => ?_)
  have hP : va_P G vwCl [(h0, .inr (10, [.ref tp, .int 18, .int (-1), .ref ps, .ref sp, .ref tk, .ref dr, .ref pr, .ref da, .ref nw, .ref im, .int 0, .ref ac, .ref ke, .ref si, .ref tx, .ref an, .ref dw])), (tp, .inl (y 0, 400, .inl (upd (upd f 16 w_5) 17 w_10)))] H := hP
  have hD : va_D A [(h0, .inr (10, [.ref tp, .int 18, .int (-1), .ref ps, .ref sp, .ref tk, .ref dr, .ref pr, .ref da, .ref nw, .ref im, .int 0, .ref ac, .ref ke, .ref si, .ref tx, .ref an, .ref dw])), (tp, .inl (y 0, 400, .inl (upd (upd f 16 w_5) 17 w_10)))] := hD
  refine lv_iinc (v := 8) (lv' := [(2, .int 8), (0, .ref h0), (1, .int a)]) hx hb dX10_layBytes_50 hl (k := 0) rfl (by decide) (by decide) rfl (fun ls hl => ?_)
  refine lv_goto (tgt := 3) hx hb dX10_layBytes_53 (by decide) ?_
  refine lv_iload_n hx hb dX10_layBytes_3 rfl (lv_at hl 0 rfl) ?_
  refine lv_if_lt (tgt := 56) hx hb dX10_layBytes_4 (by decide) (fun c_11 => absurd c_11 (by decide)) (fun _ => ?_)
  refine lv_aload_n hx hb dX10_layBytes_7 rfl (lv_at hl 1 rfl) ?_
  refine va_get (D := G) (ci := 10) (v := .int 18) (C := RX10) (T := TX10) (N := 18) hx hb hts inX10 hown hK.1 hP 0 rfl rfl 1 (by decide) (hts (.fieldLink RX10 114 "NestQuery" "tapeCount" "I") (by decide +kernel)) (fun _ h9 => h9) rfl dX10_layBytes_8 ?_
  refine lv_if_lt (tgt := 50) hx hb dX10_layBytes_11 (by decide) (fun c_12 => absurd c_12 (by decide)) (fun _ => ?_)
  refine lv_aload_n hx hb dX10_layBytes_14 rfl (lv_at hl 1 rfl) ?_
  refine va_get (D := G) (ci := 10) (v := .int 18) (C := RX10) (T := TX10) (N := 18) hx hb hts inX10 hown hK.1 hP 0 rfl rfl 1 (by decide) (hts (.fieldLink RX10 114 "NestQuery" "tapeCount" "I") (by decide +kernel)) (fun _ h9 => h9) rfl dX10_layBytes_15 ?_
  refine lv_sipush (v := 400) hx hb dX10_layBytes_18 (by decide) ?_
  refine lv_icmp_ge (tgt := 50) hx hb dX10_layBytes_21 (by decide) (fun c_13 => absurd c_13 (by decide)) (fun _ => ?_)
  refine lv_aload_n hx hb dX10_layBytes_24 rfl (lv_at hl 1 rfl) ?_
  refine va_get (D := G) (ci := 10) (v := .ref tp) (C := RX10) (T := TX10) (N := 18) hx hb hts inX10 hown hK.1 hP 0 rfl rfl 0 (by decide) (hts (.fieldLink RX10 9 "NestQuery" "tape" "[I") (by decide +kernel)) (fun _ h9 => h9) rfl dX10_layBytes_25 ?_
  refine lv_aload_n hx hb dX10_layBytes_28 rfl (lv_at hl 1 rfl) ?_
  refine va_get (D := G) (ci := 10) (v := .int 18) (C := RX10) (T := TX10) (N := 18) hx hb hts inX10 hown hK.1 hP 0 rfl rfl 1 (by decide) (hts (.fieldLink RX10 114 "NestQuery" "tapeCount" "I") (by decide +kernel)) (fun _ h9 => h9) rfl dX10_layBytes_29 ?_
  refine lv_iload_n hx hb dX10_layBytes_32 rfl (lv_at hl 2 rfl) ?_
  refine lv_iload_n hx hb dX10_layBytes_33 rfl (lv_at hl 0 rfl) ?_
  refine lv_iushr hx hb dX10_layBytes_34 rfl ?_
  refine lv_topi (fun w_14 _ => ?_)
  refine lv_sipush (v := 255) hx hb dX10_layBytes_35 (by decide) ?_
  refine lv_iand hx hb dX10_layBytes_38 ?_
  refine lv_topi (fun w_15 _ => ?_)
  refine va_iast hx hb hK.1 hP hD hS 1 0 rfl rfl (i := 18) (nq_in (by decide)) dX10_layBytes_39 (fun H locs hP hD hS => ?_)
  have hP : va_P G vwCl [(h0, .inr (10, [.ref tp, .int 18, .int (-1), .ref ps, .ref sp, .ref tk, .ref dr, .ref pr, .ref da, .ref nw, .ref im, .int 0, .ref ac, .ref ke, .ref si, .ref tx, .ref an, .ref dw])), (tp, .inl (y 0, 400, .inl (upd (upd (upd f 16 w_5) 17 w_10) 18 w_15)))] H := hP
  have hD : va_D A [(h0, .inr (10, [.ref tp, .int 18, .int (-1), .ref ps, .ref sp, .ref tk, .ref dr, .ref pr, .ref da, .ref nw, .ref im, .int 0, .ref ac, .ref ke, .ref si, .ref tx, .ref an, .ref dw])), (tp, .inl (y 0, 400, .inl (upd (upd (upd f 16 w_5) 17 w_10) 18 w_15)))] := hD
  refine lv_aload_n hx hb dX10_layBytes_40 rfl (lv_at hl 1 rfl) ?_
  refine lv_dup hx hb dX10_layBytes_41 rfl ?_
  refine va_get (D := G) (ci := 10) (v := .int 18) (C := RX10) (T := TX10) (N := 18) hx hb hts inX10 hown hK.1 hP 0 rfl rfl 1 (by decide) (hts (.fieldLink RX10 114 "NestQuery" "tapeCount" "I") (by decide +kernel)) (fun _ h9 => h9) rfl dX10_layBytes_42 ?_
  refine lv_iconst (v := 1) hx hb dX10_layBytes_45 (by decide) ?_
  refine lv_iadd hx hb dX10_layBytes_46 ?_
  refine nq_top (z := 19) (by decide) ?_
  refine va_put (D := G) (ci := 10) (v := .int 19) (ty := .int) (C := RX10) (T := TX10) (N := 18) hx hb hts inX10 tyX10 tyX10_ok nmX10 hown hK.1 hP hD hS 0 rfl rfl 1 (by decide) (hts (.fieldLink RX10 114 "NestQuery" "tapeCount" "I") (by decide +kernel)) (fun _ h9 => h9) rfl (by decide +kernel) rfl rfl (Nat.le_of_ble_eq_true rfl) dX10_layBytes_47 (fun H locs hP hD hS => ?_)
  have hP : va_P G vwCl [(h0, .inr (10, [.ref tp, .int 19, .int (-1), .ref ps, .ref sp, .ref tk, .ref dr, .ref pr, .ref da, .ref nw, .ref im, .int 0, .ref ac, .ref ke, .ref si, .ref tx, .ref an, .ref dw])), (tp, .inl (y 0, 400, .inl (upd (upd (upd f 16 w_5) 17 w_10) 18 w_15)))] H := hP
  have hD : va_D A [(h0, .inr (10, [.ref tp, .int 19, .int (-1), .ref ps, .ref sp, .ref tk, .ref dr, .ref pr, .ref da, .ref nw, .ref im, .int 0, .ref ac, .ref ke, .ref si, .ref tx, .ref an, .ref dw])), (tp, .inl (y 0, 400, .inl (upd (upd (upd f 16 w_5) 17 w_10) 18 w_15)))] := hD
  refine lv_iinc (v := 0) (lv' := [(2, .int 0), (0, .ref h0), (1, .int a)]) hx hb dX10_layBytes_50 hl (k := 0) rfl (by decide) (by decide) rfl (fun ls hl => ?_)
  refine lv_goto (tgt := 3) hx hb dX10_layBytes_53 (by decide) ?_
  refine lv_iload_n hx hb dX10_layBytes_3 rfl (lv_at hl 0 rfl) ?_
  refine lv_if_lt (tgt := 56) hx hb dX10_layBytes_4 (by decide) (fun c_16 => absurd c_16 (by decide)) (fun _ => ?_)
  refine lv_aload_n hx hb dX10_layBytes_7 rfl (lv_at hl 1 rfl) ?_
  refine va_get (D := G) (ci := 10) (v := .int 19) (C := RX10) (T := TX10) (N := 18) hx hb hts inX10 hown hK.1 hP 0 rfl rfl 1 (by decide) (hts (.fieldLink RX10 114 "NestQuery" "tapeCount" "I") (by decide +kernel)) (fun _ h9 => h9) rfl dX10_layBytes_8 ?_
  refine lv_if_lt (tgt := 50) hx hb dX10_layBytes_11 (by decide) (fun c_17 => absurd c_17 (by decide)) (fun _ => ?_)
  refine lv_aload_n hx hb dX10_layBytes_14 rfl (lv_at hl 1 rfl) ?_
  refine va_get (D := G) (ci := 10) (v := .int 19) (C := RX10) (T := TX10) (N := 18) hx hb hts inX10 hown hK.1 hP 0 rfl rfl 1 (by decide) (hts (.fieldLink RX10 114 "NestQuery" "tapeCount" "I") (by decide +kernel)) (fun _ h9 => h9) rfl dX10_layBytes_15 ?_
  refine lv_sipush (v := 400) hx hb dX10_layBytes_18 (by decide) ?_
  refine lv_icmp_ge (tgt := 50) hx hb dX10_layBytes_21 (by decide) (fun c_18 => absurd c_18 (by decide)) (fun _ => ?_)
  refine lv_aload_n hx hb dX10_layBytes_24 rfl (lv_at hl 1 rfl) ?_
  refine va_get (D := G) (ci := 10) (v := .ref tp) (C := RX10) (T := TX10) (N := 18) hx hb hts inX10 hown hK.1 hP 0 rfl rfl 0 (by decide) (hts (.fieldLink RX10 9 "NestQuery" "tape" "[I") (by decide +kernel)) (fun _ h9 => h9) rfl dX10_layBytes_25 ?_
  refine lv_aload_n hx hb dX10_layBytes_28 rfl (lv_at hl 1 rfl) ?_
  refine va_get (D := G) (ci := 10) (v := .int 19) (C := RX10) (T := TX10) (N := 18) hx hb hts inX10 hown hK.1 hP 0 rfl rfl 1 (by decide) (hts (.fieldLink RX10 114 "NestQuery" "tapeCount" "I") (by decide +kernel)) (fun _ h9 => h9) rfl dX10_layBytes_29 ?_
  refine lv_iload_n hx hb dX10_layBytes_32 rfl (lv_at hl 2 rfl) ?_
  refine lv_iload_n hx hb dX10_layBytes_33 rfl (lv_at hl 0 rfl) ?_
  refine lv_iushr hx hb dX10_layBytes_34 rfl ?_
  refine lv_topi (fun w_19 _ => ?_)
  refine lv_sipush (v := 255) hx hb dX10_layBytes_35 (by decide) ?_
  refine lv_iand hx hb dX10_layBytes_38 ?_
  refine lv_topi (fun w_20 _ => ?_)
  refine va_iast hx hb hK.1 hP hD hS 1 0 rfl rfl (i := 19) (nq_in (by decide)) dX10_layBytes_39 (fun H locs hP hD hS => ?_)
  have hP : va_P G vwCl [(h0, .inr (10, [.ref tp, .int 19, .int (-1), .ref ps, .ref sp, .ref tk, .ref dr, .ref pr, .ref da, .ref nw, .ref im, .int 0, .ref ac, .ref ke, .ref si, .ref tx, .ref an, .ref dw])), (tp, .inl (y 0, 400, .inl (upd (upd (upd (upd f 16 w_5) 17 w_10) 18 w_15) 19 w_20)))] H := hP
  have hD : va_D A [(h0, .inr (10, [.ref tp, .int 19, .int (-1), .ref ps, .ref sp, .ref tk, .ref dr, .ref pr, .ref da, .ref nw, .ref im, .int 0, .ref ac, .ref ke, .ref si, .ref tx, .ref an, .ref dw])), (tp, .inl (y 0, 400, .inl (upd (upd (upd (upd f 16 w_5) 17 w_10) 18 w_15) 19 w_20)))] := hD
  refine lv_aload_n hx hb dX10_layBytes_40 rfl (lv_at hl 1 rfl) ?_
  refine lv_dup hx hb dX10_layBytes_41 rfl ?_
  refine va_get (D := G) (ci := 10) (v := .int 19) (C := RX10) (T := TX10) (N := 18) hx hb hts inX10 hown hK.1 hP 0 rfl rfl 1 (by decide) (hts (.fieldLink RX10 114 "NestQuery" "tapeCount" "I") (by decide +kernel)) (fun _ h9 => h9) rfl dX10_layBytes_42 ?_
  refine lv_iconst (v := 1) hx hb dX10_layBytes_45 (by decide) ?_
  refine lv_iadd hx hb dX10_layBytes_46 ?_
  refine nq_top (z := 20) (by decide) ?_
  refine va_put (D := G) (ci := 10) (v := .int 20) (ty := .int) (C := RX10) (T := TX10) (N := 18) hx hb hts inX10 tyX10 tyX10_ok nmX10 hown hK.1 hP hD hS 0 rfl rfl 1 (by decide) (hts (.fieldLink RX10 114 "NestQuery" "tapeCount" "I") (by decide +kernel)) (fun _ h9 => h9) rfl (by decide +kernel) rfl rfl (Nat.le_of_ble_eq_true rfl) dX10_layBytes_47 (fun H locs hP hD hS => ?_)
  have hP : va_P G vwCl [(h0, .inr (10, [.ref tp, .int 20, .int (-1), .ref ps, .ref sp, .ref tk, .ref dr, .ref pr, .ref da, .ref nw, .ref im, .int 0, .ref ac, .ref ke, .ref si, .ref tx, .ref an, .ref dw])), (tp, .inl (y 0, 400, .inl (upd (upd (upd (upd f 16 w_5) 17 w_10) 18 w_15) 19 w_20)))] H := hP
  have hD : va_D A [(h0, .inr (10, [.ref tp, .int 20, .int (-1), .ref ps, .ref sp, .ref tk, .ref dr, .ref pr, .ref da, .ref nw, .ref im, .int 0, .ref ac, .ref ke, .ref si, .ref tx, .ref an, .ref dw])), (tp, .inl (y 0, 400, .inl (upd (upd (upd (upd f 16 w_5) 17 w_10) 18 w_15) 19 w_20)))] := hD
  refine lv_iinc (v := (-8)) (lv' := [(2, .int (-8)), (0, .ref h0), (1, .int a)]) hx hb dX10_layBytes_50 hl (k := 0) rfl (by decide) (by decide) rfl (fun ls hl => ?_)
  refine lv_goto (tgt := 3) hx hb dX10_layBytes_53 (by decide) ?_
  refine lv_iload_n hx hb dX10_layBytes_3 rfl (lv_at hl 0 rfl) ?_
  refine lv_if_lt (tgt := 56) hx hb dX10_layBytes_4 (by decide) (fun _ => ?_) (fun c_21 => absurd c_21 (by decide))
  have hP9 := hP.sub (ws' := [(h0, .inr (10, [.ref tp, .int 20, .int (-1), .ref ps, .ref sp, .ref tk, .ref dr, .ref pr, .ref da, .ref nw, .ref im, .int 0, .ref ac, .ref ke, .ref si, .ref tx, .ref an, .ref dw])), (tp, .inl (y 0, 400, .inl (upd (upd (upd (upd f 16 w_5) 17 w_10) 18 w_15) 19 w_20)))]) [0, 1] rfl
  have hD9 := hD.sub (ws' := [(h0, .inr (10, [.ref tp, .int 20, .int (-1), .ref ps, .ref sp, .ref tk, .ref dr, .ref pr, .ref da, .ref nw, .ref im, .int 0, .ref ac, .ref ke, .ref si, .ref tx, .ref an, .ref dw])), (tp, .inl (y 0, 400, .inl (upd (upd (upd (upd f 16 w_5) 17 w_10) 18 w_15) 19 w_20)))]) [0, 1] (by decide) rfl
  refine W.widen (k := 0) (n := 0) (Nat.le_of_ble_eq_true rfl) (Nat.le_of_ble_eq_true rfl) ?_
  exact W.vret hx hb hr (fun t ht hW => ⟨⟨(upd (upd (upd (upd f 16 w_5) 17 w_10) 18 w_15) 19 w_20), rfl, trivial, by rw [ht]; exact hP9, by first | exact hD9 | (rw [hAe]; exact hD9)⟩, hS.F ht⟩) hS.2.2 dX10_layBytes_56

set_option maxHeartbeats 4000000 in
set_option maxRecDepth 100000 in
theorem c_feed (l : Launch) (G : va_G) (y : Nat → ClassId) (sz : Nat) (h0 : Nat) (tp : Nat) (ps : Nat) (sp : Nat) (tk : Nat) (dr : Nat) (pr : Nat) (da : Nat) (nw : Nat) (im : Nat) (ac : Nat) (ke : Nat) (si : Nat) (tx : Nat) (an : Nat) (dw : Nat) (a1 : Int32) (a2 : Int32) (a3 : Int32) (a4 : Int32) (a5 : Int32)  : Met l yX10_feed wsX10_feed ({ frames := 1, cells := 0, slots := 0, locals := 22 }) (nq_P G y sz [.ref h0, .int a1, .int a2, .int a3, .int a4, .int a5] [(h0, .inr (10, [.ref tp, .int 0, .int (-1), .ref ps, .ref sp, .ref tk, .ref dr, .ref pr, .ref da, .ref nw, .ref im, .int 0, .ref ac, .ref ke, .ref si, .ref tx, .ref an, .ref dw])), (tp, .inl (y 0, 400, .inl (fun _ => 0)))]) (va_Qi (fun (r : Int32) (_ : Unit) => r = 20) (fun (u : Unit) t9 => va_P G vwCl ([]) t9.heap ∧ va_D (va_A [(h0, .inr (10, [.ref tp, .int 0, .int (-1), .ref ps, .ref sp, .ref tk, .ref dr, .ref pr, .ref da, .ref nw, .ref im, .int 0, .ref ac, .ref ke, .ref si, .ref tx, .ref an, .ref dw])), (tp, .inl (y 0, 400, .inl (fun _ => 0)))] sz) ([])) (va_A [(h0, .inr (10, [.ref tp, .int 0, .int (-1), .ref ps, .ref sp, .ref tk, .ref dr, .ref pr, .ref da, .ref nw, .ref im, .int 0, .ref ac, .ref ke, .ref si, .ref tx, .ref an, .ref dw])), (tp, .inl (y 0, 400, .inl (fun _ => 0)))] sz)) 0 0 (va_A [(h0, .inr (10, [.ref tp, .int 0, .int (-1), .ref ps, .ref sp, .ref tk, .ref dr, .ref pr, .ref da, .ref nw, .ref im, .int 0, .ref ac, .ref ke, .ref si, .ref tx, .ref an, .ref dw])), (tp, .inl (y 0, 400, .inl (fun _ => 0)))] sz) := by
  refine Met.ofW (cc := cX10_feed) (maxL := 6) (ret := (some .int)) (by decide) rfl ?_
  intro p e s m args below meth c s₁ B hml hv
  obtain ⟨rfl, hsz, hP, hK, hD0⟩ := hv
  have hx := B.exec
  have hb := B.bytes
  have hr := B.returns
  have hts := atoms_spec (ws := wsX10_feed) B.pre
  have hown : s.vm.findClass RX10 = some m.cls := findClass_of_methodNamed B.named
  have hlocks := B.notSynchronized
  subst hsz
  have hD := hD0.self (sz := s.heap.size)
  generalize hAe : va_A [(h0, .inr (10, [.ref tp, .int 0, .int (-1), .ref ps, .ref sp, .ref tk, .ref dr, .ref pr, .ref da, .ref nw, .ref im, .int 0, .ref ac, .ref ke, .ref si, .ref tx, .ref an, .ref dw])), (tp, .inl (y 0, 400, .inl (fun _ => 0)))] s.heap.size = A at hD ⊢
  have hA : ∀ q : Nat, s.heap.size ≤ q → A q := fun q h => by rw [← hAe]; exact Or.inr h
  have hS : va_S A s.heap s.heap [] := va_S.rf
  have hP : va_P G vwCl [(h0, .inr (10, [.ref tp, .int 0, .int (-1), .ref ps, .ref sp, .ref tk, .ref dr, .ref pr, .ref da, .ref nw, .ref im, .int 0, .ref ac, .ref ke, .ref si, .ref tx, .ref an, .ref dw])), (tp, .inl (y 0, 400, .inl (fun _ => 0)))] s.heap := hP
  have inX10 : ∀ w ∈ wsX100, w ∈ wsX10_feed := by decide +kernel
  have hl := lv_entry ([.ref h0, .int a1, .int a2, .int a3, .int a4, .int a5]) (n := 6) (Nat.le_of_ble_eq_true rfl)
  rw [lg_entry_eq]
  generalize (lg_sl ([.ref h0, .int a1, .int a2, .int a3, .int a4, .int a5]) ++ List.replicate (6 - (lg_sl ([.ref h0, .int a1, .int a2, .int a3, .int a4, .int a5])).length) Slot.unset).toArray = ls at hl ⊢
  have hl : lv_has ls 6 [(0, .ref h0), (1, .int a1), (2, .int a2), (3, .int a3), (4, .int a4), (5, .int a5)] := hl
  refine lv_aload_n hx hb dX10_feed_0 rfl (lv_at hl 0 rfl) ?_
  refine va_get (D := G) (ci := 10) (v := .int 0) (C := RX10) (T := TX10) (N := 18) hx hb hts inX10 hown hK.1 hP 0 rfl rfl 1 (by decide) (hts (.fieldLink RX10 114 "NestQuery" "tapeCount" "I") (by decide +kernel)) (fun _ h9 => h9) rfl dX10_feed_1 ?_
  refine lv_bipush (v := 20) hx hb dX10_feed_4 (by decide) ?_
  refine lv_iadd hx hb dX10_feed_6 ?_
  refine nq_top (z := 20) (by decide) ?_
  refine lv_sipush (v := 400) hx hb dX10_feed_7 (by decide) ?_
  refine lv_icmp_le (tgt := 15) hx hb dX10_feed_10 (by decide) (fun _ => ?_) (fun c_1 => absurd c_1 (by decide))
  refine lv_aload_n hx hb dX10_feed_15 rfl (lv_at hl 0 rfl) ?_
  refine lv_iload_n hx hb dX10_feed_16 rfl (lv_at hl 1 rfl) ?_
  refine nq_wrv (wr := []) (va_runV (As := [.int a1]) (rest := []) ⟨hx, hb, hml, hown, hts⟩ (c_layBytes0 l G y s.heap.size h0 tp ps sp tk dr pr da nw im ac ke si tx an dw (fun _ => 0) a1 ) (cwV 1 hts gX10_feed_X10_layBytes rfl rfl rfl (by decide +kernel) ⟨Nat.le_of_ble_eq_true rfl, Nat.le_of_ble_eq_true rfl⟩) (nq_PV hK hP hD [0, 1] rfl rfl 0 rfl rfl) rfl rfl hl.1 rfl (lv_room (Nat.le_of_ble_eq_true rfl)) dX10_feed_17 ⟨Nat.le_of_ble_eq_true rfl, Nat.le_of_ble_eq_true rfl⟩) hP hD hS hA [0, 1] [] rfl rfl (by decide) (by decide) (fun u_2 H locs hw_3 hP hD hS => ?_)
  have hP : va_P G vwCl [(h0, .inr (10, [.ref tp, .int 4, .int (-1), .ref ps, .ref sp, .ref tk, .ref dr, .ref pr, .ref da, .ref nw, .ref im, .int 0, .ref ac, .ref ke, .ref si, .ref tx, .ref an, .ref dw])), (tp, .inl (y 0, 400, .inl u_2))] H := hP
  have hD : va_D A [(h0, .inr (10, [.ref tp, .int 4, .int (-1), .ref ps, .ref sp, .ref tk, .ref dr, .ref pr, .ref da, .ref nw, .ref im, .int 0, .ref ac, .ref ke, .ref si, .ref tx, .ref an, .ref dw])), (tp, .inl (y 0, 400, .inl u_2))] := hD
  refine lv_aload_n hx hb dX10_feed_20 rfl (lv_at hl 0 rfl) ?_
  refine lv_iload_n hx hb dX10_feed_21 rfl (lv_at hl 2 rfl) ?_
  refine nq_wrv (wr := []) (va_runV (As := [.int a2]) (rest := []) ⟨hx, hb, hml, hown, hts⟩ (c_layBytes4 l G y H.size h0 tp ps sp tk dr pr da nw im ac ke si tx an dw u_2 a2 ) (cwV 1 hts gX10_feed_X10_layBytes rfl rfl rfl (by decide +kernel) ⟨Nat.le_of_ble_eq_true rfl, Nat.le_of_ble_eq_true rfl⟩) (nq_PV hK hP hD [0, 1] rfl rfl 0 rfl rfl) rfl rfl hl.1 rfl (lv_room (Nat.le_of_ble_eq_true rfl)) dX10_feed_22 ⟨Nat.le_of_ble_eq_true rfl, Nat.le_of_ble_eq_true rfl⟩) hP hD hS hA [0, 1] [] rfl rfl (by decide) (by decide) (fun u_5 H locs hw_6 hP hD hS => ?_)
  have hP : va_P G vwCl [(h0, .inr (10, [.ref tp, .int 8, .int (-1), .ref ps, .ref sp, .ref tk, .ref dr, .ref pr, .ref da, .ref nw, .ref im, .int 0, .ref ac, .ref ke, .ref si, .ref tx, .ref an, .ref dw])), (tp, .inl (y 0, 400, .inl u_5))] H := hP
  have hD : va_D A [(h0, .inr (10, [.ref tp, .int 8, .int (-1), .ref ps, .ref sp, .ref tk, .ref dr, .ref pr, .ref da, .ref nw, .ref im, .int 0, .ref ac, .ref ke, .ref si, .ref tx, .ref an, .ref dw])), (tp, .inl (y 0, 400, .inl u_5))] := hD
  refine lv_aload_n hx hb dX10_feed_25 rfl (lv_at hl 0 rfl) ?_
  refine lv_iload_n hx hb dX10_feed_26 rfl (lv_at hl 3 rfl) ?_
  refine nq_wrv (wr := []) (va_runV (As := [.int a3]) (rest := []) ⟨hx, hb, hml, hown, hts⟩ (c_layBytes8 l G y H.size h0 tp ps sp tk dr pr da nw im ac ke si tx an dw u_5 a3 ) (cwV 1 hts gX10_feed_X10_layBytes rfl rfl rfl (by decide +kernel) ⟨Nat.le_of_ble_eq_true rfl, Nat.le_of_ble_eq_true rfl⟩) (nq_PV hK hP hD [0, 1] rfl rfl 0 rfl rfl) rfl rfl hl.1 rfl (lv_room (Nat.le_of_ble_eq_true rfl)) dX10_feed_27 ⟨Nat.le_of_ble_eq_true rfl, Nat.le_of_ble_eq_true rfl⟩) hP hD hS hA [0, 1] [] rfl rfl (by decide) (by decide) (fun u_8 H locs hw_9 hP hD hS => ?_)
  have hP : va_P G vwCl [(h0, .inr (10, [.ref tp, .int 12, .int (-1), .ref ps, .ref sp, .ref tk, .ref dr, .ref pr, .ref da, .ref nw, .ref im, .int 0, .ref ac, .ref ke, .ref si, .ref tx, .ref an, .ref dw])), (tp, .inl (y 0, 400, .inl u_8))] H := hP
  have hD : va_D A [(h0, .inr (10, [.ref tp, .int 12, .int (-1), .ref ps, .ref sp, .ref tk, .ref dr, .ref pr, .ref da, .ref nw, .ref im, .int 0, .ref ac, .ref ke, .ref si, .ref tx, .ref an, .ref dw])), (tp, .inl (y 0, 400, .inl u_8))] := hD
  refine lv_aload_n hx hb dX10_feed_30 rfl (lv_at hl 0 rfl) ?_
  refine lv_iload hx hb dX10_feed_31 (lv_at hl 4 rfl) ?_
  refine nq_wrv (wr := []) (va_runV (As := [.int a4]) (rest := []) ⟨hx, hb, hml, hown, hts⟩ (c_layBytes12 l G y H.size h0 tp ps sp tk dr pr da nw im ac ke si tx an dw u_8 a4 ) (cwV 1 hts gX10_feed_X10_layBytes rfl rfl rfl (by decide +kernel) ⟨Nat.le_of_ble_eq_true rfl, Nat.le_of_ble_eq_true rfl⟩) (nq_PV hK hP hD [0, 1] rfl rfl 0 rfl rfl) rfl rfl hl.1 rfl (lv_room (Nat.le_of_ble_eq_true rfl)) dX10_feed_33 ⟨Nat.le_of_ble_eq_true rfl, Nat.le_of_ble_eq_true rfl⟩) hP hD hS hA [0, 1] [] rfl rfl (by decide) (by decide) (fun u_11 H locs hw_12 hP hD hS => ?_)
  have hP : va_P G vwCl [(h0, .inr (10, [.ref tp, .int 16, .int (-1), .ref ps, .ref sp, .ref tk, .ref dr, .ref pr, .ref da, .ref nw, .ref im, .int 0, .ref ac, .ref ke, .ref si, .ref tx, .ref an, .ref dw])), (tp, .inl (y 0, 400, .inl u_11))] H := hP
  have hD : va_D A [(h0, .inr (10, [.ref tp, .int 16, .int (-1), .ref ps, .ref sp, .ref tk, .ref dr, .ref pr, .ref da, .ref nw, .ref im, .int 0, .ref ac, .ref ke, .ref si, .ref tx, .ref an, .ref dw])), (tp, .inl (y 0, 400, .inl u_11))] := hD
  refine lv_aload_n hx hb dX10_feed_36 rfl (lv_at hl 0 rfl) ?_
  refine lv_iload hx hb dX10_feed_37 (lv_at hl 5 rfl) ?_
  refine nq_wrv (wr := []) (va_runV (As := [.int a5]) (rest := []) ⟨hx, hb, hml, hown, hts⟩ (c_layBytes16 l G y H.size h0 tp ps sp tk dr pr da nw im ac ke si tx an dw u_11 a5 ) (cwV 1 hts gX10_feed_X10_layBytes rfl rfl rfl (by decide +kernel) ⟨Nat.le_of_ble_eq_true rfl, Nat.le_of_ble_eq_true rfl⟩) (nq_PV hK hP hD [0, 1] rfl rfl 0 rfl rfl) rfl rfl hl.1 rfl (lv_room (Nat.le_of_ble_eq_true rfl)) dX10_feed_39 ⟨Nat.le_of_ble_eq_true rfl, Nat.le_of_ble_eq_true rfl⟩) hP hD hS hA [0, 1] [] rfl rfl (by decide) (by decide) (fun u_14 H locs hw_15 hP hD hS => ?_)
  have hP : va_P G vwCl [(h0, .inr (10, [.ref tp, .int 20, .int (-1), .ref ps, .ref sp, .ref tk, .ref dr, .ref pr, .ref da, .ref nw, .ref im, .int 0, .ref ac, .ref ke, .ref si, .ref tx, .ref an, .ref dw])), (tp, .inl (y 0, 400, .inl u_14))] H := hP
  have hD : va_D A [(h0, .inr (10, [.ref tp, .int 20, .int (-1), .ref ps, .ref sp, .ref tk, .ref dr, .ref pr, .ref da, .ref nw, .ref im, .int 0, .ref ac, .ref ke, .ref si, .ref tx, .ref an, .ref dw])), (tp, .inl (y 0, 400, .inl u_14))] := hD
  refine lv_aload_n hx hb dX10_feed_42 rfl (lv_at hl 0 rfl) ?_
  refine va_get (D := G) (ci := 10) (v := .int 20) (C := RX10) (T := TX10) (N := 18) hx hb hts inX10 hown hK.1 hP 0 rfl rfl 1 (by decide) (hts (.fieldLink RX10 114 "NestQuery" "tapeCount" "I") (by decide +kernel)) (fun _ h9 => h9) rfl dX10_feed_43 ?_
  have hP9 := hP.sub (ws' := []) [] rfl
  have hD9 := hD.sub (ws' := []) [] (by decide) rfl
  refine W.widen (k := 0) (n := 0) (Nat.le_of_ble_eq_true rfl) (Nat.le_of_ble_eq_true rfl) ?_
  exact W.iret (v := 20) hx hb hr (fun t ht hW => ⟨⟨20, (), rfl, rfl, by rw [ht]; exact hP9, by first | exact hD9 | (rw [hAe]; exact hD9)⟩, hS.F ht⟩) hS.2.2 dX10_feed_46

set_option maxHeartbeats 4000000 in
set_option maxRecDepth 100000 in
theorem c_tapeHas (l : Launch) (G : va_G) (y : Nat → ClassId) (sz : Nat) (h0 : Nat) (tp : Nat) (ps : Nat) (sp : Nat) (tk : Nat) (dr : Nat) (pr : Nat) (da : Nat) (nw : Nat) (im : Nat) (ac : Nat) (ke : Nat) (si : Nat) (tx : Nat) (an : Nat) (dw : Nat) (n : Int32)  : Met l yX10_tapeHas wsX10_tapeHas ({ frames := 0, cells := 0, slots := 0, locals := 0 }) (nq_P G y sz [.ref h0, .int n] [(h0, .inr (10, [.ref tp, .int 0, .int (-1), .ref ps, .ref sp, .ref tk, .ref dr, .ref pr, .ref da, .ref nw, .ref im, .int 0, .ref ac, .ref ke, .ref si, .ref tx, .ref an, .ref dw]))]) (va_Qi (fun (r : Int32) (_ : Unit) => (n = 0 ∧ r = 1) ∨ (¬ n = 0 ∧ r = 0)) (fun _ _ => True) (va_A [] sz)) 0 0 (va_A [] sz) := by
  refine Met.ofW (cc := cX10_tapeHas) (maxL := 2) (ret := (some .boolean)) (by decide) rfl ?_
  intro p e s m args below meth c s₁ B hml hv
  obtain ⟨rfl, hsz, hP, hK, hD0⟩ := hv
  have hx := B.exec
  have hb := B.bytes
  have hr := B.returns
  have hts := atoms_spec (ws := wsX10_tapeHas) B.pre
  have hown : s.vm.findClass RX10 = some m.cls := findClass_of_methodNamed B.named
  have hlocks := B.notSynchronized
  subst hsz
  have hD := hD0
  have hA : ∀ q : Nat, s.heap.size ≤ q → va_A [] s.heap.size q := fun q h => Or.inr h
  have hS : va_S (va_A [] s.heap.size) s.heap s.heap [] := va_S.rf
  have hP : va_P G vwCl [(h0, .inr (10, [.ref tp, .int 0, .int (-1), .ref ps, .ref sp, .ref tk, .ref dr, .ref pr, .ref da, .ref nw, .ref im, .int 0, .ref ac, .ref ke, .ref si, .ref tx, .ref an, .ref dw]))] s.heap := hP
  have inX10 : ∀ w ∈ wsX100, w ∈ wsX10_tapeHas := by decide +kernel
  have hl := lv_entry ([.ref h0, .int n]) (n := 2) (Nat.le_of_ble_eq_true rfl)
  rw [lg_entry_eq]
  generalize (lg_sl ([.ref h0, .int n]) ++ List.replicate (2 - (lg_sl ([.ref h0, .int n])).length) Slot.unset).toArray = ls at hl ⊢
  have hl : lv_has ls 2 [(0, .ref h0), (1, .int n)] := hl
  refine lv_iload_n hx hb dX10_tapeHas_0 rfl (lv_at hl 1 rfl) ?_
  refine lv_if_lt (tgt := 16) hx hb dX10_tapeHas_1 (by decide) (fun c_1 => ?_) (fun c_1 => ?_)
  · refine lv_iconst (v := 0) hx hb dX10_tapeHas_16 (by decide) ?_
    refine W.widen (k := 0) (n := 0) (Nat.le_of_ble_eq_true rfl) (Nat.le_of_ble_eq_true rfl) ?_
    exact W.zret (v := 0) hx hb hr (by decide) (fun t ht hW => ⟨⟨0, (), rfl, Or.inr (⟨nq_xeU (nq_hlt c_1 (j := (-1)) (by decide)) (by decide), rfl⟩), trivial⟩, hS.F ht⟩) hS.2.2 dX10_tapeHas_17
  · refine lv_iload_n hx hb dX10_tapeHas_4 rfl (lv_at hl 1 rfl) ?_
    refine lv_aload_n hx hb dX10_tapeHas_5 rfl (lv_at hl 0 rfl) ?_
    refine va_get (D := G) (ci := 10) (v := .int 0) (C := RX10) (T := TX10) (N := 18) hx hb hts inX10 hown hK.1 hP 0 rfl rfl 1 (by decide) (hts (.fieldLink RX10 114 "NestQuery" "tapeCount" "I") (by decide +kernel)) (fun _ h9 => h9) rfl dX10_tapeHas_6 ?_
    refine lv_icmp_gt (tgt := 16) hx hb dX10_tapeHas_9 (by decide) (fun c_2 => ?_) (fun c_2 => ?_)
    · refine lv_iconst (v := 0) hx hb dX10_tapeHas_16 (by decide) ?_
      refine W.widen (k := 0) (n := 0) (Nat.le_of_ble_eq_true rfl) (Nat.le_of_ble_eq_true rfl) ?_
      exact W.zret (v := 0) hx hb hr (by decide) (fun t ht hW => ⟨⟨0, (), rfl, Or.inr (⟨nq_xeL (nq_lgt c_2 (j := 1) (by decide)) (by decide), rfl⟩), trivial⟩, hS.F ht⟩) hS.2.2 dX10_tapeHas_17
    · have e_3 : n = 0 := nq_pin 0 c_1 c_2
      subst e_3
      refine lv_iconst (v := 1) hx hb dX10_tapeHas_12 (by decide) ?_
      refine lv_goto (tgt := 17) hx hb dX10_tapeHas_13 (by decide) ?_
      refine W.widen (k := 0) (n := 0) (Nat.le_of_ble_eq_true rfl) (Nat.le_of_ble_eq_true rfl) ?_
      exact W.zret (v := 1) hx hb hr (by decide) (fun t ht hW => ⟨⟨1, (), rfl, Or.inl (⟨by decide, rfl⟩), trivial⟩, hS.F ht⟩) hS.2.2 dX10_tapeHas_17

set_option maxHeartbeats 4000000 in
set_option maxRecDepth 100000 in
theorem c_fault (l : Launch) (G : va_G) (y : Nat → ClassId) (sz : Nat) (h0 : Nat) (tp : Nat) (ps : Nat) (sp : Nat) (tk : Nat) (dr : Nat) (pr : Nat) (da : Nat) (nw : Nat) (im : Nat) (ac : Nat) (ke : Nat) (si : Nat) (tx : Nat) (an : Nat) (dw : Nat)  : Met l yX10_fault wsX10_fault ({ frames := 0, cells := 0, slots := 0, locals := 0 }) (nq_P G y sz [.ref h0] [(h0, .inr (10, [.ref tp, .int 0, .int (-1), .ref ps, .ref sp, .ref tk, .ref dr, .ref pr, .ref da, .ref nw, .ref im, .int 0, .ref ac, .ref ke, .ref si, .ref tx, .ref an, .ref dw]))]) (va_Qi (fun (r : Int32) (_ : Unit) => r = (-1)) (fun _ _ => True) (va_A [] sz)) 0 0 (va_A [] sz) := by
  refine Met.ofW (cc := cX10_fault) (maxL := 1) (ret := (some .int)) (by decide) rfl ?_
  intro p e s m args below meth c s₁ B hml hv
  obtain ⟨rfl, hsz, hP, hK, hD0⟩ := hv
  have hx := B.exec
  have hb := B.bytes
  have hr := B.returns
  have hts := atoms_spec (ws := wsX10_fault) B.pre
  have hown : s.vm.findClass RX10 = some m.cls := findClass_of_methodNamed B.named
  have hlocks := B.notSynchronized
  subst hsz
  have hD := hD0
  have hA : ∀ q : Nat, s.heap.size ≤ q → va_A [] s.heap.size q := fun q h => Or.inr h
  have hS : va_S (va_A [] s.heap.size) s.heap s.heap [] := va_S.rf
  have hP : va_P G vwCl [(h0, .inr (10, [.ref tp, .int 0, .int (-1), .ref ps, .ref sp, .ref tk, .ref dr, .ref pr, .ref da, .ref nw, .ref im, .int 0, .ref ac, .ref ke, .ref si, .ref tx, .ref an, .ref dw]))] s.heap := hP
  have inX10 : ∀ w ∈ wsX100, w ∈ wsX10_fault := by decide +kernel
  have hl := lv_entry ([.ref h0]) (n := 1) (Nat.le_of_ble_eq_true rfl)
  rw [lg_entry_eq]
  generalize (lg_sl ([.ref h0]) ++ List.replicate (1 - (lg_sl ([.ref h0])).length) Slot.unset).toArray = ls at hl ⊢
  have hl : lv_has ls 1 [(0, .ref h0)] := hl
  refine lv_aload_n hx hb dX10_fault_0 rfl (lv_at hl 0 rfl) ?_
  refine va_get (D := G) (ci := 10) (v := .int (-1)) (C := RX10) (T := TX10) (N := 18) hx hb hts inX10 hown hK.1 hP 0 rfl rfl 2 (by decide) (hts (.fieldLink RX10 13 "NestQuery" "faultPlace" "I") (by decide +kernel)) (fun _ h9 => h9) rfl dX10_fault_1 ?_
  refine W.widen (k := 0) (n := 0) (Nat.le_of_ble_eq_true rfl) (Nat.le_of_ble_eq_true rfl) ?_
  exact W.iret (v := (-1)) hx hb hr (fun t ht hW => ⟨⟨(-1), (), rfl, rfl, trivial⟩, hS.F ht⟩) hS.2.2 dX10_fault_4

set_option maxHeartbeats 4000000 in
set_option maxRecDepth 100000 in
theorem c_refuse0 (l : Launch) (G : va_G) (y : Nat → ClassId) (sz : Nat) (nw : Nat) (nwt : Nat) (nwb : Nat) (nwn : Nat) (nwi : Nat) (nwr : Nat)  : Met l yX6_refuse wsX6_refuse ({ frames := 0, cells := 0, slots := 0, locals := 0 }) (nq_P G y sz [.ref nw, .int 0] [(nw, .inr (6, [.ref nwt, .ref nwb, .int 0, .ref nwn, .ref nwi, .int 0, .ref nwr])), (nwr, .inl (y 0, 3, .inl (fun _ => 0)))]) (va_Qv (fun (_ : Unit) => True) (fun (u : Unit) t9 => va_P G vwCl ([]) t9.heap ∧ va_D (va_A [(nw, .inr (6, [.ref nwt, .ref nwb, .int 0, .ref nwn, .ref nwi, .int 0, .ref nwr])), (nwr, .inl (y 0, 3, .inl (fun _ => 0)))] sz) ([])) (va_A [(nw, .inr (6, [.ref nwt, .ref nwb, .int 0, .ref nwn, .ref nwi, .int 0, .ref nwr])), (nwr, .inl (y 0, 3, .inl (fun _ => 0)))] sz)) 0 0 (va_A [(nw, .inr (6, [.ref nwt, .ref nwb, .int 0, .ref nwn, .ref nwi, .int 0, .ref nwr])), (nwr, .inl (y 0, 3, .inl (fun _ => 0)))] sz) := by
  refine Met.ofW (cc := cX6_refuse) (maxL := 2) (ret := none) (by decide) rfl ?_
  intro p e s m args below meth c s₁ B hml hv
  obtain ⟨rfl, hsz, hP, hK, hD0⟩ := hv
  have hx := B.exec
  have hb := B.bytes
  have hr := B.returns
  have hts := atoms_spec (ws := wsX6_refuse) B.pre
  have hown : s.vm.findClass RX6 = some m.cls := findClass_of_methodNamed B.named
  have hlocks := B.notSynchronized
  subst hsz
  have hD := hD0.self (sz := s.heap.size)
  generalize hAe : va_A [(nw, .inr (6, [.ref nwt, .ref nwb, .int 0, .ref nwn, .ref nwi, .int 0, .ref nwr])), (nwr, .inl (y 0, 3, .inl (fun _ => 0)))] s.heap.size = A at hD ⊢
  have hA : ∀ q : Nat, s.heap.size ≤ q → A q := fun q h => by rw [← hAe]; exact Or.inr h
  have hS : va_S A s.heap s.heap [] := va_S.rf
  have hP : va_P G vwCl [(nw, .inr (6, [.ref nwt, .ref nwb, .int 0, .ref nwn, .ref nwi, .int 0, .ref nwr])), (nwr, .inl (y 0, 3, .inl (fun _ => 0)))] s.heap := hP
  have inX6 : ∀ w ∈ wsX60, w ∈ wsX6_refuse := by decide +kernel
  have hl := lv_entry ([.ref nw, .int 0]) (n := 2) (Nat.le_of_ble_eq_true rfl)
  rw [lg_entry_eq]
  generalize (lg_sl ([.ref nw, .int 0]) ++ List.replicate (2 - (lg_sl ([.ref nw, .int 0])).length) Slot.unset).toArray = ls at hl ⊢
  have hl : lv_has ls 2 [(0, .ref nw), (1, .int 0)] := hl
  refine lv_iload_n hx hb dX6_refuse_0 rfl (lv_at hl 1 rfl) ?_
  refine lv_if_lt (tgt := 23) hx hb dX6_refuse_1 (by decide) (fun c_1 => absurd c_1 (by decide)) (fun _ => ?_)
  refine lv_iload_n hx hb dX6_refuse_4 rfl (lv_at hl 1 rfl) ?_
  refine lv_aload_n hx hb dX6_refuse_5 rfl (lv_at hl 0 rfl) ?_
  refine va_get (D := G) (ci := 6) (v := .ref nwr) (C := RX6) (T := TX6) (N := 7) hx hb hts inX6 hown hK.1 hP 0 rfl rfl 6 (by decide) (hts (.fieldLink RX6 32 "NestQuery$State" "refused" "[I") (by decide +kernel)) (fun _ h9 => h9) rfl dX6_refuse_6 ?_
  refine va_alen hx hb hK.1 hP 1 0 rfl rfl (v := 3) rfl dX6_refuse_9 ?_
  refine lv_icmp_ge (tgt := 23) hx hb dX6_refuse_10 (by decide) (fun c_2 => absurd c_2 (by decide)) (fun _ => ?_)
  refine lv_aload_n hx hb dX6_refuse_13 rfl (lv_at hl 0 rfl) ?_
  refine va_get (D := G) (ci := 6) (v := .ref nwr) (C := RX6) (T := TX6) (N := 7) hx hb hts inX6 hown hK.1 hP 0 rfl rfl 6 (by decide) (hts (.fieldLink RX6 32 "NestQuery$State" "refused" "[I") (by decide +kernel)) (fun _ h9 => h9) rfl dX6_refuse_14 ?_
  refine lv_iload_n hx hb dX6_refuse_17 rfl (lv_at hl 1 rfl) ?_
  refine lv_dup2_11 hx hb dX6_refuse_18 rfl rfl ?_
  refine va_iald hx hb hK.1 hP 1 0 rfl rfl (i := 0) (nq_in (by decide)) dX6_refuse_19 ?_
  refine nq_top (z := 0) (rfl) ?_
  refine lv_iconst (v := 1) hx hb dX6_refuse_20 (by decide) ?_
  refine lv_iadd hx hb dX6_refuse_21 ?_
  refine nq_top (z := 1) (by decide) ?_
  refine va_iast hx hb hK.1 hP hD hS 1 0 rfl rfl (i := 0) (nq_in (by decide)) dX6_refuse_22 (fun H locs hP hD hS => ?_)
  have hP : va_P G vwCl [(nw, .inr (6, [.ref nwt, .ref nwb, .int 0, .ref nwn, .ref nwi, .int 0, .ref nwr])), (nwr, .inl (y 0, 3, .inl (upd (fun _ => 0) 0 1)))] H := hP
  have hD : va_D A [(nw, .inr (6, [.ref nwt, .ref nwb, .int 0, .ref nwn, .ref nwi, .int 0, .ref nwr])), (nwr, .inl (y 0, 3, .inl (upd (fun _ => 0) 0 1)))] := hD
  have hP9 := hP.sub (ws' := []) [] rfl
  have hD9 := hD.sub (ws' := []) [] (by decide) rfl
  refine W.widen (k := 0) (n := 0) (Nat.le_of_ble_eq_true rfl) (Nat.le_of_ble_eq_true rfl) ?_
  exact W.vret hx hb hr (fun t ht hW => ⟨⟨(), rfl, trivial, by rw [ht]; exact hP9, by first | exact hD9 | (rw [hAe]; exact hD9)⟩, hS.F ht⟩) hS.2.2 dX6_refuse_23

set_option maxHeartbeats 4000000 in
set_option maxRecDepth 100000 in
theorem c_refuse1 (l : Launch) (G : va_G) (y : Nat → ClassId) (sz : Nat) (nw : Nat) (nwt : Nat) (nwb : Nat) (nwn : Nat) (nwi : Nat) (nwr : Nat)  : Met l yX6_refuse wsX6_refuse ({ frames := 0, cells := 0, slots := 0, locals := 0 }) (nq_P G y sz [.ref nw, .int 1] [(nw, .inr (6, [.ref nwt, .ref nwb, .int 0, .ref nwn, .ref nwi, .int 0, .ref nwr])), (nwr, .inl (y 0, 3, .inl (fun _ => 0)))]) (va_Qv (fun (_ : Unit) => True) (fun (u : Unit) t9 => va_P G vwCl ([]) t9.heap ∧ va_D (va_A [(nw, .inr (6, [.ref nwt, .ref nwb, .int 0, .ref nwn, .ref nwi, .int 0, .ref nwr])), (nwr, .inl (y 0, 3, .inl (fun _ => 0)))] sz) ([])) (va_A [(nw, .inr (6, [.ref nwt, .ref nwb, .int 0, .ref nwn, .ref nwi, .int 0, .ref nwr])), (nwr, .inl (y 0, 3, .inl (fun _ => 0)))] sz)) 0 0 (va_A [(nw, .inr (6, [.ref nwt, .ref nwb, .int 0, .ref nwn, .ref nwi, .int 0, .ref nwr])), (nwr, .inl (y 0, 3, .inl (fun _ => 0)))] sz) := by
  refine Met.ofW (cc := cX6_refuse) (maxL := 2) (ret := none) (by decide) rfl ?_
  intro p e s m args below meth c s₁ B hml hv
  obtain ⟨rfl, hsz, hP, hK, hD0⟩ := hv
  have hx := B.exec
  have hb := B.bytes
  have hr := B.returns
  have hts := atoms_spec (ws := wsX6_refuse) B.pre
  have hown : s.vm.findClass RX6 = some m.cls := findClass_of_methodNamed B.named
  have hlocks := B.notSynchronized
  subst hsz
  have hD := hD0.self (sz := s.heap.size)
  generalize hAe : va_A [(nw, .inr (6, [.ref nwt, .ref nwb, .int 0, .ref nwn, .ref nwi, .int 0, .ref nwr])), (nwr, .inl (y 0, 3, .inl (fun _ => 0)))] s.heap.size = A at hD ⊢
  have hA : ∀ q : Nat, s.heap.size ≤ q → A q := fun q h => by rw [← hAe]; exact Or.inr h
  have hS : va_S A s.heap s.heap [] := va_S.rf
  have hP : va_P G vwCl [(nw, .inr (6, [.ref nwt, .ref nwb, .int 0, .ref nwn, .ref nwi, .int 0, .ref nwr])), (nwr, .inl (y 0, 3, .inl (fun _ => 0)))] s.heap := hP
  have inX6 : ∀ w ∈ wsX60, w ∈ wsX6_refuse := by decide +kernel
  have hl := lv_entry ([.ref nw, .int 1]) (n := 2) (Nat.le_of_ble_eq_true rfl)
  rw [lg_entry_eq]
  generalize (lg_sl ([.ref nw, .int 1]) ++ List.replicate (2 - (lg_sl ([.ref nw, .int 1])).length) Slot.unset).toArray = ls at hl ⊢
  have hl : lv_has ls 2 [(0, .ref nw), (1, .int 1)] := hl
  refine lv_iload_n hx hb dX6_refuse_0 rfl (lv_at hl 1 rfl) ?_
  refine lv_if_lt (tgt := 23) hx hb dX6_refuse_1 (by decide) (fun c_1 => absurd c_1 (by decide)) (fun _ => ?_)
  refine lv_iload_n hx hb dX6_refuse_4 rfl (lv_at hl 1 rfl) ?_
  refine lv_aload_n hx hb dX6_refuse_5 rfl (lv_at hl 0 rfl) ?_
  refine va_get (D := G) (ci := 6) (v := .ref nwr) (C := RX6) (T := TX6) (N := 7) hx hb hts inX6 hown hK.1 hP 0 rfl rfl 6 (by decide) (hts (.fieldLink RX6 32 "NestQuery$State" "refused" "[I") (by decide +kernel)) (fun _ h9 => h9) rfl dX6_refuse_6 ?_
  refine va_alen hx hb hK.1 hP 1 0 rfl rfl (v := 3) rfl dX6_refuse_9 ?_
  refine lv_icmp_ge (tgt := 23) hx hb dX6_refuse_10 (by decide) (fun c_2 => absurd c_2 (by decide)) (fun _ => ?_)
  refine lv_aload_n hx hb dX6_refuse_13 rfl (lv_at hl 0 rfl) ?_
  refine va_get (D := G) (ci := 6) (v := .ref nwr) (C := RX6) (T := TX6) (N := 7) hx hb hts inX6 hown hK.1 hP 0 rfl rfl 6 (by decide) (hts (.fieldLink RX6 32 "NestQuery$State" "refused" "[I") (by decide +kernel)) (fun _ h9 => h9) rfl dX6_refuse_14 ?_
  refine lv_iload_n hx hb dX6_refuse_17 rfl (lv_at hl 1 rfl) ?_
  refine lv_dup2_11 hx hb dX6_refuse_18 rfl rfl ?_
  refine va_iald hx hb hK.1 hP 1 0 rfl rfl (i := 1) (nq_in (by decide)) dX6_refuse_19 ?_
  refine nq_top (z := 0) (rfl) ?_
  refine lv_iconst (v := 1) hx hb dX6_refuse_20 (by decide) ?_
  refine lv_iadd hx hb dX6_refuse_21 ?_
  refine nq_top (z := 1) (by decide) ?_
  refine va_iast hx hb hK.1 hP hD hS 1 0 rfl rfl (i := 1) (nq_in (by decide)) dX6_refuse_22 (fun H locs hP hD hS => ?_)
  have hP : va_P G vwCl [(nw, .inr (6, [.ref nwt, .ref nwb, .int 0, .ref nwn, .ref nwi, .int 0, .ref nwr])), (nwr, .inl (y 0, 3, .inl (upd (fun _ => 0) 1 1)))] H := hP
  have hD : va_D A [(nw, .inr (6, [.ref nwt, .ref nwb, .int 0, .ref nwn, .ref nwi, .int 0, .ref nwr])), (nwr, .inl (y 0, 3, .inl (upd (fun _ => 0) 1 1)))] := hD
  have hP9 := hP.sub (ws' := []) [] rfl
  have hD9 := hD.sub (ws' := []) [] (by decide) rfl
  refine W.widen (k := 0) (n := 0) (Nat.le_of_ble_eq_true rfl) (Nat.le_of_ble_eq_true rfl) ?_
  exact W.vret hx hb hr (fun t ht hW => ⟨⟨(), rfl, trivial, by rw [ht]; exact hP9, by first | exact hD9 | (rw [hAe]; exact hD9)⟩, hS.F ht⟩) hS.2.2 dX6_refuse_23

set_option maxHeartbeats 4000000 in
set_option maxRecDepth 100000 in
theorem c_refuse2 (l : Launch) (G : va_G) (y : Nat → ClassId) (sz : Nat) (nw : Nat) (nwt : Nat) (nwb : Nat) (nwn : Nat) (nwi : Nat) (nwr : Nat)  : Met l yX6_refuse wsX6_refuse ({ frames := 0, cells := 0, slots := 0, locals := 0 }) (nq_P G y sz [.ref nw, .int 2] [(nw, .inr (6, [.ref nwt, .ref nwb, .int 0, .ref nwn, .ref nwi, .int 0, .ref nwr])), (nwr, .inl (y 0, 3, .inl (fun _ => 0)))]) (va_Qv (fun (_ : Unit) => True) (fun (u : Unit) t9 => va_P G vwCl ([]) t9.heap ∧ va_D (va_A [(nw, .inr (6, [.ref nwt, .ref nwb, .int 0, .ref nwn, .ref nwi, .int 0, .ref nwr])), (nwr, .inl (y 0, 3, .inl (fun _ => 0)))] sz) ([])) (va_A [(nw, .inr (6, [.ref nwt, .ref nwb, .int 0, .ref nwn, .ref nwi, .int 0, .ref nwr])), (nwr, .inl (y 0, 3, .inl (fun _ => 0)))] sz)) 0 0 (va_A [(nw, .inr (6, [.ref nwt, .ref nwb, .int 0, .ref nwn, .ref nwi, .int 0, .ref nwr])), (nwr, .inl (y 0, 3, .inl (fun _ => 0)))] sz) := by
  refine Met.ofW (cc := cX6_refuse) (maxL := 2) (ret := none) (by decide) rfl ?_
  intro p e s m args below meth c s₁ B hml hv
  obtain ⟨rfl, hsz, hP, hK, hD0⟩ := hv
  have hx := B.exec
  have hb := B.bytes
  have hr := B.returns
  have hts := atoms_spec (ws := wsX6_refuse) B.pre
  have hown : s.vm.findClass RX6 = some m.cls := findClass_of_methodNamed B.named
  have hlocks := B.notSynchronized
  subst hsz
  have hD := hD0.self (sz := s.heap.size)
  generalize hAe : va_A [(nw, .inr (6, [.ref nwt, .ref nwb, .int 0, .ref nwn, .ref nwi, .int 0, .ref nwr])), (nwr, .inl (y 0, 3, .inl (fun _ => 0)))] s.heap.size = A at hD ⊢
  have hA : ∀ q : Nat, s.heap.size ≤ q → A q := fun q h => by rw [← hAe]; exact Or.inr h
  have hS : va_S A s.heap s.heap [] := va_S.rf
  have hP : va_P G vwCl [(nw, .inr (6, [.ref nwt, .ref nwb, .int 0, .ref nwn, .ref nwi, .int 0, .ref nwr])), (nwr, .inl (y 0, 3, .inl (fun _ => 0)))] s.heap := hP
  have inX6 : ∀ w ∈ wsX60, w ∈ wsX6_refuse := by decide +kernel
  have hl := lv_entry ([.ref nw, .int 2]) (n := 2) (Nat.le_of_ble_eq_true rfl)
  rw [lg_entry_eq]
  generalize (lg_sl ([.ref nw, .int 2]) ++ List.replicate (2 - (lg_sl ([.ref nw, .int 2])).length) Slot.unset).toArray = ls at hl ⊢
  have hl : lv_has ls 2 [(0, .ref nw), (1, .int 2)] := hl
  refine lv_iload_n hx hb dX6_refuse_0 rfl (lv_at hl 1 rfl) ?_
  refine lv_if_lt (tgt := 23) hx hb dX6_refuse_1 (by decide) (fun c_1 => absurd c_1 (by decide)) (fun _ => ?_)
  refine lv_iload_n hx hb dX6_refuse_4 rfl (lv_at hl 1 rfl) ?_
  refine lv_aload_n hx hb dX6_refuse_5 rfl (lv_at hl 0 rfl) ?_
  refine va_get (D := G) (ci := 6) (v := .ref nwr) (C := RX6) (T := TX6) (N := 7) hx hb hts inX6 hown hK.1 hP 0 rfl rfl 6 (by decide) (hts (.fieldLink RX6 32 "NestQuery$State" "refused" "[I") (by decide +kernel)) (fun _ h9 => h9) rfl dX6_refuse_6 ?_
  refine va_alen hx hb hK.1 hP 1 0 rfl rfl (v := 3) rfl dX6_refuse_9 ?_
  refine lv_icmp_ge (tgt := 23) hx hb dX6_refuse_10 (by decide) (fun c_2 => absurd c_2 (by decide)) (fun _ => ?_)
  refine lv_aload_n hx hb dX6_refuse_13 rfl (lv_at hl 0 rfl) ?_
  refine va_get (D := G) (ci := 6) (v := .ref nwr) (C := RX6) (T := TX6) (N := 7) hx hb hts inX6 hown hK.1 hP 0 rfl rfl 6 (by decide) (hts (.fieldLink RX6 32 "NestQuery$State" "refused" "[I") (by decide +kernel)) (fun _ h9 => h9) rfl dX6_refuse_14 ?_
  refine lv_iload_n hx hb dX6_refuse_17 rfl (lv_at hl 1 rfl) ?_
  refine lv_dup2_11 hx hb dX6_refuse_18 rfl rfl ?_
  refine va_iald hx hb hK.1 hP 1 0 rfl rfl (i := 2) (nq_in (by decide)) dX6_refuse_19 ?_
  refine nq_top (z := 0) (rfl) ?_
  refine lv_iconst (v := 1) hx hb dX6_refuse_20 (by decide) ?_
  refine lv_iadd hx hb dX6_refuse_21 ?_
  refine nq_top (z := 1) (by decide) ?_
  refine va_iast hx hb hK.1 hP hD hS 1 0 rfl rfl (i := 2) (nq_in (by decide)) dX6_refuse_22 (fun H locs hP hD hS => ?_)
  have hP : va_P G vwCl [(nw, .inr (6, [.ref nwt, .ref nwb, .int 0, .ref nwn, .ref nwi, .int 0, .ref nwr])), (nwr, .inl (y 0, 3, .inl (upd (fun _ => 0) 2 1)))] H := hP
  have hD : va_D A [(nw, .inr (6, [.ref nwt, .ref nwb, .int 0, .ref nwn, .ref nwi, .int 0, .ref nwr])), (nwr, .inl (y 0, 3, .inl (upd (fun _ => 0) 2 1)))] := hD
  have hP9 := hP.sub (ws' := []) [] rfl
  have hD9 := hD.sub (ws' := []) [] (by decide) rfl
  refine W.widen (k := 0) (n := 0) (Nat.le_of_ble_eq_true rfl) (Nat.le_of_ble_eq_true rfl) ?_
  exact W.vret hx hb hr (fun t ht hW => ⟨⟨(), rfl, trivial, by rw [ht]; exact hP9, by first | exact hD9 | (rw [hAe]; exact hD9)⟩, hS.F ht⟩) hS.2.2 dX6_refuse_23

set_option maxHeartbeats 4000000 in
set_option maxRecDepth 100000 in
theorem c_refusedOf0 (l : Launch) (G : va_G) (y : Nat → ClassId) (sz : Nat) (nw : Nat) (nwt : Nat) (nwb : Nat) (nwn : Nat) (nwi : Nat) (nwr : Nat)  : Met l yX6_refusedOf wsX6_refusedOf ({ frames := 0, cells := 0, slots := 0, locals := 0 }) (nq_P G y sz [.ref nw, .int 0] [(nw, .inr (6, [.ref nwt, .ref nwb, .int 0, .ref nwn, .ref nwi, .int 0, .ref nwr])), (nwr, .inl (y 0, 3, .inl (fun _ => 0)))]) (va_Qi (fun (r : Int32) (_ : Unit) => r = 0) (fun _ _ => True) (va_A [] sz)) 0 0 (va_A [] sz) := by
  refine Met.ofW (cc := cX6_refusedOf) (maxL := 2) (ret := (some .int)) (by decide) rfl ?_
  intro p e s m args below meth c s₁ B hml hv
  obtain ⟨rfl, hsz, hP, hK, hD0⟩ := hv
  have hx := B.exec
  have hb := B.bytes
  have hr := B.returns
  have hts := atoms_spec (ws := wsX6_refusedOf) B.pre
  have hown : s.vm.findClass RX6 = some m.cls := findClass_of_methodNamed B.named
  have hlocks := B.notSynchronized
  subst hsz
  have hD := hD0
  have hA : ∀ q : Nat, s.heap.size ≤ q → va_A [] s.heap.size q := fun q h => Or.inr h
  have hS : va_S (va_A [] s.heap.size) s.heap s.heap [] := va_S.rf
  have hP : va_P G vwCl [(nw, .inr (6, [.ref nwt, .ref nwb, .int 0, .ref nwn, .ref nwi, .int 0, .ref nwr])), (nwr, .inl (y 0, 3, .inl (fun _ => 0)))] s.heap := hP
  have inX6 : ∀ w ∈ wsX60, w ∈ wsX6_refusedOf := by decide +kernel
  have hl := lv_entry ([.ref nw, .int 0]) (n := 2) (Nat.le_of_ble_eq_true rfl)
  rw [lg_entry_eq]
  generalize (lg_sl ([.ref nw, .int 0]) ++ List.replicate (2 - (lg_sl ([.ref nw, .int 0])).length) Slot.unset).toArray = ls at hl ⊢
  have hl : lv_has ls 2 [(0, .ref nw), (1, .int 0)] := hl
  refine lv_iload_n hx hb dX6_refusedOf_0 rfl (lv_at hl 1 rfl) ?_
  refine lv_if_lt (tgt := 13) hx hb dX6_refusedOf_1 (by decide) (fun c_1 => absurd c_1 (by decide)) (fun _ => ?_)
  refine lv_iload_n hx hb dX6_refusedOf_4 rfl (lv_at hl 1 rfl) ?_
  refine lv_aload_n hx hb dX6_refusedOf_5 rfl (lv_at hl 0 rfl) ?_
  refine va_get (D := G) (ci := 6) (v := .ref nwr) (C := RX6) (T := TX6) (N := 7) hx hb hts inX6 hown hK.1 hP 0 rfl rfl 6 (by decide) (hts (.fieldLink RX6 32 "NestQuery$State" "refused" "[I") (by decide +kernel)) (fun _ h9 => h9) rfl dX6_refusedOf_6 ?_
  refine va_alen hx hb hK.1 hP 1 0 rfl rfl (v := 3) rfl dX6_refusedOf_9 ?_
  refine lv_icmp_lt (tgt := 17) hx hb dX6_refusedOf_10 (by decide) (fun _ => ?_) (fun c_2 => absurd c_2 (by decide))
  refine lv_aload_n hx hb dX6_refusedOf_17 rfl (lv_at hl 0 rfl) ?_
  refine va_get (D := G) (ci := 6) (v := .ref nwr) (C := RX6) (T := TX6) (N := 7) hx hb hts inX6 hown hK.1 hP 0 rfl rfl 6 (by decide) (hts (.fieldLink RX6 32 "NestQuery$State" "refused" "[I") (by decide +kernel)) (fun _ h9 => h9) rfl dX6_refusedOf_18 ?_
  refine lv_iload_n hx hb dX6_refusedOf_21 rfl (lv_at hl 1 rfl) ?_
  refine va_iald hx hb hK.1 hP 1 0 rfl rfl (i := 0) (nq_in (by decide)) dX6_refusedOf_22 ?_
  refine nq_top (z := 0) (rfl) ?_
  refine W.widen (k := 0) (n := 0) (Nat.le_of_ble_eq_true rfl) (Nat.le_of_ble_eq_true rfl) ?_
  exact W.iret (v := 0) hx hb hr (fun t ht hW => ⟨⟨0, (), rfl, rfl, trivial⟩, hS.F ht⟩) hS.2.2 dX6_refusedOf_23

set_option maxHeartbeats 4000000 in
set_option maxRecDepth 100000 in
theorem c_refusedOf1 (l : Launch) (G : va_G) (y : Nat → ClassId) (sz : Nat) (nw : Nat) (nwt : Nat) (nwb : Nat) (nwn : Nat) (nwi : Nat) (nwr : Nat)  : Met l yX6_refusedOf wsX6_refusedOf ({ frames := 0, cells := 0, slots := 0, locals := 0 }) (nq_P G y sz [.ref nw, .int 1] [(nw, .inr (6, [.ref nwt, .ref nwb, .int 0, .ref nwn, .ref nwi, .int 0, .ref nwr])), (nwr, .inl (y 0, 3, .inl (fun _ => 0)))]) (va_Qi (fun (r : Int32) (_ : Unit) => r = 0) (fun _ _ => True) (va_A [] sz)) 0 0 (va_A [] sz) := by
  refine Met.ofW (cc := cX6_refusedOf) (maxL := 2) (ret := (some .int)) (by decide) rfl ?_
  intro p e s m args below meth c s₁ B hml hv
  obtain ⟨rfl, hsz, hP, hK, hD0⟩ := hv
  have hx := B.exec
  have hb := B.bytes
  have hr := B.returns
  have hts := atoms_spec (ws := wsX6_refusedOf) B.pre
  have hown : s.vm.findClass RX6 = some m.cls := findClass_of_methodNamed B.named
  have hlocks := B.notSynchronized
  subst hsz
  have hD := hD0
  have hA : ∀ q : Nat, s.heap.size ≤ q → va_A [] s.heap.size q := fun q h => Or.inr h
  have hS : va_S (va_A [] s.heap.size) s.heap s.heap [] := va_S.rf
  have hP : va_P G vwCl [(nw, .inr (6, [.ref nwt, .ref nwb, .int 0, .ref nwn, .ref nwi, .int 0, .ref nwr])), (nwr, .inl (y 0, 3, .inl (fun _ => 0)))] s.heap := hP
  have inX6 : ∀ w ∈ wsX60, w ∈ wsX6_refusedOf := by decide +kernel
  have hl := lv_entry ([.ref nw, .int 1]) (n := 2) (Nat.le_of_ble_eq_true rfl)
  rw [lg_entry_eq]
  generalize (lg_sl ([.ref nw, .int 1]) ++ List.replicate (2 - (lg_sl ([.ref nw, .int 1])).length) Slot.unset).toArray = ls at hl ⊢
  have hl : lv_has ls 2 [(0, .ref nw), (1, .int 1)] := hl
  refine lv_iload_n hx hb dX6_refusedOf_0 rfl (lv_at hl 1 rfl) ?_
  refine lv_if_lt (tgt := 13) hx hb dX6_refusedOf_1 (by decide) (fun c_1 => absurd c_1 (by decide)) (fun _ => ?_)
  refine lv_iload_n hx hb dX6_refusedOf_4 rfl (lv_at hl 1 rfl) ?_
  refine lv_aload_n hx hb dX6_refusedOf_5 rfl (lv_at hl 0 rfl) ?_
  refine va_get (D := G) (ci := 6) (v := .ref nwr) (C := RX6) (T := TX6) (N := 7) hx hb hts inX6 hown hK.1 hP 0 rfl rfl 6 (by decide) (hts (.fieldLink RX6 32 "NestQuery$State" "refused" "[I") (by decide +kernel)) (fun _ h9 => h9) rfl dX6_refusedOf_6 ?_
  refine va_alen hx hb hK.1 hP 1 0 rfl rfl (v := 3) rfl dX6_refusedOf_9 ?_
  refine lv_icmp_lt (tgt := 17) hx hb dX6_refusedOf_10 (by decide) (fun _ => ?_) (fun c_2 => absurd c_2 (by decide))
  refine lv_aload_n hx hb dX6_refusedOf_17 rfl (lv_at hl 0 rfl) ?_
  refine va_get (D := G) (ci := 6) (v := .ref nwr) (C := RX6) (T := TX6) (N := 7) hx hb hts inX6 hown hK.1 hP 0 rfl rfl 6 (by decide) (hts (.fieldLink RX6 32 "NestQuery$State" "refused" "[I") (by decide +kernel)) (fun _ h9 => h9) rfl dX6_refusedOf_18 ?_
  refine lv_iload_n hx hb dX6_refusedOf_21 rfl (lv_at hl 1 rfl) ?_
  refine va_iald hx hb hK.1 hP 1 0 rfl rfl (i := 1) (nq_in (by decide)) dX6_refusedOf_22 ?_
  refine nq_top (z := 0) (rfl) ?_
  refine W.widen (k := 0) (n := 0) (Nat.le_of_ble_eq_true rfl) (Nat.le_of_ble_eq_true rfl) ?_
  exact W.iret (v := 0) hx hb hr (fun t ht hW => ⟨⟨0, (), rfl, rfl, trivial⟩, hS.F ht⟩) hS.2.2 dX6_refusedOf_23

set_option maxHeartbeats 4000000 in
set_option maxRecDepth 100000 in
theorem c_refusedOf2 (l : Launch) (G : va_G) (y : Nat → ClassId) (sz : Nat) (nw : Nat) (nwt : Nat) (nwb : Nat) (nwn : Nat) (nwi : Nat) (nwr : Nat)  : Met l yX6_refusedOf wsX6_refusedOf ({ frames := 0, cells := 0, slots := 0, locals := 0 }) (nq_P G y sz [.ref nw, .int 2] [(nw, .inr (6, [.ref nwt, .ref nwb, .int 0, .ref nwn, .ref nwi, .int 0, .ref nwr])), (nwr, .inl (y 0, 3, .inl (fun _ => 0)))]) (va_Qi (fun (r : Int32) (_ : Unit) => r = 0) (fun _ _ => True) (va_A [] sz)) 0 0 (va_A [] sz) := by
  refine Met.ofW (cc := cX6_refusedOf) (maxL := 2) (ret := (some .int)) (by decide) rfl ?_
  intro p e s m args below meth c s₁ B hml hv
  obtain ⟨rfl, hsz, hP, hK, hD0⟩ := hv
  have hx := B.exec
  have hb := B.bytes
  have hr := B.returns
  have hts := atoms_spec (ws := wsX6_refusedOf) B.pre
  have hown : s.vm.findClass RX6 = some m.cls := findClass_of_methodNamed B.named
  have hlocks := B.notSynchronized
  subst hsz
  have hD := hD0
  have hA : ∀ q : Nat, s.heap.size ≤ q → va_A [] s.heap.size q := fun q h => Or.inr h
  have hS : va_S (va_A [] s.heap.size) s.heap s.heap [] := va_S.rf
  have hP : va_P G vwCl [(nw, .inr (6, [.ref nwt, .ref nwb, .int 0, .ref nwn, .ref nwi, .int 0, .ref nwr])), (nwr, .inl (y 0, 3, .inl (fun _ => 0)))] s.heap := hP
  have inX6 : ∀ w ∈ wsX60, w ∈ wsX6_refusedOf := by decide +kernel
  have hl := lv_entry ([.ref nw, .int 2]) (n := 2) (Nat.le_of_ble_eq_true rfl)
  rw [lg_entry_eq]
  generalize (lg_sl ([.ref nw, .int 2]) ++ List.replicate (2 - (lg_sl ([.ref nw, .int 2])).length) Slot.unset).toArray = ls at hl ⊢
  have hl : lv_has ls 2 [(0, .ref nw), (1, .int 2)] := hl
  refine lv_iload_n hx hb dX6_refusedOf_0 rfl (lv_at hl 1 rfl) ?_
  refine lv_if_lt (tgt := 13) hx hb dX6_refusedOf_1 (by decide) (fun c_1 => absurd c_1 (by decide)) (fun _ => ?_)
  refine lv_iload_n hx hb dX6_refusedOf_4 rfl (lv_at hl 1 rfl) ?_
  refine lv_aload_n hx hb dX6_refusedOf_5 rfl (lv_at hl 0 rfl) ?_
  refine va_get (D := G) (ci := 6) (v := .ref nwr) (C := RX6) (T := TX6) (N := 7) hx hb hts inX6 hown hK.1 hP 0 rfl rfl 6 (by decide) (hts (.fieldLink RX6 32 "NestQuery$State" "refused" "[I") (by decide +kernel)) (fun _ h9 => h9) rfl dX6_refusedOf_6 ?_
  refine va_alen hx hb hK.1 hP 1 0 rfl rfl (v := 3) rfl dX6_refusedOf_9 ?_
  refine lv_icmp_lt (tgt := 17) hx hb dX6_refusedOf_10 (by decide) (fun _ => ?_) (fun c_2 => absurd c_2 (by decide))
  refine lv_aload_n hx hb dX6_refusedOf_17 rfl (lv_at hl 0 rfl) ?_
  refine va_get (D := G) (ci := 6) (v := .ref nwr) (C := RX6) (T := TX6) (N := 7) hx hb hts inX6 hown hK.1 hP 0 rfl rfl 6 (by decide) (hts (.fieldLink RX6 32 "NestQuery$State" "refused" "[I") (by decide +kernel)) (fun _ h9 => h9) rfl dX6_refusedOf_18 ?_
  refine lv_iload_n hx hb dX6_refusedOf_21 rfl (lv_at hl 1 rfl) ?_
  refine va_iald hx hb hK.1 hP 1 0 rfl rfl (i := 2) (nq_in (by decide)) dX6_refusedOf_22 ?_
  refine nq_top (z := 0) (rfl) ?_
  refine W.widen (k := 0) (n := 0) (Nat.le_of_ble_eq_true rfl) (Nat.le_of_ble_eq_true rfl) ?_
  exact W.iret (v := 0) hx hb hr (fun t ht hW => ⟨⟨0, (), rfl, rfl, trivial⟩, hS.F ht⟩) hS.2.2 dX6_refusedOf_23

set_option maxHeartbeats 4000000 in
set_option maxRecDepth 100000 in
theorem c_stepBack (l : Launch) (G : va_G) (y : Nat → ClassId) (sz : Nat) (nw : Nat) (nwt : Nat) (nwb : Nat) (nwn : Nat) (nwi : Nat) (nwr : Nat)  : Met l yX6_stepBack wsX6_stepBack ({ frames := 0, cells := 0, slots := 0, locals := 0 }) (nq_P G y sz [.ref nw] [(nw, .inr (6, [.ref nwt, .ref nwb, .int 0, .ref nwn, .ref nwi, .int 0, .ref nwr]))]) (va_Qi (fun (r : Int32) (_ : Unit) => r = (-1)) (fun _ _ => True) (va_A [] sz)) 0 0 (va_A [] sz) := by
  refine Met.ofW (cc := cX6_stepBack) (maxL := 2) (ret := (some .int)) (by decide) rfl ?_
  intro p e s m args below meth c s₁ B hml hv
  obtain ⟨rfl, hsz, hP, hK, hD0⟩ := hv
  have hx := B.exec
  have hb := B.bytes
  have hr := B.returns
  have hts := atoms_spec (ws := wsX6_stepBack) B.pre
  have hown : s.vm.findClass RX6 = some m.cls := findClass_of_methodNamed B.named
  have hlocks := B.notSynchronized
  subst hsz
  have hD := hD0
  have hA : ∀ q : Nat, s.heap.size ≤ q → va_A [] s.heap.size q := fun q h => Or.inr h
  have hS : va_S (va_A [] s.heap.size) s.heap s.heap [] := va_S.rf
  have hP : va_P G vwCl [(nw, .inr (6, [.ref nwt, .ref nwb, .int 0, .ref nwn, .ref nwi, .int 0, .ref nwr]))] s.heap := hP
  have inX6 : ∀ w ∈ wsX60, w ∈ wsX6_stepBack := by decide +kernel
  have hl := lv_entry ([.ref nw]) (n := 2) (Nat.le_of_ble_eq_true rfl)
  rw [lg_entry_eq]
  generalize (lg_sl ([.ref nw]) ++ List.replicate (2 - (lg_sl ([.ref nw])).length) Slot.unset).toArray = ls at hl ⊢
  have hl : lv_has ls 2 [(0, .ref nw)] := hl
  refine lv_aload_n hx hb dX6_stepBack_0 rfl (lv_at hl 0 rfl) ?_
  refine va_get (D := G) (ci := 6) (v := .int 0) (C := RX6) (T := TX6) (N := 7) hx hb hts inX6 hown hK.1 hP 0 rfl rfl 2 (by decide) (hts (.fieldLink RX6 35 "NestQuery$State" "actCount" "I") (by decide +kernel)) (fun _ h9 => h9) rfl dX6_stepBack_1 ?_
  refine lv_iconst (v := 1) hx hb dX6_stepBack_4 (by decide) ?_
  refine lv_icmp_lt (tgt := 17) hx hb dX6_stepBack_5 (by decide) (fun _ => ?_) (fun c_1 => absurd c_1 (by decide))
  refine lv_iconst (v := (-1)) hx hb dX6_stepBack_17 (by decide) ?_
  refine W.widen (k := 0) (n := 0) (Nat.le_of_ble_eq_true rfl) (Nat.le_of_ble_eq_true rfl) ?_
  exact W.iret (v := (-1)) hx hb hr (fun t ht hW => ⟨⟨(-1), (), rfl, rfl, trivial⟩, hS.F ht⟩) hS.2.2 dX6_stepBack_18

set_option maxHeartbeats 4000000 in
set_option maxRecDepth 100000 in
theorem c_notes (l : Launch) (G : va_G) (y : Nat → ClassId) (sz : Nat) (nw : Nat) (nwt : Nat) (nwb : Nat) (nwn : Nat) (nwi : Nat) (nwr : Nat) (b : Int32)  : Met l yX6_notes wsX6_notes ({ frames := 0, cells := 0, slots := 0, locals := 0 }) (nq_P G y sz [.ref nw, .int 0, .int b] [(nw, .inr (6, [.ref nwt, .ref nwb, .int 0, .ref nwn, .ref nwi, .int 0, .ref nwr])), (nwn, .inl (y 0, 8, .inl (fun _ => 0))), (nwi, .inl (y 2, 8, .inl (fun _ => 0)))]) (va_Qi (fun (r : Int32) (_ : Unit) => r = 1) (fun (u : Unit) t9 => va_P G vwCl ([(nw, .inr (6, [.ref nwt, .ref nwb, .int 0, .ref nwn, .ref nwi, .int 1, .ref nwr]))]) t9.heap ∧ va_D (va_A [(nw, .inr (6, [.ref nwt, .ref nwb, .int 0, .ref nwn, .ref nwi, .int 0, .ref nwr])), (nwn, .inl (y 0, 8, .inl (fun _ => 0))), (nwi, .inl (y 2, 8, .inl (fun _ => 0)))] sz) ([(nw, .inr (6, [.ref nwt, .ref nwb, .int 0, .ref nwn, .ref nwi, .int 1, .ref nwr]))])) (va_A [(nw, .inr (6, [.ref nwt, .ref nwb, .int 0, .ref nwn, .ref nwi, .int 0, .ref nwr])), (nwn, .inl (y 0, 8, .inl (fun _ => 0))), (nwi, .inl (y 2, 8, .inl (fun _ => 0)))] sz)) 0 0 (va_A [(nw, .inr (6, [.ref nwt, .ref nwb, .int 0, .ref nwn, .ref nwi, .int 0, .ref nwr])), (nwn, .inl (y 0, 8, .inl (fun _ => 0))), (nwi, .inl (y 2, 8, .inl (fun _ => 0)))] sz) := by
  refine Met.ofW (cc := cX6_notes) (maxL := 3) (ret := (some .boolean)) (by decide) rfl ?_
  intro p e s m args below meth c s₁ B hml hv
  obtain ⟨rfl, hsz, hP, hK, hD0⟩ := hv
  have hx := B.exec
  have hb := B.bytes
  have hr := B.returns
  have hts := atoms_spec (ws := wsX6_notes) B.pre
  have hown : s.vm.findClass RX6 = some m.cls := findClass_of_methodNamed B.named
  have hlocks := B.notSynchronized
  subst hsz
  have hD := hD0.self (sz := s.heap.size)
  generalize hAe : va_A [(nw, .inr (6, [.ref nwt, .ref nwb, .int 0, .ref nwn, .ref nwi, .int 0, .ref nwr])), (nwn, .inl (y 0, 8, .inl (fun _ => 0))), (nwi, .inl (y 2, 8, .inl (fun _ => 0)))] s.heap.size = A at hD ⊢
  have hA : ∀ q : Nat, s.heap.size ≤ q → A q := fun q h => by rw [← hAe]; exact Or.inr h
  have hS : va_S A s.heap s.heap [] := va_S.rf
  have hP : va_P G vwCl [(nw, .inr (6, [.ref nwt, .ref nwb, .int 0, .ref nwn, .ref nwi, .int 0, .ref nwr])), (nwn, .inl (y 0, 8, .inl (fun _ => 0))), (nwi, .inl (y 2, 8, .inl (fun _ => 0)))] s.heap := hP
  have inX6 : ∀ w ∈ wsX60, w ∈ wsX6_notes := by decide +kernel
  have hl := lv_entry ([.ref nw, .int 0, .int b]) (n := 3) (Nat.le_of_ble_eq_true rfl)
  rw [lg_entry_eq]
  generalize (lg_sl ([.ref nw, .int 0, .int b]) ++ List.replicate (3 - (lg_sl ([.ref nw, .int 0, .int b])).length) Slot.unset).toArray = ls at hl ⊢
  have hl : lv_has ls 3 [(0, .ref nw), (1, .int 0), (2, .int b)] := hl
  refine lv_aload_n hx hb dX6_notes_0 rfl (lv_at hl 0 rfl) ?_
  refine va_get (D := G) (ci := 6) (v := .int 0) (C := RX6) (T := TX6) (N := 7) hx hb hts inX6 hown hK.1 hP 0 rfl rfl 5 (by decide) (hts (.fieldLink RX6 46 "NestQuery$State" "notedCount" "I") (by decide +kernel)) (fun _ h9 => h9) rfl dX6_notes_1 ?_
  refine lv_if_lt (tgt := 16) hx hb dX6_notes_4 (by decide) (fun c_1 => absurd c_1 (by decide)) (fun _ => ?_)
  refine lv_aload_n hx hb dX6_notes_7 rfl (lv_at hl 0 rfl) ?_
  refine va_get (D := G) (ci := 6) (v := .int 0) (C := RX6) (T := TX6) (N := 7) hx hb hts inX6 hown hK.1 hP 0 rfl rfl 5 (by decide) (hts (.fieldLink RX6 46 "NestQuery$State" "notedCount" "I") (by decide +kernel)) (fun _ h9 => h9) rfl dX6_notes_8 ?_
  refine lv_bipush (v := 8) hx hb dX6_notes_11 (by decide) ?_
  refine lv_icmp_lt (tgt := 18) hx hb dX6_notes_13 (by decide) (fun _ => ?_) (fun c_2 => absurd c_2 (by decide))
  refine lv_aload_n hx hb dX6_notes_18 rfl (lv_at hl 0 rfl) ?_
  refine va_get (D := G) (ci := 6) (v := .ref nwn) (C := RX6) (T := TX6) (N := 7) hx hb hts inX6 hown hK.1 hP 0 rfl rfl 3 (by decide) (hts (.fieldLink RX6 24 "NestQuery$State" "notedThings" "[I") (by decide +kernel)) (fun _ h9 => h9) rfl dX6_notes_19 ?_
  refine lv_aload_n hx hb dX6_notes_22 rfl (lv_at hl 0 rfl) ?_
  refine va_get (D := G) (ci := 6) (v := .int 0) (C := RX6) (T := TX6) (N := 7) hx hb hts inX6 hown hK.1 hP 0 rfl rfl 5 (by decide) (hts (.fieldLink RX6 46 "NestQuery$State" "notedCount" "I") (by decide +kernel)) (fun _ h9 => h9) rfl dX6_notes_23 ?_
  refine lv_iload_n hx hb dX6_notes_26 rfl (lv_at hl 1 rfl) ?_
  refine va_iast hx hb hK.1 hP hD hS 1 0 rfl rfl (i := 0) (nq_in (by decide)) dX6_notes_27 (fun H locs hP hD hS => ?_)
  have hP : va_P G vwCl [(nw, .inr (6, [.ref nwt, .ref nwb, .int 0, .ref nwn, .ref nwi, .int 0, .ref nwr])), (nwn, .inl (y 0, 8, .inl (upd (fun _ => 0) 0 0))), (nwi, .inl (y 2, 8, .inl (fun _ => 0)))] H := hP
  have hD : va_D A [(nw, .inr (6, [.ref nwt, .ref nwb, .int 0, .ref nwn, .ref nwi, .int 0, .ref nwr])), (nwn, .inl (y 0, 8, .inl (upd (fun _ => 0) 0 0))), (nwi, .inl (y 2, 8, .inl (fun _ => 0)))] := hD
  refine lv_aload_n hx hb dX6_notes_28 rfl (lv_at hl 0 rfl) ?_
  refine va_get (D := G) (ci := 6) (v := .ref nwi) (C := RX6) (T := TX6) (N := 7) hx hb hts inX6 hown hK.1 hP 0 rfl rfl 4 (by decide) (hts (.fieldLink RX6 28 "NestQuery$State" "notedIs" "[Z") (by decide +kernel)) (fun _ h9 => h9) rfl dX6_notes_29 ?_
  refine lv_aload_n hx hb dX6_notes_32 rfl (lv_at hl 0 rfl) ?_
  refine va_get (D := G) (ci := 6) (v := .int 0) (C := RX6) (T := TX6) (N := 7) hx hb hts inX6 hown hK.1 hP 0 rfl rfl 5 (by decide) (hts (.fieldLink RX6 46 "NestQuery$State" "notedCount" "I") (by decide +kernel)) (fun _ h9 => h9) rfl dX6_notes_33 ?_
  refine lv_iload_n hx hb dX6_notes_36 rfl (lv_at hl 2 rfl) ?_
  refine va_zast hx hb hK.1 hP hD hS 2 2 rfl rfl (i := 0) (nq_in (by decide)) dX6_notes_37 (fun H locs hP hD hS => ?_)
  have hP : va_P G vwCl [(nw, .inr (6, [.ref nwt, .ref nwb, .int 0, .ref nwn, .ref nwi, .int 0, .ref nwr])), (nwn, .inl (y 0, 8, .inl (upd (fun _ => 0) 0 0))), (nwi, .inl (y 2, 8, .inl (upd (fun _ => 0) 0 (vp_nar .boolean b))))] H := hP
  have hD : va_D A [(nw, .inr (6, [.ref nwt, .ref nwb, .int 0, .ref nwn, .ref nwi, .int 0, .ref nwr])), (nwn, .inl (y 0, 8, .inl (upd (fun _ => 0) 0 0))), (nwi, .inl (y 2, 8, .inl (upd (fun _ => 0) 0 (vp_nar .boolean b))))] := hD
  refine lv_aload_n hx hb dX6_notes_38 rfl (lv_at hl 0 rfl) ?_
  refine lv_dup hx hb dX6_notes_39 rfl ?_
  refine va_get (D := G) (ci := 6) (v := .int 0) (C := RX6) (T := TX6) (N := 7) hx hb hts inX6 hown hK.1 hP 0 rfl rfl 5 (by decide) (hts (.fieldLink RX6 46 "NestQuery$State" "notedCount" "I") (by decide +kernel)) (fun _ h9 => h9) rfl dX6_notes_40 ?_
  refine lv_iconst (v := 1) hx hb dX6_notes_43 (by decide) ?_
  refine lv_iadd hx hb dX6_notes_44 ?_
  refine nq_top (z := 1) (by decide) ?_
  refine va_put (D := G) (ci := 6) (v := .int 1) (ty := .int) (C := RX6) (T := TX6) (N := 7) hx hb hts inX6 tyX6 tyX6_ok nmX6 hown hK.1 hP hD hS 0 rfl rfl 5 (by decide) (hts (.fieldLink RX6 46 "NestQuery$State" "notedCount" "I") (by decide +kernel)) (fun _ h9 => h9) rfl (by decide +kernel) rfl rfl (Nat.le_of_ble_eq_true rfl) dX6_notes_45 (fun H locs hP hD hS => ?_)
  have hP : va_P G vwCl [(nw, .inr (6, [.ref nwt, .ref nwb, .int 0, .ref nwn, .ref nwi, .int 1, .ref nwr])), (nwn, .inl (y 0, 8, .inl (upd (fun _ => 0) 0 0))), (nwi, .inl (y 2, 8, .inl (upd (fun _ => 0) 0 (vp_nar .boolean b))))] H := hP
  have hD : va_D A [(nw, .inr (6, [.ref nwt, .ref nwb, .int 0, .ref nwn, .ref nwi, .int 1, .ref nwr])), (nwn, .inl (y 0, 8, .inl (upd (fun _ => 0) 0 0))), (nwi, .inl (y 2, 8, .inl (upd (fun _ => 0) 0 (vp_nar .boolean b))))] := hD
  refine lv_iconst (v := 1) hx hb dX6_notes_48 (by decide) ?_
  have hP9 := hP.sub (ws' := [(nw, .inr (6, [.ref nwt, .ref nwb, .int 0, .ref nwn, .ref nwi, .int 1, .ref nwr]))]) [0] rfl
  have hD9 := hD.sub (ws' := [(nw, .inr (6, [.ref nwt, .ref nwb, .int 0, .ref nwn, .ref nwi, .int 1, .ref nwr]))]) [0] (by decide) rfl
  refine W.widen (k := 0) (n := 0) (Nat.le_of_ble_eq_true rfl) (Nat.le_of_ble_eq_true rfl) ?_
  exact W.zret (v := 1) hx hb hr (by decide) (fun t ht hW => ⟨⟨1, (), rfl, rfl, by rw [ht]; exact hP9, by first | exact hD9 | (rw [hAe]; exact hD9)⟩, hS.F ht⟩) hS.2.2 dX6_notes_49

set_option maxHeartbeats 4000000 in
set_option maxRecDepth 100000 in
theorem c_actDone (l : Launch) (G : va_G) (y : Nat → ClassId) (sz : Nat) (h0 : Nat) (tp : Nat) (ps : Nat) (sp : Nat) (tk : Nat) (dr : Nat) (pr : Nat) (da : Nat) (nw : Nat) (im : Nat) (ac : Nat) (ke : Nat) (si : Nat) (tx : Nat) (an : Nat) (dw : Nat) (nwt : Nat) (nwb : Nat) (nwn : Nat) (nwi : Nat) (nwr : Nat)  : Met l yX10_actDone wsX10_actDone ({ frames := 1, cells := 0, slots := 0, locals := 21 }) (nq_P G y sz [.ref h0, .int (-1)] [(h0, .inr (10, [.ref tp, .int 0, .int (-1), .ref ps, .ref sp, .ref tk, .ref dr, .ref pr, .ref da, .ref nw, .ref im, .int 0, .ref ac, .ref ke, .ref si, .ref tx, .ref an, .ref dw])), (nw, .inr (6, [.ref nwt, .ref nwb, .int 0, .ref nwn, .ref nwi, .int 0, .ref nwr])), (nwr, .inl (y 0, 3, .inl (fun _ => 0)))]) (va_Qi (fun (r : Int32) (_ : Unit) => r = (-1)) (fun (u : Unit) t9 => va_P G vwCl ([]) t9.heap ∧ va_D (va_A [(h0, .inr (10, [.ref tp, .int 0, .int (-1), .ref ps, .ref sp, .ref tk, .ref dr, .ref pr, .ref da, .ref nw, .ref im, .int 0, .ref ac, .ref ke, .ref si, .ref tx, .ref an, .ref dw])), (nw, .inr (6, [.ref nwt, .ref nwb, .int 0, .ref nwn, .ref nwi, .int 0, .ref nwr])), (nwr, .inl (y 0, 3, .inl (fun _ => 0)))] sz) ([])) (va_A [(h0, .inr (10, [.ref tp, .int 0, .int (-1), .ref ps, .ref sp, .ref tk, .ref dr, .ref pr, .ref da, .ref nw, .ref im, .int 0, .ref ac, .ref ke, .ref si, .ref tx, .ref an, .ref dw])), (nw, .inr (6, [.ref nwt, .ref nwb, .int 0, .ref nwn, .ref nwi, .int 0, .ref nwr])), (nwr, .inl (y 0, 3, .inl (fun _ => 0)))] sz)) 0 0 (va_A [(h0, .inr (10, [.ref tp, .int 0, .int (-1), .ref ps, .ref sp, .ref tk, .ref dr, .ref pr, .ref da, .ref nw, .ref im, .int 0, .ref ac, .ref ke, .ref si, .ref tx, .ref an, .ref dw])), (nw, .inr (6, [.ref nwt, .ref nwb, .int 0, .ref nwn, .ref nwi, .int 0, .ref nwr])), (nwr, .inl (y 0, 3, .inl (fun _ => 0)))] sz) := by
  refine Met.ofW (cc := cX10_actDone) (maxL := 2) (ret := (some .int)) (by decide) rfl ?_
  intro p e s m args below meth c s₁ B hml hv
  obtain ⟨rfl, hsz, hP, hK, hD0⟩ := hv
  have hx := B.exec
  have hb := B.bytes
  have hr := B.returns
  have hts := atoms_spec (ws := wsX10_actDone) B.pre
  have hown : s.vm.findClass RX10 = some m.cls := findClass_of_methodNamed B.named
  have hlocks := B.notSynchronized
  subst hsz
  have hD := hD0.self (sz := s.heap.size)
  generalize hAe : va_A [(h0, .inr (10, [.ref tp, .int 0, .int (-1), .ref ps, .ref sp, .ref tk, .ref dr, .ref pr, .ref da, .ref nw, .ref im, .int 0, .ref ac, .ref ke, .ref si, .ref tx, .ref an, .ref dw])), (nw, .inr (6, [.ref nwt, .ref nwb, .int 0, .ref nwn, .ref nwi, .int 0, .ref nwr])), (nwr, .inl (y 0, 3, .inl (fun _ => 0)))] s.heap.size = A at hD ⊢
  have hA : ∀ q : Nat, s.heap.size ≤ q → A q := fun q h => by rw [← hAe]; exact Or.inr h
  have hS : va_S A s.heap s.heap [] := va_S.rf
  have hP : va_P G vwCl [(h0, .inr (10, [.ref tp, .int 0, .int (-1), .ref ps, .ref sp, .ref tk, .ref dr, .ref pr, .ref da, .ref nw, .ref im, .int 0, .ref ac, .ref ke, .ref si, .ref tx, .ref an, .ref dw])), (nw, .inr (6, [.ref nwt, .ref nwb, .int 0, .ref nwn, .ref nwi, .int 0, .ref nwr])), (nwr, .inl (y 0, 3, .inl (fun _ => 0)))] s.heap := hP
  have inX10 : ∀ w ∈ wsX100, w ∈ wsX10_actDone := by decide +kernel
  have hl := lv_entry ([.ref h0, .int (-1)]) (n := 2) (Nat.le_of_ble_eq_true rfl)
  rw [lg_entry_eq]
  generalize (lg_sl ([.ref h0, .int (-1)]) ++ List.replicate (2 - (lg_sl ([.ref h0, .int (-1)])).length) Slot.unset).toArray = ls at hl ⊢
  have hl : lv_has ls 2 [(0, .ref h0), (1, .int (-1))] := hl
  refine lv_iload_n hx hb dX10_actDone_0 rfl (lv_at hl 1 rfl) ?_
  refine lv_iconst (v := (-1)) hx hb dX10_actDone_1 (by decide) ?_
  refine lv_icmp_ne (tgt := 13) hx hb dX10_actDone_2 (by decide) (fun c_1 => absurd c_1 (by decide)) (fun _ => ?_)
  refine lv_aload_n hx hb dX10_actDone_5 rfl (lv_at hl 0 rfl) ?_
  refine va_get (D := G) (ci := 10) (v := .ref nw) (C := RX10) (T := TX10) (N := 18) hx hb hts inX10 hown hK.1 hP 0 rfl rfl 9 (by decide) (hts (.fieldLink RX10 63 "NestQuery" "now" "LNestQuery$State;") (by decide +kernel)) (fun _ h9 => h9) rfl dX10_actDone_6 ?_
  refine lv_iconst (v := 1) hx hb dX10_actDone_9 (by decide) ?_
  refine nq_wrv (wr := [(h0, .inr (10, [.ref tp, .int 0, .int (-1), .ref ps, .ref sp, .ref tk, .ref dr, .ref pr, .ref da, .ref nw, .ref im, .int 0, .ref ac, .ref ke, .ref si, .ref tx, .ref an, .ref dw]))]) (va_runV (As := [.int 1]) (rest := []) ⟨hx, hb, hml, hown, hts⟩ (c_refuse1 l G y s.heap.size nw nwt nwb nwn nwi nwr ) (cwV 1 hts gX10_actDone_X6_refuse rfl rfl rfl (by decide +kernel) ⟨Nat.le_of_ble_eq_true rfl, Nat.le_of_ble_eq_true rfl⟩) (nq_PV hK hP hD [1, 2] rfl rfl 1 rfl rfl) rfl rfl hl.1 rfl (lv_room (Nat.le_of_ble_eq_true rfl)) dX10_actDone_10 ⟨Nat.le_of_ble_eq_true rfl, Nat.le_of_ble_eq_true rfl⟩) hP hD hS hA [1, 2] [0] rfl rfl (by decide) (by decide) (fun u_2 H locs hw_3 hP hD hS => ?_)
  have hP : va_P G vwCl [(h0, .inr (10, [.ref tp, .int 0, .int (-1), .ref ps, .ref sp, .ref tk, .ref dr, .ref pr, .ref da, .ref nw, .ref im, .int 0, .ref ac, .ref ke, .ref si, .ref tx, .ref an, .ref dw]))] H := hP
  have hD : va_D A [(h0, .inr (10, [.ref tp, .int 0, .int (-1), .ref ps, .ref sp, .ref tk, .ref dr, .ref pr, .ref da, .ref nw, .ref im, .int 0, .ref ac, .ref ke, .ref si, .ref tx, .ref an, .ref dw]))] := hD
  refine lv_iload_n hx hb dX10_actDone_13 rfl (lv_at hl 1 rfl) ?_
  have hP9 := hP.sub (ws' := []) [] rfl
  have hD9 := hD.sub (ws' := []) [] (by decide) rfl
  refine W.widen (k := 0) (n := 0) (Nat.le_of_ble_eq_true rfl) (Nat.le_of_ble_eq_true rfl) ?_
  exact W.iret (v := (-1)) hx hb hr (fun t ht hW => ⟨⟨(-1), (), rfl, rfl, by rw [ht]; exact hP9, by first | exact hD9 | (rw [hAe]; exact hD9)⟩, hS.F ht⟩) hS.2.2 dX10_actDone_14

set_option maxHeartbeats 4000000 in
set_option maxRecDepth 100000 in
theorem c_pathAt (l : Launch) (G : va_G) (y : Nat → ClassId) (sz : Nat) (h0 : Nat) (tp : Nat) (ps : Nat) (sp : Nat) (tk : Nat) (dr : Nat) (pr : Nat) (da : Nat) (nw : Nat) (im : Nat) (ac : Nat) (ke : Nat) (si : Nat) (tx : Nat) (an : Nat) (dw : Nat) (i : Int32)  : Met l yX10_pathAt wsX10_pathAt ({ frames := 0, cells := 0, slots := 0, locals := 0 }) (nq_P G y sz [.ref h0, .int i] [(h0, .inr (10, [.ref tp, .int 0, .int (-1), .ref ps, .ref sp, .ref tk, .ref dr, .ref pr, .ref da, .ref nw, .ref im, .int 0, .ref ac, .ref ke, .ref si, .ref tx, .ref an, .ref dw])), (ps, .inl (y 3, 4, .inr (.inr (.inr (.inr (fun _ => none))))))]) (va_Qq (fun (r : Option Nat) (_ : Unit) => r = none) (fun _ _ => True) (va_A [] sz)) 0 0 (va_A [] sz) := by
  refine Met.ofW (cc := cX10_pathAt) (maxL := 2) (ret := (some (.object "NestQuery$Path"))) (by decide) rfl ?_
  intro p e s m args below meth c s₁ B hml hv
  obtain ⟨rfl, hsz, hP, hK, hD0⟩ := hv
  have hx := B.exec
  have hb := B.bytes
  have hr := B.returns
  have hts := atoms_spec (ws := wsX10_pathAt) B.pre
  have hown : s.vm.findClass RX10 = some m.cls := findClass_of_methodNamed B.named
  have hlocks := B.notSynchronized
  subst hsz
  have hD := hD0
  have hA : ∀ q : Nat, s.heap.size ≤ q → va_A [] s.heap.size q := fun q h => Or.inr h
  have hS : va_S (va_A [] s.heap.size) s.heap s.heap [] := va_S.rf
  have hP : va_P G vwCl [(h0, .inr (10, [.ref tp, .int 0, .int (-1), .ref ps, .ref sp, .ref tk, .ref dr, .ref pr, .ref da, .ref nw, .ref im, .int 0, .ref ac, .ref ke, .ref si, .ref tx, .ref an, .ref dw])), (ps, .inl (y 3, 4, .inr (.inr (.inr (.inr (fun _ => none))))))] s.heap := hP
  have inX10 : ∀ w ∈ wsX100, w ∈ wsX10_pathAt := by decide +kernel
  have hl := lv_entry ([.ref h0, .int i]) (n := 2) (Nat.le_of_ble_eq_true rfl)
  rw [lg_entry_eq]
  generalize (lg_sl ([.ref h0, .int i]) ++ List.replicate (2 - (lg_sl ([.ref h0, .int i])).length) Slot.unset).toArray = ls at hl ⊢
  have hl : lv_has ls 2 [(0, .ref h0), (1, .int i)] := hl
  refine lv_iload_n hx hb dX10_pathAt_0 rfl (lv_at hl 1 rfl) ?_
  refine lv_if_lt (tgt := 9) hx hb dX10_pathAt_1 (by decide) (fun c_1 => ?_) (fun c_1 => ?_)
  · refine lv_null hx hb dX10_pathAt_9 ?_
    refine lv_goto (tgt := 19) hx hb dX10_pathAt_10 (by decide) ?_
    refine W.widen (k := 0) (n := 0) (Nat.le_of_ble_eq_true rfl) (Nat.le_of_ble_eq_true rfl) ?_
    exact W.aret (v := .null) hx hb hr (Or.inl ⟨_, rfl⟩) (Or.inl rfl) (fun t ht hW => ⟨⟨none, (), rfl, rfl, trivial⟩, hS.F ht⟩) hS.2.2 dX10_pathAt_19
  · refine lv_iload_n hx hb dX10_pathAt_4 rfl (lv_at hl 1 rfl) ?_
    refine lv_iconst (v := 4) hx hb dX10_pathAt_5 (by decide) ?_
    refine lv_icmp_lt (tgt := 13) hx hb dX10_pathAt_6 (by decide) (fun c_2 => ?_) (fun c_2 => ?_)
    · refine lv_aload_n hx hb dX10_pathAt_13 rfl (lv_at hl 0 rfl) ?_
      refine va_get (D := G) (ci := 10) (v := .ref ps) (C := RX10) (T := TX10) (N := 18) hx hb hts inX10 hown hK.1 hP 0 rfl rfl 3 (by decide) (hts (.fieldLink RX10 19 "NestQuery" "paths" "[LNestQuery$Path;") (by decide +kernel)) (fun _ h9 => h9) rfl dX10_pathAt_14 ?_
      refine lv_iload_n hx hb dX10_pathAt_17 rfl (lv_at hl 1 rfl) ?_
      refine va_aldq hx hb hK.1 hP 1 3 rfl rfl (i := i) (nq_inb c_1 (nq_hlt c_2 (j := 3) (by decide)) (by decide) (by decide)) dX10_pathAt_18 ?_
      refine nq_topq (z := none) (rfl) ?_
      refine W.widen (k := 0) (n := 0) (Nat.le_of_ble_eq_true rfl) (Nat.le_of_ble_eq_true rfl) ?_
      exact W.aret (v := .null) hx hb hr (Or.inl ⟨_, rfl⟩) (Or.inl rfl) (fun t ht hW => ⟨⟨none, (), rfl, rfl, trivial⟩, hS.F ht⟩) hS.2.2 dX10_pathAt_19
    · refine lv_null hx hb dX10_pathAt_9 ?_
      refine lv_goto (tgt := 19) hx hb dX10_pathAt_10 (by decide) ?_
      refine W.widen (k := 0) (n := 0) (Nat.le_of_ble_eq_true rfl) (Nat.le_of_ble_eq_true rfl) ?_
      exact W.aret (v := .null) hx hb hr (Or.inl ⟨_, rfl⟩) (Or.inl rfl) (fun t ht hW => ⟨⟨none, (), rfl, rfl, trivial⟩, hS.F ht⟩) hS.2.2 dX10_pathAt_19

set_option maxHeartbeats 4000000 in
set_option maxRecDepth 100000 in
theorem c_pathsThere (l : Launch) (G : va_G) (y : Nat → ClassId) (sz : Nat) (h0 : Nat) (tp : Nat) (ps : Nat) (sp : Nat) (tk : Nat) (dr : Nat) (pr : Nat) (da : Nat) (nw : Nat) (im : Nat) (ac : Nat) (ke : Nat) (si : Nat) (tx : Nat) (an : Nat) (dw : Nat)  : Met l yX10_pathsThere wsX10_pathsThere ({ frames := 0, cells := 0, slots := 0, locals := 0 }) (nq_P G y sz [.ref h0] [(h0, .inr (10, [.ref tp, .int 0, .int (-1), .ref ps, .ref sp, .ref tk, .ref dr, .ref pr, .ref da, .ref nw, .ref im, .int 0, .ref ac, .ref ke, .ref si, .ref tx, .ref an, .ref dw])), (ps, .inl (y 3, 4, .inr (.inr (.inr (.inr (fun _ => none))))))]) (va_Qi (fun (r : Int32) (_ : Unit) => r = 0) (fun _ _ => True) (va_A [] sz)) 0 0 (va_A [] sz) := by
  refine Met.ofW (cc := cX10_pathsThere) (maxL := 3) (ret := (some .int)) (by decide) rfl ?_
  intro p e s m args below meth c s₁ B hml hv
  obtain ⟨rfl, hsz, hP, hK, hD0⟩ := hv
  have hx := B.exec
  have hb := B.bytes
  have hr := B.returns
  have hts := atoms_spec (ws := wsX10_pathsThere) B.pre
  have hown : s.vm.findClass RX10 = some m.cls := findClass_of_methodNamed B.named
  have hlocks := B.notSynchronized
  subst hsz
  have hD := hD0
  have hA : ∀ q : Nat, s.heap.size ≤ q → va_A [] s.heap.size q := fun q h => Or.inr h
  have hS : va_S (va_A [] s.heap.size) s.heap s.heap [] := va_S.rf
  have hP : va_P G vwCl [(h0, .inr (10, [.ref tp, .int 0, .int (-1), .ref ps, .ref sp, .ref tk, .ref dr, .ref pr, .ref da, .ref nw, .ref im, .int 0, .ref ac, .ref ke, .ref si, .ref tx, .ref an, .ref dw])), (ps, .inl (y 3, 4, .inr (.inr (.inr (.inr (fun _ => none))))))] s.heap := hP
  have inX10 : ∀ w ∈ wsX100, w ∈ wsX10_pathsThere := by decide +kernel
  have hl := lv_entry ([.ref h0]) (n := 3) (Nat.le_of_ble_eq_true rfl)
  rw [lg_entry_eq]
  generalize (lg_sl ([.ref h0]) ++ List.replicate (3 - (lg_sl ([.ref h0])).length) Slot.unset).toArray = ls at hl ⊢
  have hl : lv_has ls 3 [(0, .ref h0)] := hl
  refine lv_iconst (v := 0) hx hb dX10_pathsThere_0 (by decide) ?_
  refine lv_istore_n (lv' := [(1, .int 0), (0, .ref h0)]) hx hb dX10_pathsThere_1 rfl hl (by decide) rfl (fun ls hl => ?_)
  refine lv_iconst (v := 0) hx hb dX10_pathsThere_2 (by decide) ?_
  refine lv_istore_n (lv' := [(2, .int 0), (1, .int 0), (0, .ref h0)]) hx hb dX10_pathsThere_3 rfl hl (by decide) rfl (fun ls hl => ?_)
  refine lv_iload_n hx hb dX10_pathsThere_4 rfl (lv_at hl 0 rfl) ?_
  refine lv_iconst (v := 4) hx hb dX10_pathsThere_5 (by decide) ?_
  refine lv_icmp_ge (tgt := 30) hx hb dX10_pathsThere_6 (by decide) (fun c_1 => absurd c_1 (by decide)) (fun _ => ?_)
  refine lv_aload_n hx hb dX10_pathsThere_9 rfl (lv_at hl 2 rfl) ?_
  refine va_get (D := G) (ci := 10) (v := .ref ps) (C := RX10) (T := TX10) (N := 18) hx hb hts inX10 hown hK.1 hP 0 rfl rfl 3 (by decide) (hts (.fieldLink RX10 19 "NestQuery" "paths" "[LNestQuery$Path;") (by decide +kernel)) (fun _ h9 => h9) rfl dX10_pathsThere_10 ?_
  refine lv_iload_n hx hb dX10_pathsThere_13 rfl (lv_at hl 0 rfl) ?_
  refine va_aldq hx hb hK.1 hP 1 3 rfl rfl (i := 0) (nq_in (by decide)) dX10_pathsThere_14 ?_
  refine nq_topq (z := none) (rfl) ?_
  refine lv_ifnullN (tgt := 24) hx hb dX10_pathsThere_15 (by decide) ?_
  refine lv_iinc (v := 1) (lv' := [(2, .int 1), (1, .int 0), (0, .ref h0)]) hx hb dX10_pathsThere_24 hl (k := 0) rfl (by decide) (by decide) rfl (fun ls hl => ?_)
  refine lv_goto (tgt := 4) hx hb dX10_pathsThere_27 (by decide) ?_
  refine lv_iload_n hx hb dX10_pathsThere_4 rfl (lv_at hl 0 rfl) ?_
  refine lv_iconst (v := 4) hx hb dX10_pathsThere_5 (by decide) ?_
  refine lv_icmp_ge (tgt := 30) hx hb dX10_pathsThere_6 (by decide) (fun c_2 => absurd c_2 (by decide)) (fun _ => ?_)
  refine lv_aload_n hx hb dX10_pathsThere_9 rfl (lv_at hl 2 rfl) ?_
  refine va_get (D := G) (ci := 10) (v := .ref ps) (C := RX10) (T := TX10) (N := 18) hx hb hts inX10 hown hK.1 hP 0 rfl rfl 3 (by decide) (hts (.fieldLink RX10 19 "NestQuery" "paths" "[LNestQuery$Path;") (by decide +kernel)) (fun _ h9 => h9) rfl dX10_pathsThere_10 ?_
  refine lv_iload_n hx hb dX10_pathsThere_13 rfl (lv_at hl 0 rfl) ?_
  refine va_aldq hx hb hK.1 hP 1 3 rfl rfl (i := 1) (nq_in (by decide)) dX10_pathsThere_14 ?_
  refine nq_topq (z := none) (rfl) ?_
  refine lv_ifnullN (tgt := 24) hx hb dX10_pathsThere_15 (by decide) ?_
  refine lv_iinc (v := 2) (lv' := [(2, .int 2), (1, .int 0), (0, .ref h0)]) hx hb dX10_pathsThere_24 hl (k := 0) rfl (by decide) (by decide) rfl (fun ls hl => ?_)
  refine lv_goto (tgt := 4) hx hb dX10_pathsThere_27 (by decide) ?_
  refine lv_iload_n hx hb dX10_pathsThere_4 rfl (lv_at hl 0 rfl) ?_
  refine lv_iconst (v := 4) hx hb dX10_pathsThere_5 (by decide) ?_
  refine lv_icmp_ge (tgt := 30) hx hb dX10_pathsThere_6 (by decide) (fun c_3 => absurd c_3 (by decide)) (fun _ => ?_)
  refine lv_aload_n hx hb dX10_pathsThere_9 rfl (lv_at hl 2 rfl) ?_
  refine va_get (D := G) (ci := 10) (v := .ref ps) (C := RX10) (T := TX10) (N := 18) hx hb hts inX10 hown hK.1 hP 0 rfl rfl 3 (by decide) (hts (.fieldLink RX10 19 "NestQuery" "paths" "[LNestQuery$Path;") (by decide +kernel)) (fun _ h9 => h9) rfl dX10_pathsThere_10 ?_
  refine lv_iload_n hx hb dX10_pathsThere_13 rfl (lv_at hl 0 rfl) ?_
  refine va_aldq hx hb hK.1 hP 1 3 rfl rfl (i := 2) (nq_in (by decide)) dX10_pathsThere_14 ?_
  refine nq_topq (z := none) (rfl) ?_
  refine lv_ifnullN (tgt := 24) hx hb dX10_pathsThere_15 (by decide) ?_
  refine lv_iinc (v := 3) (lv' := [(2, .int 3), (1, .int 0), (0, .ref h0)]) hx hb dX10_pathsThere_24 hl (k := 0) rfl (by decide) (by decide) rfl (fun ls hl => ?_)
  refine lv_goto (tgt := 4) hx hb dX10_pathsThere_27 (by decide) ?_
  refine lv_iload_n hx hb dX10_pathsThere_4 rfl (lv_at hl 0 rfl) ?_
  refine lv_iconst (v := 4) hx hb dX10_pathsThere_5 (by decide) ?_
  refine lv_icmp_ge (tgt := 30) hx hb dX10_pathsThere_6 (by decide) (fun c_4 => absurd c_4 (by decide)) (fun _ => ?_)
  refine lv_aload_n hx hb dX10_pathsThere_9 rfl (lv_at hl 2 rfl) ?_
  refine va_get (D := G) (ci := 10) (v := .ref ps) (C := RX10) (T := TX10) (N := 18) hx hb hts inX10 hown hK.1 hP 0 rfl rfl 3 (by decide) (hts (.fieldLink RX10 19 "NestQuery" "paths" "[LNestQuery$Path;") (by decide +kernel)) (fun _ h9 => h9) rfl dX10_pathsThere_10 ?_
  refine lv_iload_n hx hb dX10_pathsThere_13 rfl (lv_at hl 0 rfl) ?_
  refine va_aldq hx hb hK.1 hP 1 3 rfl rfl (i := 3) (nq_in (by decide)) dX10_pathsThere_14 ?_
  refine nq_topq (z := none) (rfl) ?_
  refine lv_ifnullN (tgt := 24) hx hb dX10_pathsThere_15 (by decide) ?_
  refine lv_iinc (v := 4) (lv' := [(2, .int 4), (1, .int 0), (0, .ref h0)]) hx hb dX10_pathsThere_24 hl (k := 0) rfl (by decide) (by decide) rfl (fun ls hl => ?_)
  refine lv_goto (tgt := 4) hx hb dX10_pathsThere_27 (by decide) ?_
  refine lv_iload_n hx hb dX10_pathsThere_4 rfl (lv_at hl 0 rfl) ?_
  refine lv_iconst (v := 4) hx hb dX10_pathsThere_5 (by decide) ?_
  refine lv_icmp_ge (tgt := 30) hx hb dX10_pathsThere_6 (by decide) (fun _ => ?_) (fun c_5 => absurd c_5 (by decide))
  refine lv_iload_n hx hb dX10_pathsThere_30 rfl (lv_at hl 1 rfl) ?_
  refine W.widen (k := 0) (n := 0) (Nat.le_of_ble_eq_true rfl) (Nat.le_of_ble_eq_true rfl) ?_
  exact W.iret (v := 0) hx hb hr (fun t ht hW => ⟨⟨0, (), rfl, rfl, trivial⟩, hS.F ht⟩) hS.2.2 dX10_pathsThere_31

set_option maxHeartbeats 4000000 in
set_option maxRecDepth 100000 in
theorem c_findAnswers (l : Launch) (G : va_G) (y : Nat → ClassId) (sz : Nat) (h0 : Nat) (tp : Nat) (ps : Nat) (sp : Nat) (tk : Nat) (dr : Nat) (pr : Nat) (da : Nat) (nw : Nat) (im : Nat) (ac : Nat) (ke : Nat) (si : Nat) (tx : Nat) (an : Nat) (dw : Nat)  : Met l yX10_findAnswers wsX10_findAnswers ({ frames := 0, cells := 0, slots := 0, locals := 0 }) (nq_P G y sz [.ref h0] [(h0, .inr (10, [.ref tp, .int 0, .int (-1), .ref ps, .ref sp, .ref tk, .ref dr, .ref pr, .ref da, .ref nw, .ref im, .int 0, .ref ac, .ref ke, .ref si, .ref tx, .ref an, .ref dw])), (ps, .inl (y 3, 4, .inr (.inr (.inr (.inr (fun _ => none)))))), (an, .inl (y 1, 4, .inr (.inl (fun _ => 0))))]) (va_Qv (fun (_ : Unit) => True) (fun (u : Unit) t9 => va_P G vwCl ([(h0, .inr (10, [.ref tp, .int 0, .int (-1), .ref ps, .ref sp, .ref tk, .ref dr, .ref pr, .ref da, .ref nw, .ref im, .int 0, .ref ac, .ref ke, .ref si, .ref tx, .ref an, .ref dw])), (ps, .inl (y 3, 4, .inr (.inr (.inr (.inr (fun _ => none)))))), (an, .inl (y 1, 4, .inr (.inl (vp_updL (vp_updL (vp_updL (vp_updL (fun _ => 0) 0 0) 1 0) 2 0) 3 0))))]) t9.heap ∧ va_D (va_A [(h0, .inr (10, [.ref tp, .int 0, .int (-1), .ref ps, .ref sp, .ref tk, .ref dr, .ref pr, .ref da, .ref nw, .ref im, .int 0, .ref ac, .ref ke, .ref si, .ref tx, .ref an, .ref dw])), (ps, .inl (y 3, 4, .inr (.inr (.inr (.inr (fun _ => none)))))), (an, .inl (y 1, 4, .inr (.inl (fun _ => 0))))] sz) ([(h0, .inr (10, [.ref tp, .int 0, .int (-1), .ref ps, .ref sp, .ref tk, .ref dr, .ref pr, .ref da, .ref nw, .ref im, .int 0, .ref ac, .ref ke, .ref si, .ref tx, .ref an, .ref dw])), (ps, .inl (y 3, 4, .inr (.inr (.inr (.inr (fun _ => none)))))), (an, .inl (y 1, 4, .inr (.inl (vp_updL (vp_updL (vp_updL (vp_updL (fun _ => 0) 0 0) 1 0) 2 0) 3 0))))])) (va_A [(h0, .inr (10, [.ref tp, .int 0, .int (-1), .ref ps, .ref sp, .ref tk, .ref dr, .ref pr, .ref da, .ref nw, .ref im, .int 0, .ref ac, .ref ke, .ref si, .ref tx, .ref an, .ref dw])), (ps, .inl (y 3, 4, .inr (.inr (.inr (.inr (fun _ => none)))))), (an, .inl (y 1, 4, .inr (.inl (fun _ => 0))))] sz)) 0 0 (va_A [(h0, .inr (10, [.ref tp, .int 0, .int (-1), .ref ps, .ref sp, .ref tk, .ref dr, .ref pr, .ref da, .ref nw, .ref im, .int 0, .ref ac, .ref ke, .ref si, .ref tx, .ref an, .ref dw])), (ps, .inl (y 3, 4, .inr (.inr (.inr (.inr (fun _ => none)))))), (an, .inl (y 1, 4, .inr (.inl (fun _ => 0))))] sz) := by
  refine Met.ofW (cc := cX10_findAnswers) (maxL := 3) (ret := none) (by decide) rfl ?_
  intro p e s m args below meth c s₁ B hml hv
  obtain ⟨rfl, hsz, hP, hK, hD0⟩ := hv
  have hx := B.exec
  have hb := B.bytes
  have hr := B.returns
  have hts := atoms_spec (ws := wsX10_findAnswers) B.pre
  have hown : s.vm.findClass RX10 = some m.cls := findClass_of_methodNamed B.named
  have hlocks := B.notSynchronized
  subst hsz
  have hD := hD0.self (sz := s.heap.size)
  generalize hAe : va_A [(h0, .inr (10, [.ref tp, .int 0, .int (-1), .ref ps, .ref sp, .ref tk, .ref dr, .ref pr, .ref da, .ref nw, .ref im, .int 0, .ref ac, .ref ke, .ref si, .ref tx, .ref an, .ref dw])), (ps, .inl (y 3, 4, .inr (.inr (.inr (.inr (fun _ => none)))))), (an, .inl (y 1, 4, .inr (.inl (fun _ => 0))))] s.heap.size = A at hD ⊢
  have hA : ∀ q : Nat, s.heap.size ≤ q → A q := fun q h => by rw [← hAe]; exact Or.inr h
  have hS : va_S A s.heap s.heap [] := va_S.rf
  have hP : va_P G vwCl [(h0, .inr (10, [.ref tp, .int 0, .int (-1), .ref ps, .ref sp, .ref tk, .ref dr, .ref pr, .ref da, .ref nw, .ref im, .int 0, .ref ac, .ref ke, .ref si, .ref tx, .ref an, .ref dw])), (ps, .inl (y 3, 4, .inr (.inr (.inr (.inr (fun _ => none)))))), (an, .inl (y 1, 4, .inr (.inl (fun _ => 0))))] s.heap := hP
  have inX10 : ∀ w ∈ wsX100, w ∈ wsX10_findAnswers := by decide +kernel
  have hl := lv_entry ([.ref h0]) (n := 3) (Nat.le_of_ble_eq_true rfl)
  rw [lg_entry_eq]
  generalize (lg_sl ([.ref h0]) ++ List.replicate (3 - (lg_sl ([.ref h0])).length) Slot.unset).toArray = ls at hl ⊢
  have hl : lv_has ls 3 [(0, .ref h0)] := hl
  refine lv_iconst (v := 0) hx hb dX10_findAnswers_0 (by decide) ?_
  refine lv_istore_n (lv' := [(1, .int 0), (0, .ref h0)]) hx hb dX10_findAnswers_1 rfl hl (by decide) rfl (fun ls hl => ?_)
  refine lv_iload_n hx hb dX10_findAnswers_2 rfl (lv_at hl 0 rfl) ?_
  refine lv_iconst (v := 4) hx hb dX10_findAnswers_3 (by decide) ?_
  refine lv_icmp_ge (tgt := 47) hx hb dX10_findAnswers_4 (by decide) (fun c_1 => absurd c_1 (by decide)) (fun _ => ?_)
  refine lv_aload_n hx hb dX10_findAnswers_7 rfl (lv_at hl 1 rfl) ?_
  refine va_get (D := G) (ci := 10) (v := .ref ps) (C := RX10) (T := TX10) (N := 18) hx hb hts inX10 hown hK.1 hP 0 rfl rfl 3 (by decide) (hts (.fieldLink RX10 19 "NestQuery" "paths" "[LNestQuery$Path;") (by decide +kernel)) (fun _ h9 => h9) rfl dX10_findAnswers_8 ?_
  refine lv_iload_n hx hb dX10_findAnswers_11 rfl (lv_at hl 0 rfl) ?_
  refine va_aldq hx hb hK.1 hP 1 3 rfl rfl (i := 0) (nq_in (by decide)) dX10_findAnswers_12 ?_
  refine nq_topq (z := none) (rfl) ?_
  refine lv_astore_nN (lv' := [(2, .null), (1, .int 0), (0, .ref h0)]) hx hb dX10_findAnswers_13 rfl hl (by decide) rfl (fun ls hl => ?_)
  refine lv_aload_n hx hb dX10_findAnswers_14 rfl (lv_at hl 2 rfl) ?_
  refine va_get (D := G) (ci := 10) (v := .ref an) (C := RX10) (T := TX10) (N := 18) hx hb hts inX10 hown hK.1 hP 0 rfl rfl 16 (by decide) (hts (.fieldLink RX10 96 "NestQuery" "answers" "[J") (by decide +kernel)) (fun _ h9 => h9) rfl dX10_findAnswers_15 ?_
  refine lv_iload_n hx hb dX10_findAnswers_18 rfl (lv_at hl 1 rfl) ?_
  refine lv_aload_nN hx hb dX10_findAnswers_19 rfl (lv_at hl 0 rfl) ?_
  refine lv_ifnonnullN hx hb dX10_findAnswers_20 ?_
  refine lv_lconst (v := 0) hx hb dX10_findAnswers_23 (by decide) ?_
  refine lv_goto (tgt := 40) hx hb dX10_findAnswers_24 (by decide) ?_
  refine va_last hx hb hK.1 hP hD hS 2 1 rfl rfl (i := 0) (nq_in (by decide)) dX10_findAnswers_40 (fun H locs hP hD hS => ?_)
  have hP : va_P G vwCl [(h0, .inr (10, [.ref tp, .int 0, .int (-1), .ref ps, .ref sp, .ref tk, .ref dr, .ref pr, .ref da, .ref nw, .ref im, .int 0, .ref ac, .ref ke, .ref si, .ref tx, .ref an, .ref dw])), (ps, .inl (y 3, 4, .inr (.inr (.inr (.inr (fun _ => none)))))), (an, .inl (y 1, 4, .inr (.inl (vp_updL (fun _ => 0) 0 0))))] H := hP
  have hD : va_D A [(h0, .inr (10, [.ref tp, .int 0, .int (-1), .ref ps, .ref sp, .ref tk, .ref dr, .ref pr, .ref da, .ref nw, .ref im, .int 0, .ref ac, .ref ke, .ref si, .ref tx, .ref an, .ref dw])), (ps, .inl (y 3, 4, .inr (.inr (.inr (.inr (fun _ => none)))))), (an, .inl (y 1, 4, .inr (.inl (vp_updL (fun _ => 0) 0 0))))] := hD
  refine lv_iinc (v := 1) (lv' := [(1, .int 1), (2, .null), (0, .ref h0)]) hx hb dX10_findAnswers_41 hl (k := 1) rfl (by decide) (by decide) rfl (fun ls hl => ?_)
  refine lv_goto (tgt := 2) hx hb dX10_findAnswers_44 (by decide) ?_
  refine lv_iload_n hx hb dX10_findAnswers_2 rfl (lv_at hl 0 rfl) ?_
  refine lv_iconst (v := 4) hx hb dX10_findAnswers_3 (by decide) ?_
  refine lv_icmp_ge (tgt := 47) hx hb dX10_findAnswers_4 (by decide) (fun c_2 => absurd c_2 (by decide)) (fun _ => ?_)
  refine lv_aload_n hx hb dX10_findAnswers_7 rfl (lv_at hl 2 rfl) ?_
  refine va_get (D := G) (ci := 10) (v := .ref ps) (C := RX10) (T := TX10) (N := 18) hx hb hts inX10 hown hK.1 hP 0 rfl rfl 3 (by decide) (hts (.fieldLink RX10 19 "NestQuery" "paths" "[LNestQuery$Path;") (by decide +kernel)) (fun _ h9 => h9) rfl dX10_findAnswers_8 ?_
  refine lv_iload_n hx hb dX10_findAnswers_11 rfl (lv_at hl 0 rfl) ?_
  refine va_aldq hx hb hK.1 hP 1 3 rfl rfl (i := 1) (nq_in (by decide)) dX10_findAnswers_12 ?_
  refine nq_topq (z := none) (rfl) ?_
  refine lv_astore_nN (lv' := [(2, .null), (1, .int 1), (0, .ref h0)]) hx hb dX10_findAnswers_13 rfl hl (by decide) rfl (fun ls hl => ?_)
  refine lv_aload_n hx hb dX10_findAnswers_14 rfl (lv_at hl 2 rfl) ?_
  refine va_get (D := G) (ci := 10) (v := .ref an) (C := RX10) (T := TX10) (N := 18) hx hb hts inX10 hown hK.1 hP 0 rfl rfl 16 (by decide) (hts (.fieldLink RX10 96 "NestQuery" "answers" "[J") (by decide +kernel)) (fun _ h9 => h9) rfl dX10_findAnswers_15 ?_
  refine lv_iload_n hx hb dX10_findAnswers_18 rfl (lv_at hl 1 rfl) ?_
  refine lv_aload_nN hx hb dX10_findAnswers_19 rfl (lv_at hl 0 rfl) ?_
  refine lv_ifnonnullN hx hb dX10_findAnswers_20 ?_
  refine lv_lconst (v := 0) hx hb dX10_findAnswers_23 (by decide) ?_
  refine lv_goto (tgt := 40) hx hb dX10_findAnswers_24 (by decide) ?_
  refine va_last hx hb hK.1 hP hD hS 2 1 rfl rfl (i := 1) (nq_in (by decide)) dX10_findAnswers_40 (fun H locs hP hD hS => ?_)
  have hP : va_P G vwCl [(h0, .inr (10, [.ref tp, .int 0, .int (-1), .ref ps, .ref sp, .ref tk, .ref dr, .ref pr, .ref da, .ref nw, .ref im, .int 0, .ref ac, .ref ke, .ref si, .ref tx, .ref an, .ref dw])), (ps, .inl (y 3, 4, .inr (.inr (.inr (.inr (fun _ => none)))))), (an, .inl (y 1, 4, .inr (.inl (vp_updL (vp_updL (fun _ => 0) 0 0) 1 0))))] H := hP
  have hD : va_D A [(h0, .inr (10, [.ref tp, .int 0, .int (-1), .ref ps, .ref sp, .ref tk, .ref dr, .ref pr, .ref da, .ref nw, .ref im, .int 0, .ref ac, .ref ke, .ref si, .ref tx, .ref an, .ref dw])), (ps, .inl (y 3, 4, .inr (.inr (.inr (.inr (fun _ => none)))))), (an, .inl (y 1, 4, .inr (.inl (vp_updL (vp_updL (fun _ => 0) 0 0) 1 0))))] := hD
  refine lv_iinc (v := 2) (lv' := [(1, .int 2), (2, .null), (0, .ref h0)]) hx hb dX10_findAnswers_41 hl (k := 1) rfl (by decide) (by decide) rfl (fun ls hl => ?_)
  refine lv_goto (tgt := 2) hx hb dX10_findAnswers_44 (by decide) ?_
  refine lv_iload_n hx hb dX10_findAnswers_2 rfl (lv_at hl 0 rfl) ?_
  refine lv_iconst (v := 4) hx hb dX10_findAnswers_3 (by decide) ?_
  refine lv_icmp_ge (tgt := 47) hx hb dX10_findAnswers_4 (by decide) (fun c_3 => absurd c_3 (by decide)) (fun _ => ?_)
  refine lv_aload_n hx hb dX10_findAnswers_7 rfl (lv_at hl 2 rfl) ?_
  refine va_get (D := G) (ci := 10) (v := .ref ps) (C := RX10) (T := TX10) (N := 18) hx hb hts inX10 hown hK.1 hP 0 rfl rfl 3 (by decide) (hts (.fieldLink RX10 19 "NestQuery" "paths" "[LNestQuery$Path;") (by decide +kernel)) (fun _ h9 => h9) rfl dX10_findAnswers_8 ?_
  refine lv_iload_n hx hb dX10_findAnswers_11 rfl (lv_at hl 0 rfl) ?_
  refine va_aldq hx hb hK.1 hP 1 3 rfl rfl (i := 2) (nq_in (by decide)) dX10_findAnswers_12 ?_
  refine nq_topq (z := none) (rfl) ?_
  refine lv_astore_nN (lv' := [(2, .null), (1, .int 2), (0, .ref h0)]) hx hb dX10_findAnswers_13 rfl hl (by decide) rfl (fun ls hl => ?_)
  refine lv_aload_n hx hb dX10_findAnswers_14 rfl (lv_at hl 2 rfl) ?_
  refine va_get (D := G) (ci := 10) (v := .ref an) (C := RX10) (T := TX10) (N := 18) hx hb hts inX10 hown hK.1 hP 0 rfl rfl 16 (by decide) (hts (.fieldLink RX10 96 "NestQuery" "answers" "[J") (by decide +kernel)) (fun _ h9 => h9) rfl dX10_findAnswers_15 ?_
  refine lv_iload_n hx hb dX10_findAnswers_18 rfl (lv_at hl 1 rfl) ?_
  refine lv_aload_nN hx hb dX10_findAnswers_19 rfl (lv_at hl 0 rfl) ?_
  refine lv_ifnonnullN hx hb dX10_findAnswers_20 ?_
  refine lv_lconst (v := 0) hx hb dX10_findAnswers_23 (by decide) ?_
  refine lv_goto (tgt := 40) hx hb dX10_findAnswers_24 (by decide) ?_
  refine va_last hx hb hK.1 hP hD hS 2 1 rfl rfl (i := 2) (nq_in (by decide)) dX10_findAnswers_40 (fun H locs hP hD hS => ?_)
  have hP : va_P G vwCl [(h0, .inr (10, [.ref tp, .int 0, .int (-1), .ref ps, .ref sp, .ref tk, .ref dr, .ref pr, .ref da, .ref nw, .ref im, .int 0, .ref ac, .ref ke, .ref si, .ref tx, .ref an, .ref dw])), (ps, .inl (y 3, 4, .inr (.inr (.inr (.inr (fun _ => none)))))), (an, .inl (y 1, 4, .inr (.inl (vp_updL (vp_updL (vp_updL (fun _ => 0) 0 0) 1 0) 2 0))))] H := hP
  have hD : va_D A [(h0, .inr (10, [.ref tp, .int 0, .int (-1), .ref ps, .ref sp, .ref tk, .ref dr, .ref pr, .ref da, .ref nw, .ref im, .int 0, .ref ac, .ref ke, .ref si, .ref tx, .ref an, .ref dw])), (ps, .inl (y 3, 4, .inr (.inr (.inr (.inr (fun _ => none)))))), (an, .inl (y 1, 4, .inr (.inl (vp_updL (vp_updL (vp_updL (fun _ => 0) 0 0) 1 0) 2 0))))] := hD
  refine lv_iinc (v := 3) (lv' := [(1, .int 3), (2, .null), (0, .ref h0)]) hx hb dX10_findAnswers_41 hl (k := 1) rfl (by decide) (by decide) rfl (fun ls hl => ?_)
  refine lv_goto (tgt := 2) hx hb dX10_findAnswers_44 (by decide) ?_
  refine lv_iload_n hx hb dX10_findAnswers_2 rfl (lv_at hl 0 rfl) ?_
  refine lv_iconst (v := 4) hx hb dX10_findAnswers_3 (by decide) ?_
  refine lv_icmp_ge (tgt := 47) hx hb dX10_findAnswers_4 (by decide) (fun c_4 => absurd c_4 (by decide)) (fun _ => ?_)
  refine lv_aload_n hx hb dX10_findAnswers_7 rfl (lv_at hl 2 rfl) ?_
  refine va_get (D := G) (ci := 10) (v := .ref ps) (C := RX10) (T := TX10) (N := 18) hx hb hts inX10 hown hK.1 hP 0 rfl rfl 3 (by decide) (hts (.fieldLink RX10 19 "NestQuery" "paths" "[LNestQuery$Path;") (by decide +kernel)) (fun _ h9 => h9) rfl dX10_findAnswers_8 ?_
  refine lv_iload_n hx hb dX10_findAnswers_11 rfl (lv_at hl 0 rfl) ?_
  refine va_aldq hx hb hK.1 hP 1 3 rfl rfl (i := 3) (nq_in (by decide)) dX10_findAnswers_12 ?_
  refine nq_topq (z := none) (rfl) ?_
  refine lv_astore_nN (lv' := [(2, .null), (1, .int 3), (0, .ref h0)]) hx hb dX10_findAnswers_13 rfl hl (by decide) rfl (fun ls hl => ?_)
  refine lv_aload_n hx hb dX10_findAnswers_14 rfl (lv_at hl 2 rfl) ?_
  refine va_get (D := G) (ci := 10) (v := .ref an) (C := RX10) (T := TX10) (N := 18) hx hb hts inX10 hown hK.1 hP 0 rfl rfl 16 (by decide) (hts (.fieldLink RX10 96 "NestQuery" "answers" "[J") (by decide +kernel)) (fun _ h9 => h9) rfl dX10_findAnswers_15 ?_
  refine lv_iload_n hx hb dX10_findAnswers_18 rfl (lv_at hl 1 rfl) ?_
  refine lv_aload_nN hx hb dX10_findAnswers_19 rfl (lv_at hl 0 rfl) ?_
  refine lv_ifnonnullN hx hb dX10_findAnswers_20 ?_
  refine lv_lconst (v := 0) hx hb dX10_findAnswers_23 (by decide) ?_
  refine lv_goto (tgt := 40) hx hb dX10_findAnswers_24 (by decide) ?_
  refine va_last hx hb hK.1 hP hD hS 2 1 rfl rfl (i := 3) (nq_in (by decide)) dX10_findAnswers_40 (fun H locs hP hD hS => ?_)
  have hP : va_P G vwCl [(h0, .inr (10, [.ref tp, .int 0, .int (-1), .ref ps, .ref sp, .ref tk, .ref dr, .ref pr, .ref da, .ref nw, .ref im, .int 0, .ref ac, .ref ke, .ref si, .ref tx, .ref an, .ref dw])), (ps, .inl (y 3, 4, .inr (.inr (.inr (.inr (fun _ => none)))))), (an, .inl (y 1, 4, .inr (.inl (vp_updL (vp_updL (vp_updL (vp_updL (fun _ => 0) 0 0) 1 0) 2 0) 3 0))))] H := hP
  have hD : va_D A [(h0, .inr (10, [.ref tp, .int 0, .int (-1), .ref ps, .ref sp, .ref tk, .ref dr, .ref pr, .ref da, .ref nw, .ref im, .int 0, .ref ac, .ref ke, .ref si, .ref tx, .ref an, .ref dw])), (ps, .inl (y 3, 4, .inr (.inr (.inr (.inr (fun _ => none)))))), (an, .inl (y 1, 4, .inr (.inl (vp_updL (vp_updL (vp_updL (vp_updL (fun _ => 0) 0 0) 1 0) 2 0) 3 0))))] := hD
  refine lv_iinc (v := 4) (lv' := [(1, .int 4), (2, .null), (0, .ref h0)]) hx hb dX10_findAnswers_41 hl (k := 1) rfl (by decide) (by decide) rfl (fun ls hl => ?_)
  refine lv_goto (tgt := 2) hx hb dX10_findAnswers_44 (by decide) ?_
  refine lv_iload_n hx hb dX10_findAnswers_2 rfl (lv_at hl 0 rfl) ?_
  refine lv_iconst (v := 4) hx hb dX10_findAnswers_3 (by decide) ?_
  refine lv_icmp_ge (tgt := 47) hx hb dX10_findAnswers_4 (by decide) (fun _ => ?_) (fun c_5 => absurd c_5 (by decide))
  have hP9 := hP.sub (ws' := [(h0, .inr (10, [.ref tp, .int 0, .int (-1), .ref ps, .ref sp, .ref tk, .ref dr, .ref pr, .ref da, .ref nw, .ref im, .int 0, .ref ac, .ref ke, .ref si, .ref tx, .ref an, .ref dw])), (ps, .inl (y 3, 4, .inr (.inr (.inr (.inr (fun _ => none)))))), (an, .inl (y 1, 4, .inr (.inl (vp_updL (vp_updL (vp_updL (vp_updL (fun _ => 0) 0 0) 1 0) 2 0) 3 0))))]) [0, 1, 2] rfl
  have hD9 := hD.sub (ws' := [(h0, .inr (10, [.ref tp, .int 0, .int (-1), .ref ps, .ref sp, .ref tk, .ref dr, .ref pr, .ref da, .ref nw, .ref im, .int 0, .ref ac, .ref ke, .ref si, .ref tx, .ref an, .ref dw])), (ps, .inl (y 3, 4, .inr (.inr (.inr (.inr (fun _ => none)))))), (an, .inl (y 1, 4, .inr (.inl (vp_updL (vp_updL (vp_updL (vp_updL (fun _ => 0) 0 0) 1 0) 2 0) 3 0))))]) [0, 1, 2] (by decide) rfl
  refine W.widen (k := 0) (n := 0) (Nat.le_of_ble_eq_true rfl) (Nat.le_of_ble_eq_true rfl) ?_
  exact W.vret hx hb hr (fun t ht hW => ⟨⟨(), rfl, trivial, by rw [ht]; exact hP9, by first | exact hD9 | (rw [hAe]; exact hD9)⟩, hS.F ht⟩) hS.2.2 dX10_findAnswers_47

set_option maxHeartbeats 4000000 in
set_option maxRecDepth 100000 in
theorem c_pathsThatFit (l : Launch) (G : va_G) (y : Nat → ClassId) (sz : Nat) (h0 : Nat) (tp : Nat) (ps : Nat) (sp : Nat) (tk : Nat) (dr : Nat) (pr : Nat) (da : Nat) (nw : Nat) (im : Nat) (ac : Nat) (ke : Nat) (si : Nat) (tx : Nat) (an : Nat) (dw : Nat)  : Met l yX10_pathsThatFit wsX10_pathsThatFit ({ frames := 1, cells := 0, slots := 0, locals := 22 }) (nq_P G y sz [.ref h0] [(h0, .inr (10, [.ref tp, .int 0, .int (-1), .ref ps, .ref sp, .ref tk, .ref dr, .ref pr, .ref da, .ref nw, .ref im, .int 0, .ref ac, .ref ke, .ref si, .ref tx, .ref an, .ref dw])), (ps, .inl (y 3, 4, .inr (.inr (.inr (.inr (fun _ => none)))))), (an, .inl (y 1, 4, .inr (.inl (fun _ => 0))))]) (va_Qi (fun (r : Int32) (_ : Unit) => r = 0) (fun (u : Unit) t9 => va_P G vwCl ([(h0, .inr (10, [.ref tp, .int 0, .int (-1), .ref ps, .ref sp, .ref tk, .ref dr, .ref pr, .ref da, .ref nw, .ref im, .int 0, .ref ac, .ref ke, .ref si, .ref tx, .ref an, .ref dw])), (ps, .inl (y 3, 4, .inr (.inr (.inr (.inr (fun _ => none)))))), (an, .inl (y 1, 4, .inr (.inl (vp_updL (vp_updL (vp_updL (vp_updL (fun _ => 0) 0 0) 1 0) 2 0) 3 0))))]) t9.heap ∧ va_D (va_A [(h0, .inr (10, [.ref tp, .int 0, .int (-1), .ref ps, .ref sp, .ref tk, .ref dr, .ref pr, .ref da, .ref nw, .ref im, .int 0, .ref ac, .ref ke, .ref si, .ref tx, .ref an, .ref dw])), (ps, .inl (y 3, 4, .inr (.inr (.inr (.inr (fun _ => none)))))), (an, .inl (y 1, 4, .inr (.inl (fun _ => 0))))] sz) ([(h0, .inr (10, [.ref tp, .int 0, .int (-1), .ref ps, .ref sp, .ref tk, .ref dr, .ref pr, .ref da, .ref nw, .ref im, .int 0, .ref ac, .ref ke, .ref si, .ref tx, .ref an, .ref dw])), (ps, .inl (y 3, 4, .inr (.inr (.inr (.inr (fun _ => none)))))), (an, .inl (y 1, 4, .inr (.inl (vp_updL (vp_updL (vp_updL (vp_updL (fun _ => 0) 0 0) 1 0) 2 0) 3 0))))])) (va_A [(h0, .inr (10, [.ref tp, .int 0, .int (-1), .ref ps, .ref sp, .ref tk, .ref dr, .ref pr, .ref da, .ref nw, .ref im, .int 0, .ref ac, .ref ke, .ref si, .ref tx, .ref an, .ref dw])), (ps, .inl (y 3, 4, .inr (.inr (.inr (.inr (fun _ => none)))))), (an, .inl (y 1, 4, .inr (.inl (fun _ => 0))))] sz)) 0 0 (va_A [(h0, .inr (10, [.ref tp, .int 0, .int (-1), .ref ps, .ref sp, .ref tk, .ref dr, .ref pr, .ref da, .ref nw, .ref im, .int 0, .ref ac, .ref ke, .ref si, .ref tx, .ref an, .ref dw])), (ps, .inl (y 3, 4, .inr (.inr (.inr (.inr (fun _ => none)))))), (an, .inl (y 1, 4, .inr (.inl (fun _ => 0))))] sz) := by
  refine Met.ofW (cc := cX10_pathsThatFit) (maxL := 3) (ret := (some .int)) (by decide) rfl ?_
  intro p e s m args below meth c s₁ B hml hv
  obtain ⟨rfl, hsz, hP, hK, hD0⟩ := hv
  have hx := B.exec
  have hb := B.bytes
  have hr := B.returns
  have hts := atoms_spec (ws := wsX10_pathsThatFit) B.pre
  have hown : s.vm.findClass RX10 = some m.cls := findClass_of_methodNamed B.named
  have hlocks := B.notSynchronized
  subst hsz
  have hD := hD0.self (sz := s.heap.size)
  generalize hAe : va_A [(h0, .inr (10, [.ref tp, .int 0, .int (-1), .ref ps, .ref sp, .ref tk, .ref dr, .ref pr, .ref da, .ref nw, .ref im, .int 0, .ref ac, .ref ke, .ref si, .ref tx, .ref an, .ref dw])), (ps, .inl (y 3, 4, .inr (.inr (.inr (.inr (fun _ => none)))))), (an, .inl (y 1, 4, .inr (.inl (fun _ => 0))))] s.heap.size = A at hD ⊢
  have hA : ∀ q : Nat, s.heap.size ≤ q → A q := fun q h => by rw [← hAe]; exact Or.inr h
  have hS : va_S A s.heap s.heap [] := va_S.rf
  have hP : va_P G vwCl [(h0, .inr (10, [.ref tp, .int 0, .int (-1), .ref ps, .ref sp, .ref tk, .ref dr, .ref pr, .ref da, .ref nw, .ref im, .int 0, .ref ac, .ref ke, .ref si, .ref tx, .ref an, .ref dw])), (ps, .inl (y 3, 4, .inr (.inr (.inr (.inr (fun _ => none)))))), (an, .inl (y 1, 4, .inr (.inl (fun _ => 0))))] s.heap := hP
  have inX10 : ∀ w ∈ wsX100, w ∈ wsX10_pathsThatFit := by decide +kernel
  have hl := lv_entry ([.ref h0]) (n := 3) (Nat.le_of_ble_eq_true rfl)
  rw [lg_entry_eq]
  generalize (lg_sl ([.ref h0]) ++ List.replicate (3 - (lg_sl ([.ref h0])).length) Slot.unset).toArray = ls at hl ⊢
  have hl : lv_has ls 3 [(0, .ref h0)] := hl
  refine lv_aload_n hx hb dX10_pathsThatFit_0 rfl (lv_at hl 0 rfl) ?_
  refine nq_wrv (wr := []) (va_runV (As := []) (rest := []) ⟨hx, hb, hml, hown, hts⟩ (c_findAnswers l G y s.heap.size h0 tp ps sp tk dr pr da nw im ac ke si tx an dw ) (cwV 0 hts gX10_pathsThatFit_X10_findAnswers rfl rfl rfl (by decide +kernel) ⟨Nat.le_of_ble_eq_true rfl, Nat.le_of_ble_eq_true rfl⟩) (nq_PV hK hP hD [0, 1, 2] rfl rfl 0 rfl rfl) rfl rfl hl.1 rfl (lv_room (Nat.le_of_ble_eq_true rfl)) dX10_pathsThatFit_1 ⟨Nat.le_of_ble_eq_true rfl, Nat.le_of_ble_eq_true rfl⟩) hP hD hS hA [0, 1, 2] [] rfl rfl (by decide) (by decide) (fun u_1 H locs hw_2 hP hD hS => ?_)
  have hP : va_P G vwCl [(h0, .inr (10, [.ref tp, .int 0, .int (-1), .ref ps, .ref sp, .ref tk, .ref dr, .ref pr, .ref da, .ref nw, .ref im, .int 0, .ref ac, .ref ke, .ref si, .ref tx, .ref an, .ref dw])), (ps, .inl (y 3, 4, .inr (.inr (.inr (.inr (fun _ => none)))))), (an, .inl (y 1, 4, .inr (.inl (vp_updL (vp_updL (vp_updL (vp_updL (fun _ => 0) 0 0) 1 0) 2 0) 3 0))))] H := hP
  have hD : va_D A [(h0, .inr (10, [.ref tp, .int 0, .int (-1), .ref ps, .ref sp, .ref tk, .ref dr, .ref pr, .ref da, .ref nw, .ref im, .int 0, .ref ac, .ref ke, .ref si, .ref tx, .ref an, .ref dw])), (ps, .inl (y 3, 4, .inr (.inr (.inr (.inr (fun _ => none)))))), (an, .inl (y 1, 4, .inr (.inl (vp_updL (vp_updL (vp_updL (vp_updL (fun _ => 0) 0 0) 1 0) 2 0) 3 0))))] := hD
  refine lv_iconst (v := 0) hx hb dX10_pathsThatFit_4 (by decide) ?_
  refine lv_istore_n (lv' := [(1, .int 0), (0, .ref h0)]) hx hb dX10_pathsThatFit_5 rfl hl (by decide) rfl (fun ls hl => ?_)
  refine lv_iconst (v := 0) hx hb dX10_pathsThatFit_6 (by decide) ?_
  refine lv_istore_n (lv' := [(2, .int 0), (1, .int 0), (0, .ref h0)]) hx hb dX10_pathsThatFit_7 rfl hl (by decide) rfl (fun ls hl => ?_)
  refine lv_iload_n hx hb dX10_pathsThatFit_8 rfl (lv_at hl 0 rfl) ?_
  refine lv_iconst (v := 4) hx hb dX10_pathsThatFit_9 (by decide) ?_
  refine lv_icmp_ge (tgt := 50) hx hb dX10_pathsThatFit_10 (by decide) (fun c_4 => absurd c_4 (by decide)) (fun _ => ?_)
  refine lv_aload_n hx hb dX10_pathsThatFit_13 rfl (lv_at hl 2 rfl) ?_
  refine va_get (D := G) (ci := 10) (v := .ref ps) (C := RX10) (T := TX10) (N := 18) hx hb hts inX10 hown hK.1 hP 0 rfl rfl 3 (by decide) (hts (.fieldLink RX10 19 "NestQuery" "paths" "[LNestQuery$Path;") (by decide +kernel)) (fun _ h9 => h9) rfl dX10_pathsThatFit_14 ?_
  refine lv_iload_n hx hb dX10_pathsThatFit_17 rfl (lv_at hl 0 rfl) ?_
  refine va_aldq hx hb hK.1 hP 1 3 rfl rfl (i := 0) (nq_in (by decide)) dX10_pathsThatFit_18 ?_
  refine nq_topq (z := none) (rfl) ?_
  refine lv_ifnullN (tgt := 44) hx hb dX10_pathsThatFit_19 (by decide) ?_
  refine lv_iinc (v := 1) (lv' := [(2, .int 1), (1, .int 0), (0, .ref h0)]) hx hb dX10_pathsThatFit_44 hl (k := 0) rfl (by decide) (by decide) rfl (fun ls hl => ?_)
  refine lv_goto (tgt := 8) hx hb dX10_pathsThatFit_47 (by decide) ?_
  refine lv_iload_n hx hb dX10_pathsThatFit_8 rfl (lv_at hl 0 rfl) ?_
  refine lv_iconst (v := 4) hx hb dX10_pathsThatFit_9 (by decide) ?_
  refine lv_icmp_ge (tgt := 50) hx hb dX10_pathsThatFit_10 (by decide) (fun c_5 => absurd c_5 (by decide)) (fun _ => ?_)
  refine lv_aload_n hx hb dX10_pathsThatFit_13 rfl (lv_at hl 2 rfl) ?_
  refine va_get (D := G) (ci := 10) (v := .ref ps) (C := RX10) (T := TX10) (N := 18) hx hb hts inX10 hown hK.1 hP 0 rfl rfl 3 (by decide) (hts (.fieldLink RX10 19 "NestQuery" "paths" "[LNestQuery$Path;") (by decide +kernel)) (fun _ h9 => h9) rfl dX10_pathsThatFit_14 ?_
  refine lv_iload_n hx hb dX10_pathsThatFit_17 rfl (lv_at hl 0 rfl) ?_
  refine va_aldq hx hb hK.1 hP 1 3 rfl rfl (i := 1) (nq_in (by decide)) dX10_pathsThatFit_18 ?_
  refine nq_topq (z := none) (rfl) ?_
  refine lv_ifnullN (tgt := 44) hx hb dX10_pathsThatFit_19 (by decide) ?_
  refine lv_iinc (v := 2) (lv' := [(2, .int 2), (1, .int 0), (0, .ref h0)]) hx hb dX10_pathsThatFit_44 hl (k := 0) rfl (by decide) (by decide) rfl (fun ls hl => ?_)
  refine lv_goto (tgt := 8) hx hb dX10_pathsThatFit_47 (by decide) ?_
  refine lv_iload_n hx hb dX10_pathsThatFit_8 rfl (lv_at hl 0 rfl) ?_
  refine lv_iconst (v := 4) hx hb dX10_pathsThatFit_9 (by decide) ?_
  refine lv_icmp_ge (tgt := 50) hx hb dX10_pathsThatFit_10 (by decide) (fun c_6 => absurd c_6 (by decide)) (fun _ => ?_)
  refine lv_aload_n hx hb dX10_pathsThatFit_13 rfl (lv_at hl 2 rfl) ?_
  refine va_get (D := G) (ci := 10) (v := .ref ps) (C := RX10) (T := TX10) (N := 18) hx hb hts inX10 hown hK.1 hP 0 rfl rfl 3 (by decide) (hts (.fieldLink RX10 19 "NestQuery" "paths" "[LNestQuery$Path;") (by decide +kernel)) (fun _ h9 => h9) rfl dX10_pathsThatFit_14 ?_
  refine lv_iload_n hx hb dX10_pathsThatFit_17 rfl (lv_at hl 0 rfl) ?_
  refine va_aldq hx hb hK.1 hP 1 3 rfl rfl (i := 2) (nq_in (by decide)) dX10_pathsThatFit_18 ?_
  refine nq_topq (z := none) (rfl) ?_
  refine lv_ifnullN (tgt := 44) hx hb dX10_pathsThatFit_19 (by decide) ?_
  refine lv_iinc (v := 3) (lv' := [(2, .int 3), (1, .int 0), (0, .ref h0)]) hx hb dX10_pathsThatFit_44 hl (k := 0) rfl (by decide) (by decide) rfl (fun ls hl => ?_)
  refine lv_goto (tgt := 8) hx hb dX10_pathsThatFit_47 (by decide) ?_
  refine lv_iload_n hx hb dX10_pathsThatFit_8 rfl (lv_at hl 0 rfl) ?_
  refine lv_iconst (v := 4) hx hb dX10_pathsThatFit_9 (by decide) ?_
  refine lv_icmp_ge (tgt := 50) hx hb dX10_pathsThatFit_10 (by decide) (fun c_7 => absurd c_7 (by decide)) (fun _ => ?_)
  refine lv_aload_n hx hb dX10_pathsThatFit_13 rfl (lv_at hl 2 rfl) ?_
  refine va_get (D := G) (ci := 10) (v := .ref ps) (C := RX10) (T := TX10) (N := 18) hx hb hts inX10 hown hK.1 hP 0 rfl rfl 3 (by decide) (hts (.fieldLink RX10 19 "NestQuery" "paths" "[LNestQuery$Path;") (by decide +kernel)) (fun _ h9 => h9) rfl dX10_pathsThatFit_14 ?_
  refine lv_iload_n hx hb dX10_pathsThatFit_17 rfl (lv_at hl 0 rfl) ?_
  refine va_aldq hx hb hK.1 hP 1 3 rfl rfl (i := 3) (nq_in (by decide)) dX10_pathsThatFit_18 ?_
  refine nq_topq (z := none) (rfl) ?_
  refine lv_ifnullN (tgt := 44) hx hb dX10_pathsThatFit_19 (by decide) ?_
  refine lv_iinc (v := 4) (lv' := [(2, .int 4), (1, .int 0), (0, .ref h0)]) hx hb dX10_pathsThatFit_44 hl (k := 0) rfl (by decide) (by decide) rfl (fun ls hl => ?_)
  refine lv_goto (tgt := 8) hx hb dX10_pathsThatFit_47 (by decide) ?_
  refine lv_iload_n hx hb dX10_pathsThatFit_8 rfl (lv_at hl 0 rfl) ?_
  refine lv_iconst (v := 4) hx hb dX10_pathsThatFit_9 (by decide) ?_
  refine lv_icmp_ge (tgt := 50) hx hb dX10_pathsThatFit_10 (by decide) (fun _ => ?_) (fun c_8 => absurd c_8 (by decide))
  refine lv_iload_n hx hb dX10_pathsThatFit_50 rfl (lv_at hl 1 rfl) ?_
  have hP9 := hP.sub (ws' := [(h0, .inr (10, [.ref tp, .int 0, .int (-1), .ref ps, .ref sp, .ref tk, .ref dr, .ref pr, .ref da, .ref nw, .ref im, .int 0, .ref ac, .ref ke, .ref si, .ref tx, .ref an, .ref dw])), (ps, .inl (y 3, 4, .inr (.inr (.inr (.inr (fun _ => none)))))), (an, .inl (y 1, 4, .inr (.inl (vp_updL (vp_updL (vp_updL (vp_updL (fun _ => 0) 0 0) 1 0) 2 0) 3 0))))]) [0, 1, 2] rfl
  have hD9 := hD.sub (ws' := [(h0, .inr (10, [.ref tp, .int 0, .int (-1), .ref ps, .ref sp, .ref tk, .ref dr, .ref pr, .ref da, .ref nw, .ref im, .int 0, .ref ac, .ref ke, .ref si, .ref tx, .ref an, .ref dw])), (ps, .inl (y 3, 4, .inr (.inr (.inr (.inr (fun _ => none)))))), (an, .inl (y 1, 4, .inr (.inl (vp_updL (vp_updL (vp_updL (vp_updL (fun _ => 0) 0 0) 1 0) 2 0) 3 0))))]) [0, 1, 2] (by decide) rfl
  refine W.widen (k := 0) (n := 0) (Nat.le_of_ble_eq_true rfl) (Nat.le_of_ble_eq_true rfl) ?_
  exact W.iret (v := 0) hx hb hr (fun t ht hW => ⟨⟨0, (), rfl, rfl, by rw [ht]; exact hP9, by first | exact hD9 | (rw [hAe]; exact hD9)⟩, hS.F ht⟩) hS.2.2 dX10_pathsThatFit_51

set_option maxHeartbeats 4000000 in
set_option maxRecDepth 100000 in
theorem c_foundAmong (l : Launch) (G : va_G) (y : Nat → ClassId) (sz : Nat) (h0 : Nat) (tp : Nat) (ps : Nat) (sp : Nat) (tk : Nat) (dr : Nat) (pr : Nat) (da : Nat) (nw : Nat) (im : Nat) (ac : Nat) (ke : Nat) (si : Nat) (tx : Nat) (an : Nat) (dw : Nat) (f : Nat → Int64)  : Met l yX10_foundAmong wsX10_foundAmong ({ frames := 0, cells := 0, slots := 0, locals := 0 }) (nq_P G y sz [.ref h0, .int 0, .int 0] [(h0, .inr (10, [.ref tp, .int 0, .int (-1), .ref ps, .ref sp, .ref tk, .ref dr, .ref pr, .ref da, .ref nw, .ref im, .int 0, .ref ac, .ref ke, .ref si, .ref tx, .ref an, .ref dw])), (an, .inl (y 1, 4, .inr (.inl f)))]) (va_Qi (fun (r : Int32) (_ : Unit) => r = 0) (fun _ _ => True) (va_A [] sz)) 0 0 (va_A [] sz) := by
  refine Met.ofW (cc := cX10_foundAmong) (maxL := 5) (ret := (some .int)) (by decide) rfl ?_
  intro p e s m args below meth c s₁ B hml hv
  obtain ⟨rfl, hsz, hP, hK, hD0⟩ := hv
  have hx := B.exec
  have hb := B.bytes
  have hr := B.returns
  have hts := atoms_spec (ws := wsX10_foundAmong) B.pre
  have hown : s.vm.findClass RX10 = some m.cls := findClass_of_methodNamed B.named
  have hlocks := B.notSynchronized
  subst hsz
  have hD := hD0
  have hA : ∀ q : Nat, s.heap.size ≤ q → va_A [] s.heap.size q := fun q h => Or.inr h
  have hS : va_S (va_A [] s.heap.size) s.heap s.heap [] := va_S.rf
  have hP : va_P G vwCl [(h0, .inr (10, [.ref tp, .int 0, .int (-1), .ref ps, .ref sp, .ref tk, .ref dr, .ref pr, .ref da, .ref nw, .ref im, .int 0, .ref ac, .ref ke, .ref si, .ref tx, .ref an, .ref dw])), (an, .inl (y 1, 4, .inr (.inl f)))] s.heap := hP
  have hl := lv_entry ([.ref h0, .int 0, .int 0]) (n := 5) (Nat.le_of_ble_eq_true rfl)
  rw [lg_entry_eq]
  generalize (lg_sl ([.ref h0, .int 0, .int 0]) ++ List.replicate (5 - (lg_sl ([.ref h0, .int 0, .int 0])).length) Slot.unset).toArray = ls at hl ⊢
  have hl : lv_has ls 5 [(0, .ref h0), (1, .int 0), (2, .int 0)] := hl
  refine lv_iconst (v := 0) hx hb dX10_foundAmong_0 (by decide) ?_
  refine lv_istore_n (lv' := [(3, .int 0), (0, .ref h0), (1, .int 0), (2, .int 0)]) hx hb dX10_foundAmong_1 rfl hl (by decide) rfl (fun ls hl => ?_)
  refine lv_iconst (v := 0) hx hb dX10_foundAmong_2 (by decide) ?_
  refine lv_istore (lv' := [(4, .int 0), (3, .int 0), (0, .ref h0), (1, .int 0), (2, .int 0)]) hx hb dX10_foundAmong_3 hl (by decide) rfl (fun ls hl => ?_)
  refine lv_iload hx hb dX10_foundAmong_5 (lv_at hl 0 rfl) ?_
  refine lv_iconst (v := 4) hx hb dX10_foundAmong_7 (by decide) ?_
  refine lv_icmp_ge (tgt := 43) hx hb dX10_foundAmong_8 (by decide) (fun c_1 => absurd c_1 (by decide)) (fun _ => ?_)
  refine lv_iload_n hx hb dX10_foundAmong_11 rfl (lv_at hl 4 rfl) ?_
  refine lv_iload hx hb dX10_foundAmong_12 (lv_at hl 0 rfl) ?_
  refine lv_iushr (v := 0) hx hb dX10_foundAmong_14 (by decide) ?_
  refine lv_iconst (v := 1) hx hb dX10_foundAmong_15 (by decide) ?_
  refine lv_iand hx hb dX10_foundAmong_16 ?_
  refine nq_top (z := 0) (by decide) ?_
  refine lv_if_eq (tgt := 37) hx hb dX10_foundAmong_17 (by decide) (fun _ => ?_) (fun c_2 => absurd c_2 (by decide))
  refine lv_iinc (v := 1) (lv' := [(4, .int 1), (3, .int 0), (0, .ref h0), (1, .int 0), (2, .int 0)]) hx hb dX10_foundAmong_37 hl (k := 0) rfl (by decide) (by decide) rfl (fun ls hl => ?_)
  refine lv_goto (tgt := 5) hx hb dX10_foundAmong_40 (by decide) ?_
  refine lv_iload hx hb dX10_foundAmong_5 (lv_at hl 0 rfl) ?_
  refine lv_iconst (v := 4) hx hb dX10_foundAmong_7 (by decide) ?_
  refine lv_icmp_ge (tgt := 43) hx hb dX10_foundAmong_8 (by decide) (fun c_3 => absurd c_3 (by decide)) (fun _ => ?_)
  refine lv_iload_n hx hb dX10_foundAmong_11 rfl (lv_at hl 4 rfl) ?_
  refine lv_iload hx hb dX10_foundAmong_12 (lv_at hl 0 rfl) ?_
  refine lv_iushr (v := 0) hx hb dX10_foundAmong_14 (by decide) ?_
  refine lv_iconst (v := 1) hx hb dX10_foundAmong_15 (by decide) ?_
  refine lv_iand hx hb dX10_foundAmong_16 ?_
  refine nq_top (z := 0) (by decide) ?_
  refine lv_if_eq (tgt := 37) hx hb dX10_foundAmong_17 (by decide) (fun _ => ?_) (fun c_4 => absurd c_4 (by decide))
  refine lv_iinc (v := 2) (lv' := [(4, .int 2), (3, .int 0), (0, .ref h0), (1, .int 0), (2, .int 0)]) hx hb dX10_foundAmong_37 hl (k := 0) rfl (by decide) (by decide) rfl (fun ls hl => ?_)
  refine lv_goto (tgt := 5) hx hb dX10_foundAmong_40 (by decide) ?_
  refine lv_iload hx hb dX10_foundAmong_5 (lv_at hl 0 rfl) ?_
  refine lv_iconst (v := 4) hx hb dX10_foundAmong_7 (by decide) ?_
  refine lv_icmp_ge (tgt := 43) hx hb dX10_foundAmong_8 (by decide) (fun c_5 => absurd c_5 (by decide)) (fun _ => ?_)
  refine lv_iload_n hx hb dX10_foundAmong_11 rfl (lv_at hl 4 rfl) ?_
  refine lv_iload hx hb dX10_foundAmong_12 (lv_at hl 0 rfl) ?_
  refine lv_iushr (v := 0) hx hb dX10_foundAmong_14 (by decide) ?_
  refine lv_iconst (v := 1) hx hb dX10_foundAmong_15 (by decide) ?_
  refine lv_iand hx hb dX10_foundAmong_16 ?_
  refine nq_top (z := 0) (by decide) ?_
  refine lv_if_eq (tgt := 37) hx hb dX10_foundAmong_17 (by decide) (fun _ => ?_) (fun c_6 => absurd c_6 (by decide))
  refine lv_iinc (v := 3) (lv' := [(4, .int 3), (3, .int 0), (0, .ref h0), (1, .int 0), (2, .int 0)]) hx hb dX10_foundAmong_37 hl (k := 0) rfl (by decide) (by decide) rfl (fun ls hl => ?_)
  refine lv_goto (tgt := 5) hx hb dX10_foundAmong_40 (by decide) ?_
  refine lv_iload hx hb dX10_foundAmong_5 (lv_at hl 0 rfl) ?_
  refine lv_iconst (v := 4) hx hb dX10_foundAmong_7 (by decide) ?_
  refine lv_icmp_ge (tgt := 43) hx hb dX10_foundAmong_8 (by decide) (fun c_7 => absurd c_7 (by decide)) (fun _ => ?_)
  refine lv_iload_n hx hb dX10_foundAmong_11 rfl (lv_at hl 4 rfl) ?_
  refine lv_iload hx hb dX10_foundAmong_12 (lv_at hl 0 rfl) ?_
  refine lv_iushr (v := 0) hx hb dX10_foundAmong_14 (by decide) ?_
  refine lv_iconst (v := 1) hx hb dX10_foundAmong_15 (by decide) ?_
  refine lv_iand hx hb dX10_foundAmong_16 ?_
  refine nq_top (z := 0) (by decide) ?_
  refine lv_if_eq (tgt := 37) hx hb dX10_foundAmong_17 (by decide) (fun _ => ?_) (fun c_8 => absurd c_8 (by decide))
  refine lv_iinc (v := 4) (lv' := [(4, .int 4), (3, .int 0), (0, .ref h0), (1, .int 0), (2, .int 0)]) hx hb dX10_foundAmong_37 hl (k := 0) rfl (by decide) (by decide) rfl (fun ls hl => ?_)
  refine lv_goto (tgt := 5) hx hb dX10_foundAmong_40 (by decide) ?_
  refine lv_iload hx hb dX10_foundAmong_5 (lv_at hl 0 rfl) ?_
  refine lv_iconst (v := 4) hx hb dX10_foundAmong_7 (by decide) ?_
  refine lv_icmp_ge (tgt := 43) hx hb dX10_foundAmong_8 (by decide) (fun _ => ?_) (fun c_9 => absurd c_9 (by decide))
  refine lv_iload_n hx hb dX10_foundAmong_43 rfl (lv_at hl 1 rfl) ?_
  refine W.widen (k := 0) (n := 0) (Nat.le_of_ble_eq_true rfl) (Nat.le_of_ble_eq_true rfl) ?_
  exact W.iret (v := 0) hx hb hr (fun t ht hW => ⟨⟨0, (), rfl, rfl, trivial⟩, hS.F ht⟩) hS.2.2 dX10_foundAmong_44

set_option maxHeartbeats 4000000 in
set_option maxRecDepth 100000 in
theorem c_pathsAnswering (l : Launch) (G : va_G) (y : Nat → ClassId) (sz : Nat) (h0 : Nat) (tp : Nat) (ps : Nat) (sp : Nat) (tk : Nat) (dr : Nat) (pr : Nat) (da : Nat) (nw : Nat) (im : Nat) (ac : Nat) (ke : Nat) (si : Nat) (tx : Nat) (an : Nat) (dw : Nat)  : Met l yX10_pathsAnswering wsX10_pathsAnswering ({ frames := 1, cells := 0, slots := 0, locals := 24 }) (nq_P G y sz [.ref h0, .int 0] [(h0, .inr (10, [.ref tp, .int 0, .int (-1), .ref ps, .ref sp, .ref tk, .ref dr, .ref pr, .ref da, .ref nw, .ref im, .int 0, .ref ac, .ref ke, .ref si, .ref tx, .ref an, .ref dw])), (ps, .inl (y 3, 4, .inr (.inr (.inr (.inr (fun _ => none)))))), (an, .inl (y 1, 4, .inr (.inl (fun _ => 0))))]) (va_Qi (fun (r : Int32) (_ : Unit) => r = 0) (fun (u : Unit) t9 => va_P G vwCl ([]) t9.heap ∧ va_D (va_A [(h0, .inr (10, [.ref tp, .int 0, .int (-1), .ref ps, .ref sp, .ref tk, .ref dr, .ref pr, .ref da, .ref nw, .ref im, .int 0, .ref ac, .ref ke, .ref si, .ref tx, .ref an, .ref dw])), (ps, .inl (y 3, 4, .inr (.inr (.inr (.inr (fun _ => none)))))), (an, .inl (y 1, 4, .inr (.inl (fun _ => 0))))] sz) ([])) (va_A [(h0, .inr (10, [.ref tp, .int 0, .int (-1), .ref ps, .ref sp, .ref tk, .ref dr, .ref pr, .ref da, .ref nw, .ref im, .int 0, .ref ac, .ref ke, .ref si, .ref tx, .ref an, .ref dw])), (ps, .inl (y 3, 4, .inr (.inr (.inr (.inr (fun _ => none)))))), (an, .inl (y 1, 4, .inr (.inl (fun _ => 0))))] sz)) 0 0 (va_A [(h0, .inr (10, [.ref tp, .int 0, .int (-1), .ref ps, .ref sp, .ref tk, .ref dr, .ref pr, .ref da, .ref nw, .ref im, .int 0, .ref ac, .ref ke, .ref si, .ref tx, .ref an, .ref dw])), (ps, .inl (y 3, 4, .inr (.inr (.inr (.inr (fun _ => none)))))), (an, .inl (y 1, 4, .inr (.inl (fun _ => 0))))] sz) := by
  refine Met.ofW (cc := cX10_pathsAnswering) (maxL := 2) (ret := (some .int)) (by decide) rfl ?_
  intro p e s m args below meth c s₁ B hml hv
  obtain ⟨rfl, hsz, hP, hK, hD0⟩ := hv
  have hx := B.exec
  have hb := B.bytes
  have hr := B.returns
  have hts := atoms_spec (ws := wsX10_pathsAnswering) B.pre
  have hown : s.vm.findClass RX10 = some m.cls := findClass_of_methodNamed B.named
  have hlocks := B.notSynchronized
  subst hsz
  have hD := hD0.self (sz := s.heap.size)
  generalize hAe : va_A [(h0, .inr (10, [.ref tp, .int 0, .int (-1), .ref ps, .ref sp, .ref tk, .ref dr, .ref pr, .ref da, .ref nw, .ref im, .int 0, .ref ac, .ref ke, .ref si, .ref tx, .ref an, .ref dw])), (ps, .inl (y 3, 4, .inr (.inr (.inr (.inr (fun _ => none)))))), (an, .inl (y 1, 4, .inr (.inl (fun _ => 0))))] s.heap.size = A at hD ⊢
  have hA : ∀ q : Nat, s.heap.size ≤ q → A q := fun q h => by rw [← hAe]; exact Or.inr h
  have hS : va_S A s.heap s.heap [] := va_S.rf
  have hP : va_P G vwCl [(h0, .inr (10, [.ref tp, .int 0, .int (-1), .ref ps, .ref sp, .ref tk, .ref dr, .ref pr, .ref da, .ref nw, .ref im, .int 0, .ref ac, .ref ke, .ref si, .ref tx, .ref an, .ref dw])), (ps, .inl (y 3, 4, .inr (.inr (.inr (.inr (fun _ => none)))))), (an, .inl (y 1, 4, .inr (.inl (fun _ => 0))))] s.heap := hP
  have hl := lv_entry ([.ref h0, .int 0]) (n := 2) (Nat.le_of_ble_eq_true rfl)
  rw [lg_entry_eq]
  generalize (lg_sl ([.ref h0, .int 0]) ++ List.replicate (2 - (lg_sl ([.ref h0, .int 0])).length) Slot.unset).toArray = ls at hl ⊢
  have hl : lv_has ls 2 [(0, .ref h0), (1, .int 0)] := hl
  refine lv_aload_n hx hb dX10_pathsAnswering_0 rfl (lv_at hl 0 rfl) ?_
  refine nq_wrv (wr := []) (va_runV (As := []) (rest := []) ⟨hx, hb, hml, hown, hts⟩ (c_findAnswers l G y s.heap.size h0 tp ps sp tk dr pr da nw im ac ke si tx an dw ) (cwV 0 hts gX10_pathsAnswering_X10_findAnswers rfl rfl rfl (by decide +kernel) ⟨Nat.le_of_ble_eq_true rfl, Nat.le_of_ble_eq_true rfl⟩) (nq_PV hK hP hD [0, 1, 2] rfl rfl 0 rfl rfl) rfl rfl hl.1 rfl (lv_room (Nat.le_of_ble_eq_true rfl)) dX10_pathsAnswering_1 ⟨Nat.le_of_ble_eq_true rfl, Nat.le_of_ble_eq_true rfl⟩) hP hD hS hA [0, 1, 2] [] rfl rfl (by decide) (by decide) (fun u_1 H locs hw_2 hP hD hS => ?_)
  have hP : va_P G vwCl [(h0, .inr (10, [.ref tp, .int 0, .int (-1), .ref ps, .ref sp, .ref tk, .ref dr, .ref pr, .ref da, .ref nw, .ref im, .int 0, .ref ac, .ref ke, .ref si, .ref tx, .ref an, .ref dw])), (ps, .inl (y 3, 4, .inr (.inr (.inr (.inr (fun _ => none)))))), (an, .inl (y 1, 4, .inr (.inl (vp_updL (vp_updL (vp_updL (vp_updL (fun _ => 0) 0 0) 1 0) 2 0) 3 0))))] H := hP
  have hD : va_D A [(h0, .inr (10, [.ref tp, .int 0, .int (-1), .ref ps, .ref sp, .ref tk, .ref dr, .ref pr, .ref da, .ref nw, .ref im, .int 0, .ref ac, .ref ke, .ref si, .ref tx, .ref an, .ref dw])), (ps, .inl (y 3, 4, .inr (.inr (.inr (.inr (fun _ => none)))))), (an, .inl (y 1, 4, .inr (.inl (vp_updL (vp_updL (vp_updL (vp_updL (fun _ => 0) 0 0) 1 0) 2 0) 3 0))))] := hD
  refine lv_aload_n hx hb dX10_pathsAnswering_4 rfl (lv_at hl 0 rfl) ?_
  refine lv_iload_n hx hb dX10_pathsAnswering_5 rfl (lv_at hl 1 rfl) ?_
  refine lv_aload_n hx hb dX10_pathsAnswering_6 rfl (lv_at hl 0 rfl) ?_
  refine nq_rdi (va_runV (As := []) (rest := [.int 0, .ref h0]) ⟨hx, hb, hml, hown, hts⟩ (c_pathsThere l G y H.size h0 tp ps sp tk dr pr da nw im ac ke si tx an dw ) (cwV 0 hts gX10_pathsAnswering_X10_pathsThere rfl rfl rfl (by decide +kernel) ⟨Nat.le_of_ble_eq_true rfl, Nat.le_of_ble_eq_true rfl⟩) (nq_PV hK hP hD [0, 1] rfl rfl 0 rfl rfl) rfl rfl hl.1 rfl (lv_room (Nat.le_of_ble_eq_true rfl)) dX10_pathsAnswering_7 ⟨Nat.le_of_ble_eq_true rfl, Nat.le_of_ble_eq_true rfl⟩) hP hS hA (fun r_4 H locs hw_5 hP hS => ?_)
  subst hw_5
  refine nq_rdi (va_runV (As := [.int 0, .int 0]) (rest := []) ⟨hx, hb, hml, hown, hts⟩ (c_foundAmong l G y H.size h0 tp ps sp tk dr pr da nw im ac ke si tx an dw (vp_updL (vp_updL (vp_updL (vp_updL (fun _ => 0) 0 0) 1 0) 2 0) 3 0) ) (cwV 2 hts gX10_pathsAnswering_X10_foundAmong rfl rfl rfl (by decide +kernel) ⟨Nat.le_of_ble_eq_true rfl, Nat.le_of_ble_eq_true rfl⟩) (nq_PV hK hP hD [0, 2] rfl rfl 0 rfl rfl) rfl rfl hl.1 rfl (lv_room (Nat.le_of_ble_eq_true rfl)) dX10_pathsAnswering_10 ⟨Nat.le_of_ble_eq_true rfl, Nat.le_of_ble_eq_true rfl⟩) hP hS hA (fun r_6 H locs hw_7 hP hS => ?_)
  subst hw_7
  have hP9 := hP.sub (ws' := []) [] rfl
  have hD9 := hD.sub (ws' := []) [] (by decide) rfl
  refine W.widen (k := 0) (n := 0) (Nat.le_of_ble_eq_true rfl) (Nat.le_of_ble_eq_true rfl) ?_
  exact W.iret (v := 0) hx hb hr (fun t ht hW => ⟨⟨0, (), rfl, rfl, by rw [ht]; exact hP9, by first | exact hD9 | (rw [hAe]; exact hD9)⟩, hS.F ht⟩) hS.2.2 dX10_pathsAnswering_13

set_option maxHeartbeats 4000000 in
set_option maxRecDepth 100000 in
theorem c_undo (l : Launch) (G : va_G) (y : Nat → ClassId) (sz : Nat) (h0 : Nat) (tp : Nat) (ps : Nat) (sp : Nat) (tk : Nat) (dr : Nat) (pr : Nat) (da : Nat) (nw : Nat) (im : Nat) (ac : Nat) (ke : Nat) (si : Nat) (tx : Nat) (an : Nat) (dw : Nat) (nwt : Nat) (nwb : Nat) (nwn : Nat) (nwi : Nat) (nwr : Nat)  : Met l yX10_undo wsX10_undo ({ frames := 1, cells := 0, slots := 0, locals := 21 }) (nq_P G y sz [.ref h0] [(h0, .inr (10, [.ref tp, .int 0, .int (-1), .ref ps, .ref sp, .ref tk, .ref dr, .ref pr, .ref da, .ref nw, .ref im, .int 0, .ref ac, .ref ke, .ref si, .ref tx, .ref an, .ref dw])), (nw, .inr (6, [.ref nwt, .ref nwb, .int 0, .ref nwn, .ref nwi, .int 0, .ref nwr]))]) (va_Qi (fun (r : Int32) (_ : Unit) => r = (-1)) (fun _ _ => True) (va_A [] sz)) 0 0 (va_A [] sz) := by
  refine Met.ofW (cc := cX10_undo) (maxL := 1) (ret := (some .int)) (by decide) rfl ?_
  intro p e s m args below meth c s₁ B hml hv
  obtain ⟨rfl, hsz, hP, hK, hD0⟩ := hv
  have hx := B.exec
  have hb := B.bytes
  have hr := B.returns
  have hts := atoms_spec (ws := wsX10_undo) B.pre
  have hown : s.vm.findClass RX10 = some m.cls := findClass_of_methodNamed B.named
  have hlocks := B.notSynchronized
  subst hsz
  have hD := hD0
  have hA : ∀ q : Nat, s.heap.size ≤ q → va_A [] s.heap.size q := fun q h => Or.inr h
  have hS : va_S (va_A [] s.heap.size) s.heap s.heap [] := va_S.rf
  have hP : va_P G vwCl [(h0, .inr (10, [.ref tp, .int 0, .int (-1), .ref ps, .ref sp, .ref tk, .ref dr, .ref pr, .ref da, .ref nw, .ref im, .int 0, .ref ac, .ref ke, .ref si, .ref tx, .ref an, .ref dw])), (nw, .inr (6, [.ref nwt, .ref nwb, .int 0, .ref nwn, .ref nwi, .int 0, .ref nwr]))] s.heap := hP
  have inX10 : ∀ w ∈ wsX100, w ∈ wsX10_undo := by decide +kernel
  have hl := lv_entry ([.ref h0]) (n := 1) (Nat.le_of_ble_eq_true rfl)
  rw [lg_entry_eq]
  generalize (lg_sl ([.ref h0]) ++ List.replicate (1 - (lg_sl ([.ref h0])).length) Slot.unset).toArray = ls at hl ⊢
  have hl : lv_has ls 1 [(0, .ref h0)] := hl
  refine lv_aload_n hx hb dX10_undo_0 rfl (lv_at hl 0 rfl) ?_
  refine va_get (D := G) (ci := 10) (v := .ref nw) (C := RX10) (T := TX10) (N := 18) hx hb hts inX10 hown hK.1 hP 0 rfl rfl 9 (by decide) (hts (.fieldLink RX10 63 "NestQuery" "now" "LNestQuery$State;") (by decide +kernel)) (fun _ h9 => h9) rfl dX10_undo_1 ?_
  refine nq_rdi (va_runV (As := []) (rest := []) ⟨hx, hb, hml, hown, hts⟩ (c_stepBack l G y s.heap.size nw nwt nwb nwn nwi nwr ) (cwV 0 hts gX10_undo_X6_stepBack rfl rfl rfl (by decide +kernel) ⟨Nat.le_of_ble_eq_true rfl, Nat.le_of_ble_eq_true rfl⟩) (nq_PV hK hP hD [1] rfl rfl 1 rfl rfl) rfl rfl hl.1 rfl (lv_room (Nat.le_of_ble_eq_true rfl)) dX10_undo_4 ⟨Nat.le_of_ble_eq_true rfl, Nat.le_of_ble_eq_true rfl⟩) hP hS hA (fun r_1 H locs hw_2 hP hS => ?_)
  subst hw_2
  refine W.widen (k := 0) (n := 0) (Nat.le_of_ble_eq_true rfl) (Nat.le_of_ble_eq_true rfl) ?_
  exact W.iret (v := (-1)) hx hb hr (fun t ht hW => ⟨⟨(-1), (), rfl, rfl, trivial⟩, hS.F ht⟩) hS.2.2 dX10_undo_7

set_option maxHeartbeats 4000000 in
set_option maxRecDepth 100000 in
theorem c_forget (l : Launch) (G : va_G) (y : Nat → ClassId) (sz : Nat) (h0 : Nat) (tp : Nat) (ps : Nat) (sp : Nat) (tk : Nat) (dr : Nat) (pr : Nat) (da : Nat) (nw : Nat) (im : Nat) (ac : Nat) (ke : Nat) (si : Nat) (tx : Nat) (an : Nat) (dw : Nat) (nwt : Nat) (nwb : Nat) (nwn : Nat) (nwi : Nat) (nwr : Nat)  : Met l yX10_forget wsX10_forget ({ frames := 0, cells := 0, slots := 0, locals := 0 }) (nq_P G y sz [.ref h0] [(h0, .inr (10, [.ref tp, .int 0, .int (-1), .ref ps, .ref sp, .ref tk, .ref dr, .ref pr, .ref da, .ref nw, .ref im, .int 0, .ref ac, .ref ke, .ref si, .ref tx, .ref an, .ref dw])), (nw, .inr (6, [.ref nwt, .ref nwb, .int 0, .ref nwn, .ref nwi, .int 0, .ref nwr]))]) (va_Qv (fun (_ : Unit) => True) (fun (u : Unit) t9 => va_P G vwCl ([]) t9.heap ∧ va_D (va_A [(h0, .inr (10, [.ref tp, .int 0, .int (-1), .ref ps, .ref sp, .ref tk, .ref dr, .ref pr, .ref da, .ref nw, .ref im, .int 0, .ref ac, .ref ke, .ref si, .ref tx, .ref an, .ref dw])), (nw, .inr (6, [.ref nwt, .ref nwb, .int 0, .ref nwn, .ref nwi, .int 0, .ref nwr]))] sz) ([])) (va_A [(h0, .inr (10, [.ref tp, .int 0, .int (-1), .ref ps, .ref sp, .ref tk, .ref dr, .ref pr, .ref da, .ref nw, .ref im, .int 0, .ref ac, .ref ke, .ref si, .ref tx, .ref an, .ref dw])), (nw, .inr (6, [.ref nwt, .ref nwb, .int 0, .ref nwn, .ref nwi, .int 0, .ref nwr]))] sz)) 0 0 (va_A [(h0, .inr (10, [.ref tp, .int 0, .int (-1), .ref ps, .ref sp, .ref tk, .ref dr, .ref pr, .ref da, .ref nw, .ref im, .int 0, .ref ac, .ref ke, .ref si, .ref tx, .ref an, .ref dw])), (nw, .inr (6, [.ref nwt, .ref nwb, .int 0, .ref nwn, .ref nwi, .int 0, .ref nwr]))] sz) := by
  refine Met.ofW (cc := cX10_forget) (maxL := 1) (ret := none) (by decide) rfl ?_
  intro p e s m args below meth c s₁ B hml hv
  obtain ⟨rfl, hsz, hP, hK, hD0⟩ := hv
  have hx := B.exec
  have hb := B.bytes
  have hr := B.returns
  have hts := atoms_spec (ws := wsX10_forget) B.pre
  have hown : s.vm.findClass RX10 = some m.cls := findClass_of_methodNamed B.named
  have hlocks := B.notSynchronized
  subst hsz
  have hD := hD0.self (sz := s.heap.size)
  generalize hAe : va_A [(h0, .inr (10, [.ref tp, .int 0, .int (-1), .ref ps, .ref sp, .ref tk, .ref dr, .ref pr, .ref da, .ref nw, .ref im, .int 0, .ref ac, .ref ke, .ref si, .ref tx, .ref an, .ref dw])), (nw, .inr (6, [.ref nwt, .ref nwb, .int 0, .ref nwn, .ref nwi, .int 0, .ref nwr]))] s.heap.size = A at hD ⊢
  have hA : ∀ q : Nat, s.heap.size ≤ q → A q := fun q h => by rw [← hAe]; exact Or.inr h
  have hS : va_S A s.heap s.heap [] := va_S.rf
  have hP : va_P G vwCl [(h0, .inr (10, [.ref tp, .int 0, .int (-1), .ref ps, .ref sp, .ref tk, .ref dr, .ref pr, .ref da, .ref nw, .ref im, .int 0, .ref ac, .ref ke, .ref si, .ref tx, .ref an, .ref dw])), (nw, .inr (6, [.ref nwt, .ref nwb, .int 0, .ref nwn, .ref nwi, .int 0, .ref nwr]))] s.heap := hP
  have inX10 : ∀ w ∈ wsX100, w ∈ wsX10_forget := by decide +kernel
  have inX6 : ∀ w ∈ wsX60, w ∈ wsX10_forget := by decide +kernel
  have hl := lv_entry ([.ref h0]) (n := 1) (Nat.le_of_ble_eq_true rfl)
  rw [lg_entry_eq]
  generalize (lg_sl ([.ref h0]) ++ List.replicate (1 - (lg_sl ([.ref h0])).length) Slot.unset).toArray = ls at hl ⊢
  have hl : lv_has ls 1 [(0, .ref h0)] := hl
  refine lv_aload_n hx hb dX10_forget_0 rfl (lv_at hl 0 rfl) ?_
  refine va_get (D := G) (ci := 10) (v := .ref nw) (C := RX10) (T := TX10) (N := 18) hx hb hts inX10 hown hK.1 hP 0 rfl rfl 9 (by decide) (hts (.fieldLink RX10 63 "NestQuery" "now" "LNestQuery$State;") (by decide +kernel)) (fun _ h9 => h9) rfl dX10_forget_1 ?_
  refine lv_iconst (v := 0) hx hb dX10_forget_4 (by decide) ?_
  refine va_putN (D := G) (ci := 6) (v := .int 0) (ty := .int) (C := RX6) (T := TX6) (N := 7) hx hb hts inX6 tyX6 tyX6_ok nmX6 hown hK.1 hP hD hS 1 rfl rfl 5 (by decide) (va_Nw.use rfl (hK.2.1.1 _ (List.mem_of_getElem? (i := 16) rfl))) (fun _ h9 => h9) rfl (by decide +kernel) rfl rfl (Nat.le_of_ble_eq_true rfl) dX10_forget_5 (fun H locs hP hD hS => ?_)
  have hP : va_P G vwCl [(h0, .inr (10, [.ref tp, .int 0, .int (-1), .ref ps, .ref sp, .ref tk, .ref dr, .ref pr, .ref da, .ref nw, .ref im, .int 0, .ref ac, .ref ke, .ref si, .ref tx, .ref an, .ref dw])), (nw, .inr (6, [.ref nwt, .ref nwb, .int 0, .ref nwn, .ref nwi, .int 0, .ref nwr]))] H := hP
  have hD : va_D A [(h0, .inr (10, [.ref tp, .int 0, .int (-1), .ref ps, .ref sp, .ref tk, .ref dr, .ref pr, .ref da, .ref nw, .ref im, .int 0, .ref ac, .ref ke, .ref si, .ref tx, .ref an, .ref dw])), (nw, .inr (6, [.ref nwt, .ref nwb, .int 0, .ref nwn, .ref nwi, .int 0, .ref nwr]))] := hD
  have hP9 := hP.sub (ws' := []) [] rfl
  have hD9 := hD.sub (ws' := []) [] (by decide) rfl
  refine W.widen (k := 0) (n := 0) (Nat.le_of_ble_eq_true rfl) (Nat.le_of_ble_eq_true rfl) ?_
  exact W.vret hx hb hr (fun t ht hW => ⟨⟨(), rfl, trivial, by rw [ht]; exact hP9, by first | exact hD9 | (rw [hAe]; exact hD9)⟩, hS.F ht⟩) hS.2.2 dX10_forget_8

set_option maxHeartbeats 4000000 in
set_option maxRecDepth 100000 in
theorem c_keep (l : Launch) (G : va_G) (y : Nat → ClassId) (sz : Nat) (h0 : Nat) (tp : Nat) (ps : Nat) (sp : Nat) (tk : Nat) (dr : Nat) (pr : Nat) (da : Nat) (nw : Nat) (im : Nat) (ac : Nat) (ke : Nat) (si : Nat) (tx : Nat) (an : Nat) (dw : Nat)  : Met l yX10_keep wsX10_keep ({ frames := 0, cells := 0, slots := 0, locals := 0 }) (nq_P G y sz [.ref h0] [(h0, .inr (10, [.ref tp, .int 0, .int (-1), .ref ps, .ref sp, .ref tk, .ref dr, .ref pr, .ref da, .ref nw, .ref im, .int 0, .ref ac, .ref ke, .ref si, .ref tx, .ref an, .ref dw]))]) (va_Qi (fun (r : Int32) (_ : Unit) => r = (-1)) (fun _ _ => True) (va_A [] sz)) 0 0 (va_A [] sz) := by
  refine Met.ofW (cc := cX10_keep) (maxL := 1) (ret := (some .int)) (by decide) rfl ?_
  intro p e s m args below meth c s₁ B hml hv
  obtain ⟨rfl, hsz, hP, hK, hD0⟩ := hv
  have hx := B.exec
  have hb := B.bytes
  have hr := B.returns
  have hts := atoms_spec (ws := wsX10_keep) B.pre
  have hown : s.vm.findClass RX10 = some m.cls := findClass_of_methodNamed B.named
  have hlocks := B.notSynchronized
  subst hsz
  have hD := hD0
  have hA : ∀ q : Nat, s.heap.size ≤ q → va_A [] s.heap.size q := fun q h => Or.inr h
  have hS : va_S (va_A [] s.heap.size) s.heap s.heap [] := va_S.rf
  have hP : va_P G vwCl [(h0, .inr (10, [.ref tp, .int 0, .int (-1), .ref ps, .ref sp, .ref tk, .ref dr, .ref pr, .ref da, .ref nw, .ref im, .int 0, .ref ac, .ref ke, .ref si, .ref tx, .ref an, .ref dw]))] s.heap := hP
  have inX10 : ∀ w ∈ wsX100, w ∈ wsX10_keep := by decide +kernel
  have hl := lv_entry ([.ref h0]) (n := 1) (Nat.le_of_ble_eq_true rfl)
  rw [lg_entry_eq]
  generalize (lg_sl ([.ref h0]) ++ List.replicate (1 - (lg_sl ([.ref h0])).length) Slot.unset).toArray = ls at hl ⊢
  have hl : lv_has ls 1 [(0, .ref h0)] := hl
  refine lv_aload_n hx hb dX10_keep_0 rfl (lv_at hl 0 rfl) ?_
  refine va_get (D := G) (ci := 10) (v := .int 0) (C := RX10) (T := TX10) (N := 18) hx hb hts inX10 hown hK.1 hP 0 rfl rfl 11 (by decide) (hts (.fieldLink RX10 145 "NestQuery" "imageThere" "Z") (by decide +kernel)) (fun _ h9 => h9) rfl dX10_keep_1 ?_
  refine lv_if_eq (tgt := 31) hx hb dX10_keep_4 (by decide) (fun _ => ?_) (fun c_1 => absurd c_1 (by decide))
  refine lv_iconst (v := (-1)) hx hb dX10_keep_31 (by decide) ?_
  refine W.widen (k := 0) (n := 0) (Nat.le_of_ble_eq_true rfl) (Nat.le_of_ble_eq_true rfl) ?_
  exact W.iret (v := (-1)) hx hb hr (fun t ht hW => ⟨⟨(-1), (), rfl, rfl, trivial⟩, hS.F ht⟩) hS.2.2 dX10_keep_32

set_option maxHeartbeats 4000000 in
set_option maxRecDepth 100000 in
theorem c_restore (l : Launch) (G : va_G) (y : Nat → ClassId) (sz : Nat) (h0 : Nat) (tp : Nat) (ps : Nat) (sp : Nat) (tk : Nat) (dr : Nat) (pr : Nat) (da : Nat) (nw : Nat) (im : Nat) (ac : Nat) (ke : Nat) (si : Nat) (tx : Nat) (an : Nat) (dw : Nat)  : Met l yX10_restore wsX10_restore ({ frames := 0, cells := 0, slots := 0, locals := 0 }) (nq_P G y sz [.ref h0] [(h0, .inr (10, [.ref tp, .int 0, .int (-1), .ref ps, .ref sp, .ref tk, .ref dr, .ref pr, .ref da, .ref nw, .ref im, .int 0, .ref ac, .ref ke, .ref si, .ref tx, .ref an, .ref dw]))]) (va_Qi (fun (r : Int32) (_ : Unit) => r = 0) (fun _ _ => True) (va_A [] sz)) 0 0 (va_A [] sz) := by
  refine Met.ofW (cc := cX10_restore) (maxL := 1) (ret := (some .boolean)) (by decide) rfl ?_
  intro p e s m args below meth c s₁ B hml hv
  obtain ⟨rfl, hsz, hP, hK, hD0⟩ := hv
  have hx := B.exec
  have hb := B.bytes
  have hr := B.returns
  have hts := atoms_spec (ws := wsX10_restore) B.pre
  have hown : s.vm.findClass RX10 = some m.cls := findClass_of_methodNamed B.named
  have hlocks := B.notSynchronized
  subst hsz
  have hD := hD0
  have hA : ∀ q : Nat, s.heap.size ≤ q → va_A [] s.heap.size q := fun q h => Or.inr h
  have hS : va_S (va_A [] s.heap.size) s.heap s.heap [] := va_S.rf
  have hP : va_P G vwCl [(h0, .inr (10, [.ref tp, .int 0, .int (-1), .ref ps, .ref sp, .ref tk, .ref dr, .ref pr, .ref da, .ref nw, .ref im, .int 0, .ref ac, .ref ke, .ref si, .ref tx, .ref an, .ref dw]))] s.heap := hP
  have inX10 : ∀ w ∈ wsX100, w ∈ wsX10_restore := by decide +kernel
  have hl := lv_entry ([.ref h0]) (n := 1) (Nat.le_of_ble_eq_true rfl)
  rw [lg_entry_eq]
  generalize (lg_sl ([.ref h0]) ++ List.replicate (1 - (lg_sl ([.ref h0])).length) Slot.unset).toArray = ls at hl ⊢
  have hl : lv_has ls 1 [(0, .ref h0)] := hl
  refine lv_aload_n hx hb dX10_restore_0 rfl (lv_at hl 0 rfl) ?_
  refine va_get (D := G) (ci := 10) (v := .int 0) (C := RX10) (T := TX10) (N := 18) hx hb hts inX10 hown hK.1 hP 0 rfl rfl 11 (by decide) (hts (.fieldLink RX10 145 "NestQuery" "imageThere" "Z") (by decide +kernel)) (fun _ h9 => h9) rfl dX10_restore_1 ?_
  refine lv_if_eq (tgt := 18) hx hb dX10_restore_4 (by decide) (fun _ => ?_) (fun c_1 => absurd c_1 (by decide))
  refine lv_aload_n hx hb dX10_restore_18 rfl (lv_at hl 0 rfl) ?_
  refine va_get (D := G) (ci := 10) (v := .int 0) (C := RX10) (T := TX10) (N := 18) hx hb hts inX10 hown hK.1 hP 0 rfl rfl 11 (by decide) (hts (.fieldLink RX10 145 "NestQuery" "imageThere" "Z") (by decide +kernel)) (fun _ h9 => h9) rfl dX10_restore_19 ?_
  refine W.widen (k := 0) (n := 0) (Nat.le_of_ble_eq_true rfl) (Nat.le_of_ble_eq_true rfl) ?_
  exact W.zret (v := 0) hx hb hr (by decide) (fun t ht hW => ⟨⟨0, (), rfl, rfl, trivial⟩, hS.F ht⟩) hS.2.2 dX10_restore_22

set_option maxHeartbeats 4000000 in
set_option maxRecDepth 100000 in
theorem c_adding (l : Launch) (G : va_G) (y : Nat → ClassId) (sz : Nat) (h0 : Nat) (tp : Nat) (ps : Nat) (sp : Nat) (tk : Nat) (dr : Nat) (pr : Nat) (da : Nat) (nw : Nat) (im : Nat) (ac : Nat) (ke : Nat) (si : Nat) (tx : Nat) (an : Nat) (dw : Nat) (i : Int32) (v : Int32)  : Met l yX10_adding wsX10_adding ({ frames := 1, cells := 0, slots := 0, locals := 21 }) (nq_P G y sz [.ref h0, .int i, .int v] [(h0, .inr (10, [.ref tp, .int 0, .int (-1), .ref ps, .ref sp, .ref tk, .ref dr, .ref pr, .ref da, .ref nw, .ref im, .int 0, .ref ac, .ref ke, .ref si, .ref tx, .ref an, .ref dw])), (ps, .inl (y 3, 4, .inr (.inr (.inr (.inr (fun _ => none))))))]) (va_Qi (fun (r : Int32) (_ : Unit) => r = (-1)) (fun _ _ => True) (va_A [] sz)) 0 0 (va_A [] sz) := by
  refine Met.ofW (cc := cX10_adding) (maxL := 4) (ret := (some .int)) (by decide) rfl ?_
  intro p e s m args below meth c s₁ B hml hv
  obtain ⟨rfl, hsz, hP, hK, hD0⟩ := hv
  have hx := B.exec
  have hb := B.bytes
  have hr := B.returns
  have hts := atoms_spec (ws := wsX10_adding) B.pre
  have hown : s.vm.findClass RX10 = some m.cls := findClass_of_methodNamed B.named
  have hlocks := B.notSynchronized
  subst hsz
  have hD := hD0
  have hA : ∀ q : Nat, s.heap.size ≤ q → va_A [] s.heap.size q := fun q h => Or.inr h
  have hS : va_S (va_A [] s.heap.size) s.heap s.heap [] := va_S.rf
  have hP : va_P G vwCl [(h0, .inr (10, [.ref tp, .int 0, .int (-1), .ref ps, .ref sp, .ref tk, .ref dr, .ref pr, .ref da, .ref nw, .ref im, .int 0, .ref ac, .ref ke, .ref si, .ref tx, .ref an, .ref dw])), (ps, .inl (y 3, 4, .inr (.inr (.inr (.inr (fun _ => none))))))] s.heap := hP
  have hl := lv_entry ([.ref h0, .int i, .int v]) (n := 4) (Nat.le_of_ble_eq_true rfl)
  rw [lg_entry_eq]
  generalize (lg_sl ([.ref h0, .int i, .int v]) ++ List.replicate (4 - (lg_sl ([.ref h0, .int i, .int v])).length) Slot.unset).toArray = ls at hl ⊢
  have hl : lv_has ls 4 [(0, .ref h0), (1, .int i), (2, .int v)] := hl
  refine lv_aload_n hx hb dX10_adding_0 rfl (lv_at hl 0 rfl) ?_
  refine lv_iload_n hx hb dX10_adding_1 rfl (lv_at hl 1 rfl) ?_
  refine nq_rdq (va_runV (As := [.int i]) (rest := []) ⟨hx, hb, hml, hown, hts⟩ (c_pathAt l G y s.heap.size h0 tp ps sp tk dr pr da nw im ac ke si tx an dw i ) (cwV 1 hts gX10_adding_X10_pathAt rfl rfl rfl (by decide +kernel) ⟨Nat.le_of_ble_eq_true rfl, Nat.le_of_ble_eq_true rfl⟩) (nq_PV hK hP hD [0, 1] rfl rfl 0 rfl rfl) rfl rfl hl.1 rfl (lv_room (Nat.le_of_ble_eq_true rfl)) dX10_adding_2 ⟨Nat.le_of_ble_eq_true rfl, Nat.le_of_ble_eq_true rfl⟩) hP hS hA (fun r_1 H locs hw_2 hP hS => ?_)
  subst hw_2
  refine lv_astore_nN (lv' := [(3, .null), (0, .ref h0), (1, .int i), (2, .int v)]) hx hb dX10_adding_5 rfl hl (by decide) rfl (fun ls hl => ?_)
  refine lv_aload_nN hx hb dX10_adding_6 rfl (lv_at hl 0 rfl) ?_
  refine lv_ifnullN (tgt := 24) hx hb dX10_adding_7 (by decide) ?_
  refine lv_iconst (v := (-1)) hx hb dX10_adding_24 (by decide) ?_
  refine W.widen (k := 0) (n := 0) (Nat.le_of_ble_eq_true rfl) (Nat.le_of_ble_eq_true rfl) ?_
  exact W.iret (v := (-1)) hx hb hr (fun t ht hW => ⟨⟨(-1), (), rfl, rfl, trivial⟩, hS.F ht⟩) hS.2.2 dX10_adding_25

set_option maxHeartbeats 4000000 in
set_option maxRecDepth 100000 in
theorem c_changing (l : Launch) (G : va_G) (y : Nat → ClassId) (sz : Nat) (h0 : Nat) (tp : Nat) (ps : Nat) (sp : Nat) (tk : Nat) (dr : Nat) (pr : Nat) (da : Nat) (nw : Nat) (im : Nat) (ac : Nat) (ke : Nat) (si : Nat) (tx : Nat) (an : Nat) (dw : Nat) (i : Int32) (v : Int32)  : Met l yX10_changing wsX10_changing ({ frames := 1, cells := 0, slots := 0, locals := 21 }) (nq_P G y sz [.ref h0, .int i, .int v] [(h0, .inr (10, [.ref tp, .int 0, .int (-1), .ref ps, .ref sp, .ref tk, .ref dr, .ref pr, .ref da, .ref nw, .ref im, .int 0, .ref ac, .ref ke, .ref si, .ref tx, .ref an, .ref dw])), (ps, .inl (y 3, 4, .inr (.inr (.inr (.inr (fun _ => none))))))]) (va_Qi (fun (r : Int32) (_ : Unit) => r = (-1)) (fun _ _ => True) (va_A [] sz)) 0 0 (va_A [] sz) := by
  refine Met.ofW (cc := cX10_changing) (maxL := 6) (ret := (some .int)) (by decide) rfl ?_
  intro p e s m args below meth c s₁ B hml hv
  obtain ⟨rfl, hsz, hP, hK, hD0⟩ := hv
  have hx := B.exec
  have hb := B.bytes
  have hr := B.returns
  have hts := atoms_spec (ws := wsX10_changing) B.pre
  have hown : s.vm.findClass RX10 = some m.cls := findClass_of_methodNamed B.named
  have hlocks := B.notSynchronized
  subst hsz
  have hD := hD0
  have hA : ∀ q : Nat, s.heap.size ≤ q → va_A [] s.heap.size q := fun q h => Or.inr h
  have hS : va_S (va_A [] s.heap.size) s.heap s.heap [] := va_S.rf
  have hP : va_P G vwCl [(h0, .inr (10, [.ref tp, .int 0, .int (-1), .ref ps, .ref sp, .ref tk, .ref dr, .ref pr, .ref da, .ref nw, .ref im, .int 0, .ref ac, .ref ke, .ref si, .ref tx, .ref an, .ref dw])), (ps, .inl (y 3, 4, .inr (.inr (.inr (.inr (fun _ => none))))))] s.heap := hP
  have hl := lv_entry ([.ref h0, .int i, .int v]) (n := 6) (Nat.le_of_ble_eq_true rfl)
  rw [lg_entry_eq]
  generalize (lg_sl ([.ref h0, .int i, .int v]) ++ List.replicate (6 - (lg_sl ([.ref h0, .int i, .int v])).length) Slot.unset).toArray = ls at hl ⊢
  have hl : lv_has ls 6 [(0, .ref h0), (1, .int i), (2, .int v)] := hl
  refine lv_aload_n hx hb dX10_changing_0 rfl (lv_at hl 0 rfl) ?_
  refine lv_iload_n hx hb dX10_changing_1 rfl (lv_at hl 1 rfl) ?_
  refine nq_rdq (va_runV (As := [.int i]) (rest := []) ⟨hx, hb, hml, hown, hts⟩ (c_pathAt l G y s.heap.size h0 tp ps sp tk dr pr da nw im ac ke si tx an dw i ) (cwV 1 hts gX10_changing_X10_pathAt rfl rfl rfl (by decide +kernel) ⟨Nat.le_of_ble_eq_true rfl, Nat.le_of_ble_eq_true rfl⟩) (nq_PV hK hP hD [0, 1] rfl rfl 0 rfl rfl) rfl rfl hl.1 rfl (lv_room (Nat.le_of_ble_eq_true rfl)) dX10_changing_2 ⟨Nat.le_of_ble_eq_true rfl, Nat.le_of_ble_eq_true rfl⟩) hP hS hA (fun r_1 H locs hw_2 hP hS => ?_)
  subst hw_2
  refine lv_astore_nN (lv' := [(3, .null), (0, .ref h0), (1, .int i), (2, .int v)]) hx hb dX10_changing_5 rfl hl (by decide) rfl (fun ls hl => ?_)
  refine lv_aload_nN hx hb dX10_changing_6 rfl (lv_at hl 0 rfl) ?_
  refine lv_ifnullN (tgt := 19) hx hb dX10_changing_7 (by decide) ?_
  refine lv_iconst (v := (-1)) hx hb dX10_changing_19 (by decide) ?_
  refine W.widen (k := 0) (n := 0) (Nat.le_of_ble_eq_true rfl) (Nat.le_of_ble_eq_true rfl) ?_
  exact W.iret (v := (-1)) hx hb hr (fun t ht hW => ⟨⟨(-1), (), rfl, rfl, trivial⟩, hS.F ht⟩) hS.2.2 dX10_changing_20

set_option maxHeartbeats 4000000 in
set_option maxRecDepth 100000 in
theorem c_add (l : Launch) (G : va_G) (y : Nat → ClassId) (sz : Nat) (h0 : Nat) (tp : Nat) (ps : Nat) (sp : Nat) (tk : Nat) (dr : Nat) (pr : Nat) (da : Nat) (nw : Nat) (im : Nat) (ac : Nat) (ke : Nat) (si : Nat) (tx : Nat) (an : Nat) (dw : Nat) (nwt : Nat) (nwb : Nat) (nwn : Nat) (nwi : Nat) (nwr : Nat) (i : Int32) (v : Int32)  : Met l yX10_add wsX10_add ({ frames := 2, cells := 0, slots := 0, locals := 44 }) (nq_P G y sz [.ref h0, .int i, .int v] [(h0, .inr (10, [.ref tp, .int 0, .int (-1), .ref ps, .ref sp, .ref tk, .ref dr, .ref pr, .ref da, .ref nw, .ref im, .int 0, .ref ac, .ref ke, .ref si, .ref tx, .ref an, .ref dw])), (ps, .inl (y 3, 4, .inr (.inr (.inr (.inr (fun _ => none)))))), (nw, .inr (6, [.ref nwt, .ref nwb, .int 0, .ref nwn, .ref nwi, .int 0, .ref nwr])), (nwr, .inl (y 0, 3, .inl (fun _ => 0)))]) (va_Qi (fun (r : Int32) (_ : Unit) => r = (-1)) (fun (u : Unit) t9 => va_P G vwCl ([]) t9.heap ∧ va_D (va_A [(h0, .inr (10, [.ref tp, .int 0, .int (-1), .ref ps, .ref sp, .ref tk, .ref dr, .ref pr, .ref da, .ref nw, .ref im, .int 0, .ref ac, .ref ke, .ref si, .ref tx, .ref an, .ref dw])), (ps, .inl (y 3, 4, .inr (.inr (.inr (.inr (fun _ => none)))))), (nw, .inr (6, [.ref nwt, .ref nwb, .int 0, .ref nwn, .ref nwi, .int 0, .ref nwr])), (nwr, .inl (y 0, 3, .inl (fun _ => 0)))] sz) ([])) (va_A [(h0, .inr (10, [.ref tp, .int 0, .int (-1), .ref ps, .ref sp, .ref tk, .ref dr, .ref pr, .ref da, .ref nw, .ref im, .int 0, .ref ac, .ref ke, .ref si, .ref tx, .ref an, .ref dw])), (ps, .inl (y 3, 4, .inr (.inr (.inr (.inr (fun _ => none)))))), (nw, .inr (6, [.ref nwt, .ref nwb, .int 0, .ref nwn, .ref nwi, .int 0, .ref nwr])), (nwr, .inl (y 0, 3, .inl (fun _ => 0)))] sz)) 0 0 (va_A [(h0, .inr (10, [.ref tp, .int 0, .int (-1), .ref ps, .ref sp, .ref tk, .ref dr, .ref pr, .ref da, .ref nw, .ref im, .int 0, .ref ac, .ref ke, .ref si, .ref tx, .ref an, .ref dw])), (ps, .inl (y 3, 4, .inr (.inr (.inr (.inr (fun _ => none)))))), (nw, .inr (6, [.ref nwt, .ref nwb, .int 0, .ref nwn, .ref nwi, .int 0, .ref nwr])), (nwr, .inl (y 0, 3, .inl (fun _ => 0)))] sz) := by
  refine Met.ofW (cc := cX10_add) (maxL := 3) (ret := (some .int)) (by decide) rfl ?_
  intro p e s m args below meth c s₁ B hml hv
  obtain ⟨rfl, hsz, hP, hK, hD0⟩ := hv
  have hx := B.exec
  have hb := B.bytes
  have hr := B.returns
  have hts := atoms_spec (ws := wsX10_add) B.pre
  have hown : s.vm.findClass RX10 = some m.cls := findClass_of_methodNamed B.named
  have hlocks := B.notSynchronized
  subst hsz
  have hD := hD0.self (sz := s.heap.size)
  generalize hAe : va_A [(h0, .inr (10, [.ref tp, .int 0, .int (-1), .ref ps, .ref sp, .ref tk, .ref dr, .ref pr, .ref da, .ref nw, .ref im, .int 0, .ref ac, .ref ke, .ref si, .ref tx, .ref an, .ref dw])), (ps, .inl (y 3, 4, .inr (.inr (.inr (.inr (fun _ => none)))))), (nw, .inr (6, [.ref nwt, .ref nwb, .int 0, .ref nwn, .ref nwi, .int 0, .ref nwr])), (nwr, .inl (y 0, 3, .inl (fun _ => 0)))] s.heap.size = A at hD ⊢
  have hA : ∀ q : Nat, s.heap.size ≤ q → A q := fun q h => by rw [← hAe]; exact Or.inr h
  have hS : va_S A s.heap s.heap [] := va_S.rf
  have hP : va_P G vwCl [(h0, .inr (10, [.ref tp, .int 0, .int (-1), .ref ps, .ref sp, .ref tk, .ref dr, .ref pr, .ref da, .ref nw, .ref im, .int 0, .ref ac, .ref ke, .ref si, .ref tx, .ref an, .ref dw])), (ps, .inl (y 3, 4, .inr (.inr (.inr (.inr (fun _ => none)))))), (nw, .inr (6, [.ref nwt, .ref nwb, .int 0, .ref nwn, .ref nwi, .int 0, .ref nwr])), (nwr, .inl (y 0, 3, .inl (fun _ => 0)))] s.heap := hP
  have hl := lv_entry ([.ref h0, .int i, .int v]) (n := 3) (Nat.le_of_ble_eq_true rfl)
  rw [lg_entry_eq]
  generalize (lg_sl ([.ref h0, .int i, .int v]) ++ List.replicate (3 - (lg_sl ([.ref h0, .int i, .int v])).length) Slot.unset).toArray = ls at hl ⊢
  have hl : lv_has ls 3 [(0, .ref h0), (1, .int i), (2, .int v)] := hl
  refine lv_aload_n hx hb dX10_add_0 rfl (lv_at hl 0 rfl) ?_
  refine lv_aload_n hx hb dX10_add_1 rfl (lv_at hl 0 rfl) ?_
  refine lv_iload_n hx hb dX10_add_2 rfl (lv_at hl 1 rfl) ?_
  refine lv_iload_n hx hb dX10_add_3 rfl (lv_at hl 2 rfl) ?_
  refine nq_rdi (va_runV (As := [.int i, .int v]) (rest := [.ref h0]) ⟨hx, hb, hml, hown, hts⟩ (c_adding l G y s.heap.size h0 tp ps sp tk dr pr da nw im ac ke si tx an dw i v ) (cwV 2 hts gX10_add_X10_adding rfl rfl rfl (by decide +kernel) ⟨Nat.le_of_ble_eq_true rfl, Nat.le_of_ble_eq_true rfl⟩) (nq_PV hK hP hD [0, 1] rfl rfl 0 rfl rfl) rfl rfl hl.1 rfl (lv_room (Nat.le_of_ble_eq_true rfl)) dX10_add_4 ⟨Nat.le_of_ble_eq_true rfl, Nat.le_of_ble_eq_true rfl⟩) hP hS hA (fun r_1 H locs hw_2 hP hS => ?_)
  subst hw_2
  refine nq_wri (wr := [(ps, .inl (y 3, 4, .inr (.inr (.inr (.inr (fun _ => none))))))]) (va_runV (As := [.int (-1)]) (rest := []) ⟨hx, hb, hml, hown, hts⟩ (c_actDone l G y H.size h0 tp ps sp tk dr pr da nw im ac ke si tx an dw nwt nwb nwn nwi nwr ) (cwV 1 hts gX10_add_X10_actDone rfl rfl rfl (by decide +kernel) ⟨Nat.le_of_ble_eq_true rfl, Nat.le_of_ble_eq_true rfl⟩) (nq_PV hK hP hD [0, 2, 3] rfl rfl 0 rfl rfl) rfl rfl hl.1 rfl (lv_room (Nat.le_of_ble_eq_true rfl)) dX10_add_7 ⟨Nat.le_of_ble_eq_true rfl, Nat.le_of_ble_eq_true rfl⟩) hP hD hS hA [0, 2, 3] [1] rfl rfl (by decide) (by decide) (fun r_5 u_3 H locs hw_4 hP hD hS => ?_)
  have hP : va_P G vwCl [(ps, .inl (y 3, 4, .inr (.inr (.inr (.inr (fun _ => none))))))] H := hP
  have hD : va_D A [(ps, .inl (y 3, 4, .inr (.inr (.inr (.inr (fun _ => none))))))] := hD
  subst hw_4
  have hP9 := hP.sub (ws' := []) [] rfl
  have hD9 := hD.sub (ws' := []) [] (by decide) rfl
  refine W.widen (k := 0) (n := 0) (Nat.le_of_ble_eq_true rfl) (Nat.le_of_ble_eq_true rfl) ?_
  exact W.iret (v := (-1)) hx hb hr (fun t ht hW => ⟨⟨(-1), (), rfl, rfl, by rw [ht]; exact hP9, by first | exact hD9 | (rw [hAe]; exact hD9)⟩, hS.F ht⟩) hS.2.2 dX10_add_10

set_option maxHeartbeats 4000000 in
set_option maxRecDepth 100000 in
theorem c_change (l : Launch) (G : va_G) (y : Nat → ClassId) (sz : Nat) (h0 : Nat) (tp : Nat) (ps : Nat) (sp : Nat) (tk : Nat) (dr : Nat) (pr : Nat) (da : Nat) (nw : Nat) (im : Nat) (ac : Nat) (ke : Nat) (si : Nat) (tx : Nat) (an : Nat) (dw : Nat) (nwt : Nat) (nwb : Nat) (nwn : Nat) (nwi : Nat) (nwr : Nat) (i : Int32) (v : Int32)  : Met l yX10_change wsX10_change ({ frames := 2, cells := 0, slots := 0, locals := 46 }) (nq_P G y sz [.ref h0, .int i, .int v] [(h0, .inr (10, [.ref tp, .int 0, .int (-1), .ref ps, .ref sp, .ref tk, .ref dr, .ref pr, .ref da, .ref nw, .ref im, .int 0, .ref ac, .ref ke, .ref si, .ref tx, .ref an, .ref dw])), (ps, .inl (y 3, 4, .inr (.inr (.inr (.inr (fun _ => none)))))), (nw, .inr (6, [.ref nwt, .ref nwb, .int 0, .ref nwn, .ref nwi, .int 0, .ref nwr])), (nwr, .inl (y 0, 3, .inl (fun _ => 0)))]) (va_Qi (fun (r : Int32) (_ : Unit) => r = (-1)) (fun (u : Unit) t9 => va_P G vwCl ([]) t9.heap ∧ va_D (va_A [(h0, .inr (10, [.ref tp, .int 0, .int (-1), .ref ps, .ref sp, .ref tk, .ref dr, .ref pr, .ref da, .ref nw, .ref im, .int 0, .ref ac, .ref ke, .ref si, .ref tx, .ref an, .ref dw])), (ps, .inl (y 3, 4, .inr (.inr (.inr (.inr (fun _ => none)))))), (nw, .inr (6, [.ref nwt, .ref nwb, .int 0, .ref nwn, .ref nwi, .int 0, .ref nwr])), (nwr, .inl (y 0, 3, .inl (fun _ => 0)))] sz) ([])) (va_A [(h0, .inr (10, [.ref tp, .int 0, .int (-1), .ref ps, .ref sp, .ref tk, .ref dr, .ref pr, .ref da, .ref nw, .ref im, .int 0, .ref ac, .ref ke, .ref si, .ref tx, .ref an, .ref dw])), (ps, .inl (y 3, 4, .inr (.inr (.inr (.inr (fun _ => none)))))), (nw, .inr (6, [.ref nwt, .ref nwb, .int 0, .ref nwn, .ref nwi, .int 0, .ref nwr])), (nwr, .inl (y 0, 3, .inl (fun _ => 0)))] sz)) 0 0 (va_A [(h0, .inr (10, [.ref tp, .int 0, .int (-1), .ref ps, .ref sp, .ref tk, .ref dr, .ref pr, .ref da, .ref nw, .ref im, .int 0, .ref ac, .ref ke, .ref si, .ref tx, .ref an, .ref dw])), (ps, .inl (y 3, 4, .inr (.inr (.inr (.inr (fun _ => none)))))), (nw, .inr (6, [.ref nwt, .ref nwb, .int 0, .ref nwn, .ref nwi, .int 0, .ref nwr])), (nwr, .inl (y 0, 3, .inl (fun _ => 0)))] sz) := by
  refine Met.ofW (cc := cX10_change) (maxL := 3) (ret := (some .int)) (by decide) rfl ?_
  intro p e s m args below meth c s₁ B hml hv
  obtain ⟨rfl, hsz, hP, hK, hD0⟩ := hv
  have hx := B.exec
  have hb := B.bytes
  have hr := B.returns
  have hts := atoms_spec (ws := wsX10_change) B.pre
  have hown : s.vm.findClass RX10 = some m.cls := findClass_of_methodNamed B.named
  have hlocks := B.notSynchronized
  subst hsz
  have hD := hD0.self (sz := s.heap.size)
  generalize hAe : va_A [(h0, .inr (10, [.ref tp, .int 0, .int (-1), .ref ps, .ref sp, .ref tk, .ref dr, .ref pr, .ref da, .ref nw, .ref im, .int 0, .ref ac, .ref ke, .ref si, .ref tx, .ref an, .ref dw])), (ps, .inl (y 3, 4, .inr (.inr (.inr (.inr (fun _ => none)))))), (nw, .inr (6, [.ref nwt, .ref nwb, .int 0, .ref nwn, .ref nwi, .int 0, .ref nwr])), (nwr, .inl (y 0, 3, .inl (fun _ => 0)))] s.heap.size = A at hD ⊢
  have hA : ∀ q : Nat, s.heap.size ≤ q → A q := fun q h => by rw [← hAe]; exact Or.inr h
  have hS : va_S A s.heap s.heap [] := va_S.rf
  have hP : va_P G vwCl [(h0, .inr (10, [.ref tp, .int 0, .int (-1), .ref ps, .ref sp, .ref tk, .ref dr, .ref pr, .ref da, .ref nw, .ref im, .int 0, .ref ac, .ref ke, .ref si, .ref tx, .ref an, .ref dw])), (ps, .inl (y 3, 4, .inr (.inr (.inr (.inr (fun _ => none)))))), (nw, .inr (6, [.ref nwt, .ref nwb, .int 0, .ref nwn, .ref nwi, .int 0, .ref nwr])), (nwr, .inl (y 0, 3, .inl (fun _ => 0)))] s.heap := hP
  have hl := lv_entry ([.ref h0, .int i, .int v]) (n := 3) (Nat.le_of_ble_eq_true rfl)
  rw [lg_entry_eq]
  generalize (lg_sl ([.ref h0, .int i, .int v]) ++ List.replicate (3 - (lg_sl ([.ref h0, .int i, .int v])).length) Slot.unset).toArray = ls at hl ⊢
  have hl : lv_has ls 3 [(0, .ref h0), (1, .int i), (2, .int v)] := hl
  refine lv_aload_n hx hb dX10_change_0 rfl (lv_at hl 0 rfl) ?_
  refine lv_aload_n hx hb dX10_change_1 rfl (lv_at hl 0 rfl) ?_
  refine lv_iload_n hx hb dX10_change_2 rfl (lv_at hl 1 rfl) ?_
  refine lv_iload_n hx hb dX10_change_3 rfl (lv_at hl 2 rfl) ?_
  refine nq_rdi (va_runV (As := [.int i, .int v]) (rest := [.ref h0]) ⟨hx, hb, hml, hown, hts⟩ (c_changing l G y s.heap.size h0 tp ps sp tk dr pr da nw im ac ke si tx an dw i v ) (cwV 2 hts gX10_change_X10_changing rfl rfl rfl (by decide +kernel) ⟨Nat.le_of_ble_eq_true rfl, Nat.le_of_ble_eq_true rfl⟩) (nq_PV hK hP hD [0, 1] rfl rfl 0 rfl rfl) rfl rfl hl.1 rfl (lv_room (Nat.le_of_ble_eq_true rfl)) dX10_change_4 ⟨Nat.le_of_ble_eq_true rfl, Nat.le_of_ble_eq_true rfl⟩) hP hS hA (fun r_1 H locs hw_2 hP hS => ?_)
  subst hw_2
  refine nq_wri (wr := [(ps, .inl (y 3, 4, .inr (.inr (.inr (.inr (fun _ => none))))))]) (va_runV (As := [.int (-1)]) (rest := []) ⟨hx, hb, hml, hown, hts⟩ (c_actDone l G y H.size h0 tp ps sp tk dr pr da nw im ac ke si tx an dw nwt nwb nwn nwi nwr ) (cwV 1 hts gX10_change_X10_actDone rfl rfl rfl (by decide +kernel) ⟨Nat.le_of_ble_eq_true rfl, Nat.le_of_ble_eq_true rfl⟩) (nq_PV hK hP hD [0, 2, 3] rfl rfl 0 rfl rfl) rfl rfl hl.1 rfl (lv_room (Nat.le_of_ble_eq_true rfl)) dX10_change_7 ⟨Nat.le_of_ble_eq_true rfl, Nat.le_of_ble_eq_true rfl⟩) hP hD hS hA [0, 2, 3] [1] rfl rfl (by decide) (by decide) (fun r_5 u_3 H locs hw_4 hP hD hS => ?_)
  have hP : va_P G vwCl [(ps, .inl (y 3, 4, .inr (.inr (.inr (.inr (fun _ => none))))))] H := hP
  have hD : va_D A [(ps, .inl (y 3, 4, .inr (.inr (.inr (.inr (fun _ => none))))))] := hD
  subst hw_4
  have hP9 := hP.sub (ws' := []) [] rfl
  have hD9 := hD.sub (ws' := []) [] (by decide) rfl
  refine W.widen (k := 0) (n := 0) (Nat.le_of_ble_eq_true rfl) (Nat.le_of_ble_eq_true rfl) ?_
  exact W.iret (v := (-1)) hx hb hr (fun t ht hW => ⟨⟨(-1), (), rfl, rfl, by rw [ht]; exact hP9, by first | exact hD9 | (rw [hAe]; exact hD9)⟩, hS.F ht⟩) hS.2.2 dX10_change_10

set_option maxHeartbeats 4000000 in
set_option maxRecDepth 100000 in
theorem c_moveThing (l : Launch) (G : va_G) (y : Nat → ClassId) (sz : Nat) (ac : Nat) (nw : Nat) (ac1 : Nat) (ac2 : Nat) (ac3 : Nat) (nwt : Nat) (nwb : Nat) (nwn : Nat) (nwi : Nat) (nwr : Nat) (nwtk : Nat) (nwtv : Nat) (nwte : Nat) (nwtd : Nat) (i : Int32) (j : Int32) (k : Int32)  : Met l yX0_moveThing wsX0_moveThing ({ frames := 1, cells := 0, slots := 0, locals := 21 }) (nq_P G y sz [.ref ac, .int i, .int j, .int k] [(ac, .inr (0, [.ref nw, .ref ac1, .ref ac2, .ref ac3])), (nw, .inr (6, [.ref nwt, .ref nwb, .int 0, .ref nwn, .ref nwi, .int 0, .ref nwr])), (nwt, .inr (9, [.ref nwtk, .ref nwtv, .ref nwte, .ref nwtd, .int 1])), (nwtk, .inl (y 0, 60, .inl (upd (fun _ => 0) 0 3)))]) (va_Qi (fun (r : Int32) (_ : Unit) => r = (-1)) (fun _ _ => True) (va_A [] sz)) 0 0 (va_A [] sz) := by
  refine Met.ofW (cc := cX0_moveThing) (maxL := 8) (ret := (some .int)) (by decide) rfl ?_
  intro p e s m args below meth c s₁ B hml hv
  obtain ⟨rfl, hsz, hP, hK, hD0⟩ := hv
  have hx := B.exec
  have hb := B.bytes
  have hr := B.returns
  have hts := atoms_spec (ws := wsX0_moveThing) B.pre
  have hown : s.vm.findClass RX0 = some m.cls := findClass_of_methodNamed B.named
  have hlocks := B.notSynchronized
  subst hsz
  have hD := hD0
  have hA : ∀ q : Nat, s.heap.size ≤ q → va_A [] s.heap.size q := fun q h => Or.inr h
  have hS : va_S (va_A [] s.heap.size) s.heap s.heap [] := va_S.rf
  have hP : va_P G vwCl [(ac, .inr (0, [.ref nw, .ref ac1, .ref ac2, .ref ac3])), (nw, .inr (6, [.ref nwt, .ref nwb, .int 0, .ref nwn, .ref nwi, .int 0, .ref nwr])), (nwt, .inr (9, [.ref nwtk, .ref nwtv, .ref nwte, .ref nwtd, .int 1])), (nwtk, .inl (y 0, 60, .inl (upd (fun _ => 0) 0 3)))] s.heap := hP
  have inX0 : ∀ w ∈ wsX00, w ∈ wsX0_moveThing := by decide +kernel
  have inX6 : ∀ w ∈ wsX60, w ∈ wsX0_moveThing := by decide +kernel
  have hl := lv_entry ([.ref ac, .int i, .int j, .int k]) (n := 8) (Nat.le_of_ble_eq_true rfl)
  rw [lg_entry_eq]
  generalize (lg_sl ([.ref ac, .int i, .int j, .int k]) ++ List.replicate (8 - (lg_sl ([.ref ac, .int i, .int j, .int k])).length) Slot.unset).toArray = ls at hl ⊢
  have hl : lv_has ls 8 [(0, .ref ac), (1, .int i), (2, .int j), (3, .int k)] := hl
  refine lv_aload_n hx hb dX0_moveThing_0 rfl (lv_at hl 0 rfl) ?_
  refine va_get (D := G) (ci := 0) (v := .ref nw) (C := RX0) (T := TX0) (N := 4) hx hb hts inX0 hown hK.1 hP 0 rfl rfl 0 (by decide) (hts (.fieldLink RX0 27 "NestQuery$Acts" "now" "LNestQuery$State;") (by decide +kernel)) (fun _ h9 => h9) rfl dX0_moveThing_1 ?_
  refine va_getN (D := G) (ci := 6) (v := .ref nwt) (C := RX6) (T := TX6) (N := 7) hx hb hts inX6 hown hK.1 hP 1 rfl rfl 0 (by decide) (va_Nw.use rfl (hK.2.1.1 _ (List.mem_of_getElem? (i := 14) rfl))) (fun _ h9 => h9) rfl dX0_moveThing_4 ?_
  refine lv_astore (lv' := [(4, .ref nwt), (0, .ref ac), (1, .int i), (2, .int j), (3, .int k)]) hx hb dX0_moveThing_7 hl (by decide) rfl (fun ls hl => ?_)
  refine lv_iload_n hx hb dX0_moveThing_9 rfl (lv_at hl 2 rfl) ?_
  refine lv_if_eq (tgt := 31) hx hb dX0_moveThing_10 (by decide) (fun c_1 => ?_) (fun c_1 => ?_)
  · subst c_1
    refine lv_iconst (v := (-1)) hx hb dX0_moveThing_31 (by decide) ?_
    refine W.widen (k := 0) (n := 0) (Nat.le_of_ble_eq_true rfl) (Nat.le_of_ble_eq_true rfl) ?_
    exact W.iret (v := (-1)) hx hb hr (fun t ht hW => ⟨⟨(-1), (), rfl, rfl, trivial⟩, hS.F ht⟩) hS.2.2 dX0_moveThing_32
  · refine lv_aload hx hb dX0_moveThing_13 (lv_at hl 0 rfl) ?_
    refine lv_iload_n hx hb dX0_moveThing_15 rfl (lv_at hl 2 rfl) ?_
    refine nq_rdi (va_runV (As := [.int i]) (rest := []) ⟨hx, hb, hml, hown, hts⟩ (c_has l G y s.heap.size nwt nwtk nwtv nwte nwtd (upd (fun _ => 0) 0 3) i (pk_us)) (cwV 1 hts gX0_moveThing_X9_has rfl rfl rfl (by decide +kernel) ⟨Nat.le_of_ble_eq_true rfl, Nat.le_of_ble_eq_true rfl⟩) (nq_PV hK hP hD [2, 3] rfl rfl 2 rfl rfl) rfl rfl hl.1 rfl (lv_room (Nat.le_of_ble_eq_true rfl)) dX0_moveThing_16 ⟨Nat.le_of_ble_eq_true rfl, Nat.le_of_ble_eq_true rfl⟩) hP hS hA (fun r_2 H locs hw_3 hP hS => ?_)
    rcases hw_3 with ⟨c_4, hr_5⟩ | ⟨c_6, hr_7⟩
    · exact absurd c_4 c_1
    · subst hr_7
      refine lv_if_eq (tgt := 31) hx hb dX0_moveThing_19 (by decide) (fun _ => ?_) (fun c_8 => absurd c_8 (by decide))
      refine lv_iconst (v := (-1)) hx hb dX0_moveThing_31 (by decide) ?_
      refine W.widen (k := 0) (n := 0) (Nat.le_of_ble_eq_true rfl) (Nat.le_of_ble_eq_true rfl) ?_
      exact W.iret (v := (-1)) hx hb hr (fun t ht hW => ⟨⟨(-1), (), rfl, rfl, trivial⟩, hS.F ht⟩) hS.2.2 dX0_moveThing_32

set_option maxHeartbeats 4000000 in
set_option maxRecDepth 100000 in
theorem c_move (l : Launch) (G : va_G) (y : Nat → ClassId) (sz : Nat) (h0 : Nat) (tp : Nat) (ps : Nat) (sp : Nat) (tk : Nat) (dr : Nat) (pr : Nat) (da : Nat) (nw : Nat) (im : Nat) (ac : Nat) (ke : Nat) (si : Nat) (tx : Nat) (an : Nat) (dw : Nat) (ac1 : Nat) (ac2 : Nat) (ac3 : Nat) (nwt : Nat) (nwb : Nat) (nwn : Nat) (nwi : Nat) (nwr : Nat) (nwtk : Nat) (nwtv : Nat) (nwte : Nat) (nwtd : Nat) (i : Int32) (j : Int32) (k : Int32)  : Met l yX10_move wsX10_move ({ frames := 2, cells := 0, slots := 0, locals := 48 }) (nq_P G y sz [.ref h0, .int i, .int j, .int k] [(h0, .inr (10, [.ref tp, .int 0, .int (-1), .ref ps, .ref sp, .ref tk, .ref dr, .ref pr, .ref da, .ref nw, .ref im, .int 0, .ref ac, .ref ke, .ref si, .ref tx, .ref an, .ref dw])), (ac, .inr (0, [.ref nw, .ref ac1, .ref ac2, .ref ac3])), (nw, .inr (6, [.ref nwt, .ref nwb, .int 0, .ref nwn, .ref nwi, .int 0, .ref nwr])), (nwt, .inr (9, [.ref nwtk, .ref nwtv, .ref nwte, .ref nwtd, .int 1])), (nwtk, .inl (y 0, 60, .inl (upd (fun _ => 0) 0 3))), (nwr, .inl (y 0, 3, .inl (fun _ => 0)))]) (va_Qi (fun (r : Int32) (_ : Unit) => r = (-1)) (fun (u : Unit) t9 => va_P G vwCl ([]) t9.heap ∧ va_D (va_A [(h0, .inr (10, [.ref tp, .int 0, .int (-1), .ref ps, .ref sp, .ref tk, .ref dr, .ref pr, .ref da, .ref nw, .ref im, .int 0, .ref ac, .ref ke, .ref si, .ref tx, .ref an, .ref dw])), (ac, .inr (0, [.ref nw, .ref ac1, .ref ac2, .ref ac3])), (nw, .inr (6, [.ref nwt, .ref nwb, .int 0, .ref nwn, .ref nwi, .int 0, .ref nwr])), (nwt, .inr (9, [.ref nwtk, .ref nwtv, .ref nwte, .ref nwtd, .int 1])), (nwtk, .inl (y 0, 60, .inl (upd (fun _ => 0) 0 3))), (nwr, .inl (y 0, 3, .inl (fun _ => 0)))] sz) ([])) (va_A [(h0, .inr (10, [.ref tp, .int 0, .int (-1), .ref ps, .ref sp, .ref tk, .ref dr, .ref pr, .ref da, .ref nw, .ref im, .int 0, .ref ac, .ref ke, .ref si, .ref tx, .ref an, .ref dw])), (ac, .inr (0, [.ref nw, .ref ac1, .ref ac2, .ref ac3])), (nw, .inr (6, [.ref nwt, .ref nwb, .int 0, .ref nwn, .ref nwi, .int 0, .ref nwr])), (nwt, .inr (9, [.ref nwtk, .ref nwtv, .ref nwte, .ref nwtd, .int 1])), (nwtk, .inl (y 0, 60, .inl (upd (fun _ => 0) 0 3))), (nwr, .inl (y 0, 3, .inl (fun _ => 0)))] sz)) 0 0 (va_A [(h0, .inr (10, [.ref tp, .int 0, .int (-1), .ref ps, .ref sp, .ref tk, .ref dr, .ref pr, .ref da, .ref nw, .ref im, .int 0, .ref ac, .ref ke, .ref si, .ref tx, .ref an, .ref dw])), (ac, .inr (0, [.ref nw, .ref ac1, .ref ac2, .ref ac3])), (nw, .inr (6, [.ref nwt, .ref nwb, .int 0, .ref nwn, .ref nwi, .int 0, .ref nwr])), (nwt, .inr (9, [.ref nwtk, .ref nwtv, .ref nwte, .ref nwtd, .int 1])), (nwtk, .inl (y 0, 60, .inl (upd (fun _ => 0) 0 3))), (nwr, .inl (y 0, 3, .inl (fun _ => 0)))] sz) := by
  refine Met.ofW (cc := cX10_move) (maxL := 4) (ret := (some .int)) (by decide) rfl ?_
  intro p e s m args below meth c s₁ B hml hv
  obtain ⟨rfl, hsz, hP, hK, hD0⟩ := hv
  have hx := B.exec
  have hb := B.bytes
  have hr := B.returns
  have hts := atoms_spec (ws := wsX10_move) B.pre
  have hown : s.vm.findClass RX10 = some m.cls := findClass_of_methodNamed B.named
  have hlocks := B.notSynchronized
  subst hsz
  have hD := hD0.self (sz := s.heap.size)
  generalize hAe : va_A [(h0, .inr (10, [.ref tp, .int 0, .int (-1), .ref ps, .ref sp, .ref tk, .ref dr, .ref pr, .ref da, .ref nw, .ref im, .int 0, .ref ac, .ref ke, .ref si, .ref tx, .ref an, .ref dw])), (ac, .inr (0, [.ref nw, .ref ac1, .ref ac2, .ref ac3])), (nw, .inr (6, [.ref nwt, .ref nwb, .int 0, .ref nwn, .ref nwi, .int 0, .ref nwr])), (nwt, .inr (9, [.ref nwtk, .ref nwtv, .ref nwte, .ref nwtd, .int 1])), (nwtk, .inl (y 0, 60, .inl (upd (fun _ => 0) 0 3))), (nwr, .inl (y 0, 3, .inl (fun _ => 0)))] s.heap.size = A at hD ⊢
  have hA : ∀ q : Nat, s.heap.size ≤ q → A q := fun q h => by rw [← hAe]; exact Or.inr h
  have hS : va_S A s.heap s.heap [] := va_S.rf
  have hP : va_P G vwCl [(h0, .inr (10, [.ref tp, .int 0, .int (-1), .ref ps, .ref sp, .ref tk, .ref dr, .ref pr, .ref da, .ref nw, .ref im, .int 0, .ref ac, .ref ke, .ref si, .ref tx, .ref an, .ref dw])), (ac, .inr (0, [.ref nw, .ref ac1, .ref ac2, .ref ac3])), (nw, .inr (6, [.ref nwt, .ref nwb, .int 0, .ref nwn, .ref nwi, .int 0, .ref nwr])), (nwt, .inr (9, [.ref nwtk, .ref nwtv, .ref nwte, .ref nwtd, .int 1])), (nwtk, .inl (y 0, 60, .inl (upd (fun _ => 0) 0 3))), (nwr, .inl (y 0, 3, .inl (fun _ => 0)))] s.heap := hP
  have inX10 : ∀ w ∈ wsX100, w ∈ wsX10_move := by decide +kernel
  have hl := lv_entry ([.ref h0, .int i, .int j, .int k]) (n := 4) (Nat.le_of_ble_eq_true rfl)
  rw [lg_entry_eq]
  generalize (lg_sl ([.ref h0, .int i, .int j, .int k]) ++ List.replicate (4 - (lg_sl ([.ref h0, .int i, .int j, .int k])).length) Slot.unset).toArray = ls at hl ⊢
  have hl : lv_has ls 4 [(0, .ref h0), (1, .int i), (2, .int j), (3, .int k)] := hl
  refine lv_aload_n hx hb dX10_move_0 rfl (lv_at hl 0 rfl) ?_
  refine lv_aload_n hx hb dX10_move_1 rfl (lv_at hl 0 rfl) ?_
  refine va_get (D := G) (ci := 10) (v := .ref ac) (C := RX10) (T := TX10) (N := 18) hx hb hts inX10 hown hK.1 hP 0 rfl rfl 12 (by decide) (hts (.fieldLink RX10 75 "NestQuery" "acts" "LNestQuery$Acts;") (by decide +kernel)) (fun _ h9 => h9) rfl dX10_move_2 ?_
  refine lv_iload_n hx hb dX10_move_5 rfl (lv_at hl 1 rfl) ?_
  refine lv_iload_n hx hb dX10_move_6 rfl (lv_at hl 2 rfl) ?_
  refine lv_iload_n hx hb dX10_move_7 rfl (lv_at hl 3 rfl) ?_
  refine nq_rdi (va_runV (As := [.int i, .int j, .int k]) (rest := [.ref h0]) ⟨hx, hb, hml, hown, hts⟩ (c_moveThing l G y s.heap.size ac nw ac1 ac2 ac3 nwt nwb nwn nwi nwr nwtk nwtv nwte nwtd i j k ) (cwV 3 hts gX10_move_X0_moveThing rfl rfl rfl (by decide +kernel) ⟨Nat.le_of_ble_eq_true rfl, Nat.le_of_ble_eq_true rfl⟩) (nq_PV hK hP hD [1, 2, 3, 4] rfl rfl 1 rfl rfl) rfl rfl hl.1 rfl (lv_room (Nat.le_of_ble_eq_true rfl)) dX10_move_8 ⟨Nat.le_of_ble_eq_true rfl, Nat.le_of_ble_eq_true rfl⟩) hP hS hA (fun r_1 H locs hw_2 hP hS => ?_)
  subst hw_2
  refine nq_wri (wr := [(ac, .inr (0, [.ref nw, .ref ac1, .ref ac2, .ref ac3])), (nwt, .inr (9, [.ref nwtk, .ref nwtv, .ref nwte, .ref nwtd, .int 1])), (nwtk, .inl (y 0, 60, .inl (upd (fun _ => 0) 0 3)))]) (va_runV (As := [.int (-1)]) (rest := []) ⟨hx, hb, hml, hown, hts⟩ (c_actDone l G y H.size h0 tp ps sp tk dr pr da nw im ac ke si tx an dw nwt nwb nwn nwi nwr ) (cwV 1 hts gX10_move_X10_actDone rfl rfl rfl (by decide +kernel) ⟨Nat.le_of_ble_eq_true rfl, Nat.le_of_ble_eq_true rfl⟩) (nq_PV hK hP hD [0, 2, 5] rfl rfl 0 rfl rfl) rfl rfl hl.1 rfl (lv_room (Nat.le_of_ble_eq_true rfl)) dX10_move_11 ⟨Nat.le_of_ble_eq_true rfl, Nat.le_of_ble_eq_true rfl⟩) hP hD hS hA [0, 2, 5] [1, 3, 4] rfl rfl (by decide) (by decide) (fun r_5 u_3 H locs hw_4 hP hD hS => ?_)
  have hP : va_P G vwCl [(ac, .inr (0, [.ref nw, .ref ac1, .ref ac2, .ref ac3])), (nwt, .inr (9, [.ref nwtk, .ref nwtv, .ref nwte, .ref nwtd, .int 1])), (nwtk, .inl (y 0, 60, .inl (upd (fun _ => 0) 0 3)))] H := hP
  have hD : va_D A [(ac, .inr (0, [.ref nw, .ref ac1, .ref ac2, .ref ac3])), (nwt, .inr (9, [.ref nwtk, .ref nwtv, .ref nwte, .ref nwtd, .int 1])), (nwtk, .inl (y 0, 60, .inl (upd (fun _ => 0) 0 3)))] := hD
  subst hw_4
  have hP9 := hP.sub (ws' := []) [] rfl
  have hD9 := hD.sub (ws' := []) [] (by decide) rfl
  refine W.widen (k := 0) (n := 0) (Nat.le_of_ble_eq_true rfl) (Nat.le_of_ble_eq_true rfl) ?_
  exact W.iret (v := (-1)) hx hb hr (fun t ht hW => ⟨⟨(-1), (), rfl, rfl, by rw [ht]; exact hP9, by first | exact hD9 | (rw [hAe]; exact hD9)⟩, hS.F ht⟩) hS.2.2 dX10_move_14

set_option maxHeartbeats 4000000 in
set_option maxRecDepth 100000 in
theorem c_layOn (l : Launch) (G : va_G) (y : Nat → ClassId) (sz : Nat) (ac : Nat) (nw : Nat) (ac1 : Nat) (ac2 : Nat) (ac3 : Nat) (ke : Nat) (ke1 : Nat) (ke2 : Nat) (ke3 : Nat) (ke4 : Nat) (b : Int32)  : Met l yX0_layOn wsX0_layOn ({ frames := 0, cells := 0, slots := 0, locals := 0 }) (nq_P G y sz [.ref ac, .ref ke, .int b] [(ac, .inr (0, [.ref nw, .ref ac1, .ref ac2, .ref ac3])), (ke, .inr (3, [.ref ke1, .ref ke2, .ref ke3, .ref ke4, .int 0]))]) (va_Qi (fun (r : Int32) (_ : Unit) => r = (-1)) (fun _ _ => True) (va_A [] sz)) 0 0 (va_A [] sz) := by
  refine Met.ofW (cc := cX0_layOn) (maxL := 3) (ret := (some .int)) (by decide) rfl ?_
  intro p e s m args below meth c s₁ B hml hv
  obtain ⟨rfl, hsz, hP, hK, hD0⟩ := hv
  have hx := B.exec
  have hb := B.bytes
  have hr := B.returns
  have hts := atoms_spec (ws := wsX0_layOn) B.pre
  have hown : s.vm.findClass RX0 = some m.cls := findClass_of_methodNamed B.named
  have hlocks := B.notSynchronized
  subst hsz
  have hD := hD0
  have hA : ∀ q : Nat, s.heap.size ≤ q → va_A [] s.heap.size q := fun q h => Or.inr h
  have hS : va_S (va_A [] s.heap.size) s.heap s.heap [] := va_S.rf
  have hP : va_P G vwCl [(ac, .inr (0, [.ref nw, .ref ac1, .ref ac2, .ref ac3])), (ke, .inr (3, [.ref ke1, .ref ke2, .ref ke3, .ref ke4, .int 0]))] s.heap := hP
  have inX3 : ∀ w ∈ wsX30, w ∈ wsX0_layOn := by decide +kernel
  have hl := lv_entry ([.ref ac, .ref ke, .int b]) (n := 3) (Nat.le_of_ble_eq_true rfl)
  rw [lg_entry_eq]
  generalize (lg_sl ([.ref ac, .ref ke, .int b]) ++ List.replicate (3 - (lg_sl ([.ref ac, .ref ke, .int b])).length) Slot.unset).toArray = ls at hl ⊢
  have hl : lv_has ls 3 [(0, .ref ac), (1, .ref ke), (2, .int b)] := hl
  refine lv_aload_n hx hb dX0_layOn_0 rfl (lv_at hl 1 rfl) ?_
  refine va_getN (D := G) (ci := 3) (v := .int 0) (C := RX3) (T := TX3) (N := 5) hx hb hts inX3 hown hK.1 hP 1 rfl rfl 4 (by decide) (va_Nw.use rfl (hK.2.1.1 _ (List.mem_of_getElem? (i := 18) rfl))) (fun _ h9 => h9) rfl dX0_layOn_1 ?_
  refine lv_iconst (v := 1) hx hb dX0_layOn_4 (by decide) ?_
  refine lv_icmp_ge (tgt := 10) hx hb dX0_layOn_5 (by decide) (fun c_1 => absurd c_1 (by decide)) (fun _ => ?_)
  refine lv_iconst (v := (-1)) hx hb dX0_layOn_8 (by decide) ?_
  refine W.widen (k := 0) (n := 0) (Nat.le_of_ble_eq_true rfl) (Nat.le_of_ble_eq_true rfl) ?_
  exact W.iret (v := (-1)) hx hb hr (fun t ht hW => ⟨⟨(-1), (), rfl, rfl, trivial⟩, hS.F ht⟩) hS.2.2 dX0_layOn_9

set_option maxHeartbeats 4000000 in
set_option maxRecDepth 100000 in
theorem c_apply (l : Launch) (G : va_G) (y : Nat → ClassId) (sz : Nat) (h0 : Nat) (tp : Nat) (ps : Nat) (sp : Nat) (tk : Nat) (dr : Nat) (pr : Nat) (da : Nat) (nw : Nat) (im : Nat) (ac : Nat) (ke : Nat) (si : Nat) (tx : Nat) (an : Nat) (dw : Nat) (ac1 : Nat) (ac2 : Nat) (ac3 : Nat) (ke1 : Nat) (ke2 : Nat) (ke3 : Nat) (ke4 : Nat) (nwt : Nat) (nwb : Nat) (nwn : Nat) (nwi : Nat) (nwr : Nat) (b : Int32)  : Met l yX10_apply wsX10_apply ({ frames := 2, cells := 0, slots := 0, locals := 42 }) (nq_P G y sz [.ref h0, .int b] [(h0, .inr (10, [.ref tp, .int 0, .int (-1), .ref ps, .ref sp, .ref tk, .ref dr, .ref pr, .ref da, .ref nw, .ref im, .int 0, .ref ac, .ref ke, .ref si, .ref tx, .ref an, .ref dw])), (ac, .inr (0, [.ref nw, .ref ac1, .ref ac2, .ref ac3])), (ke, .inr (3, [.ref ke1, .ref ke2, .ref ke3, .ref ke4, .int 0])), (nw, .inr (6, [.ref nwt, .ref nwb, .int 0, .ref nwn, .ref nwi, .int 0, .ref nwr])), (nwr, .inl (y 0, 3, .inl (fun _ => 0)))]) (va_Qi (fun (r : Int32) (_ : Unit) => r = (-1)) (fun (u : Unit) t9 => va_P G vwCl ([]) t9.heap ∧ va_D (va_A [(h0, .inr (10, [.ref tp, .int 0, .int (-1), .ref ps, .ref sp, .ref tk, .ref dr, .ref pr, .ref da, .ref nw, .ref im, .int 0, .ref ac, .ref ke, .ref si, .ref tx, .ref an, .ref dw])), (ac, .inr (0, [.ref nw, .ref ac1, .ref ac2, .ref ac3])), (ke, .inr (3, [.ref ke1, .ref ke2, .ref ke3, .ref ke4, .int 0])), (nw, .inr (6, [.ref nwt, .ref nwb, .int 0, .ref nwn, .ref nwi, .int 0, .ref nwr])), (nwr, .inl (y 0, 3, .inl (fun _ => 0)))] sz) ([])) (va_A [(h0, .inr (10, [.ref tp, .int 0, .int (-1), .ref ps, .ref sp, .ref tk, .ref dr, .ref pr, .ref da, .ref nw, .ref im, .int 0, .ref ac, .ref ke, .ref si, .ref tx, .ref an, .ref dw])), (ac, .inr (0, [.ref nw, .ref ac1, .ref ac2, .ref ac3])), (ke, .inr (3, [.ref ke1, .ref ke2, .ref ke3, .ref ke4, .int 0])), (nw, .inr (6, [.ref nwt, .ref nwb, .int 0, .ref nwn, .ref nwi, .int 0, .ref nwr])), (nwr, .inl (y 0, 3, .inl (fun _ => 0)))] sz)) 0 0 (va_A [(h0, .inr (10, [.ref tp, .int 0, .int (-1), .ref ps, .ref sp, .ref tk, .ref dr, .ref pr, .ref da, .ref nw, .ref im, .int 0, .ref ac, .ref ke, .ref si, .ref tx, .ref an, .ref dw])), (ac, .inr (0, [.ref nw, .ref ac1, .ref ac2, .ref ac3])), (ke, .inr (3, [.ref ke1, .ref ke2, .ref ke3, .ref ke4, .int 0])), (nw, .inr (6, [.ref nwt, .ref nwb, .int 0, .ref nwn, .ref nwi, .int 0, .ref nwr])), (nwr, .inl (y 0, 3, .inl (fun _ => 0)))] sz) := by
  refine Met.ofW (cc := cX10_apply) (maxL := 2) (ret := (some .int)) (by decide) rfl ?_
  intro p e s m args below meth c s₁ B hml hv
  obtain ⟨rfl, hsz, hP, hK, hD0⟩ := hv
  have hx := B.exec
  have hb := B.bytes
  have hr := B.returns
  have hts := atoms_spec (ws := wsX10_apply) B.pre
  have hown : s.vm.findClass RX10 = some m.cls := findClass_of_methodNamed B.named
  have hlocks := B.notSynchronized
  subst hsz
  have hD := hD0.self (sz := s.heap.size)
  generalize hAe : va_A [(h0, .inr (10, [.ref tp, .int 0, .int (-1), .ref ps, .ref sp, .ref tk, .ref dr, .ref pr, .ref da, .ref nw, .ref im, .int 0, .ref ac, .ref ke, .ref si, .ref tx, .ref an, .ref dw])), (ac, .inr (0, [.ref nw, .ref ac1, .ref ac2, .ref ac3])), (ke, .inr (3, [.ref ke1, .ref ke2, .ref ke3, .ref ke4, .int 0])), (nw, .inr (6, [.ref nwt, .ref nwb, .int 0, .ref nwn, .ref nwi, .int 0, .ref nwr])), (nwr, .inl (y 0, 3, .inl (fun _ => 0)))] s.heap.size = A at hD ⊢
  have hA : ∀ q : Nat, s.heap.size ≤ q → A q := fun q h => by rw [← hAe]; exact Or.inr h
  have hS : va_S A s.heap s.heap [] := va_S.rf
  have hP : va_P G vwCl [(h0, .inr (10, [.ref tp, .int 0, .int (-1), .ref ps, .ref sp, .ref tk, .ref dr, .ref pr, .ref da, .ref nw, .ref im, .int 0, .ref ac, .ref ke, .ref si, .ref tx, .ref an, .ref dw])), (ac, .inr (0, [.ref nw, .ref ac1, .ref ac2, .ref ac3])), (ke, .inr (3, [.ref ke1, .ref ke2, .ref ke3, .ref ke4, .int 0])), (nw, .inr (6, [.ref nwt, .ref nwb, .int 0, .ref nwn, .ref nwi, .int 0, .ref nwr])), (nwr, .inl (y 0, 3, .inl (fun _ => 0)))] s.heap := hP
  have inX10 : ∀ w ∈ wsX100, w ∈ wsX10_apply := by decide +kernel
  have hl := lv_entry ([.ref h0, .int b]) (n := 2) (Nat.le_of_ble_eq_true rfl)
  rw [lg_entry_eq]
  generalize (lg_sl ([.ref h0, .int b]) ++ List.replicate (2 - (lg_sl ([.ref h0, .int b])).length) Slot.unset).toArray = ls at hl ⊢
  have hl : lv_has ls 2 [(0, .ref h0), (1, .int b)] := hl
  refine lv_aload_n hx hb dX10_apply_0 rfl (lv_at hl 0 rfl) ?_
  refine lv_aload_n hx hb dX10_apply_1 rfl (lv_at hl 0 rfl) ?_
  refine va_get (D := G) (ci := 10) (v := .ref ac) (C := RX10) (T := TX10) (N := 18) hx hb hts inX10 hown hK.1 hP 0 rfl rfl 12 (by decide) (hts (.fieldLink RX10 75 "NestQuery" "acts" "LNestQuery$Acts;") (by decide +kernel)) (fun _ h9 => h9) rfl dX10_apply_2 ?_
  refine lv_aload_n hx hb dX10_apply_5 rfl (lv_at hl 0 rfl) ?_
  refine va_get (D := G) (ci := 10) (v := .ref ke) (C := RX10) (T := TX10) (N := 18) hx hb hts inX10 hown hK.1 hP 0 rfl rfl 13 (by decide) (hts (.fieldLink RX10 82 "NestQuery" "kept" "LNestQuery$Patch;") (by decide +kernel)) (fun _ h9 => h9) rfl dX10_apply_6 ?_
  refine lv_iload_n hx hb dX10_apply_9 rfl (lv_at hl 1 rfl) ?_
  refine nq_rdi (va_runV (As := [.ref ke, .int b]) (rest := [.ref h0]) ⟨hx, hb, hml, hown, hts⟩ (c_layOn l G y s.heap.size ac nw ac1 ac2 ac3 ke ke1 ke2 ke3 ke4 b ) (cwV 2 hts gX10_apply_X0_layOn rfl rfl rfl (by decide +kernel) ⟨Nat.le_of_ble_eq_true rfl, Nat.le_of_ble_eq_true rfl⟩) (nq_PV hK hP hD [1, 2] rfl rfl 1 rfl rfl) rfl rfl hl.1 rfl (lv_room (Nat.le_of_ble_eq_true rfl)) dX10_apply_10 ⟨Nat.le_of_ble_eq_true rfl, Nat.le_of_ble_eq_true rfl⟩) hP hS hA (fun r_1 H locs hw_2 hP hS => ?_)
  subst hw_2
  refine nq_wri (wr := [(ac, .inr (0, [.ref nw, .ref ac1, .ref ac2, .ref ac3])), (ke, .inr (3, [.ref ke1, .ref ke2, .ref ke3, .ref ke4, .int 0]))]) (va_runV (As := [.int (-1)]) (rest := []) ⟨hx, hb, hml, hown, hts⟩ (c_actDone l G y H.size h0 tp ps sp tk dr pr da nw im ac ke si tx an dw nwt nwb nwn nwi nwr ) (cwV 1 hts gX10_apply_X10_actDone rfl rfl rfl (by decide +kernel) ⟨Nat.le_of_ble_eq_true rfl, Nat.le_of_ble_eq_true rfl⟩) (nq_PV hK hP hD [0, 3, 4] rfl rfl 0 rfl rfl) rfl rfl hl.1 rfl (lv_room (Nat.le_of_ble_eq_true rfl)) dX10_apply_13 ⟨Nat.le_of_ble_eq_true rfl, Nat.le_of_ble_eq_true rfl⟩) hP hD hS hA [0, 3, 4] [1, 2] rfl rfl (by decide) (by decide) (fun r_5 u_3 H locs hw_4 hP hD hS => ?_)
  have hP : va_P G vwCl [(ac, .inr (0, [.ref nw, .ref ac1, .ref ac2, .ref ac3])), (ke, .inr (3, [.ref ke1, .ref ke2, .ref ke3, .ref ke4, .int 0]))] H := hP
  have hD : va_D A [(ac, .inr (0, [.ref nw, .ref ac1, .ref ac2, .ref ac3])), (ke, .inr (3, [.ref ke1, .ref ke2, .ref ke3, .ref ke4, .int 0]))] := hD
  subst hw_4
  have hP9 := hP.sub (ws' := []) [] rfl
  have hD9 := hD.sub (ws' := []) [] (by decide) rfl
  refine W.widen (k := 0) (n := 0) (Nat.le_of_ble_eq_true rfl) (Nat.le_of_ble_eq_true rfl) ?_
  exact W.iret (v := (-1)) hx hb hr (fun t ht hW => ⟨⟨(-1), (), rfl, rfl, by rw [ht]; exact hP9, by first | exact hD9 | (rw [hAe]; exact hD9)⟩, hS.F ht⟩) hS.2.2 dX10_apply_16

set_option maxHeartbeats 4000000 in
set_option maxRecDepth 100000 in
theorem c_note (l : Launch) (G : va_G) (y : Nat → ClassId) (sz : Nat) (h0 : Nat) (tp : Nat) (ps : Nat) (sp : Nat) (tk : Nat) (dr : Nat) (pr : Nat) (da : Nat) (nw : Nat) (im : Nat) (ac : Nat) (ke : Nat) (si : Nat) (tx : Nat) (an : Nat) (dw : Nat) (nwt : Nat) (nwb : Nat) (nwn : Nat) (nwi : Nat) (nwr : Nat) (nwtk : Nat) (nwtv : Nat) (nwte : Nat) (nwtd : Nat) (i : Int32) (b : Int32)  : Met l yX10_note wsX10_note ({ frames := 1, cells := 0, slots := 0, locals := 22 }) (nq_P G y sz [.ref h0, .int i, .int b] [(h0, .inr (10, [.ref tp, .int 0, .int (-1), .ref ps, .ref sp, .ref tk, .ref dr, .ref pr, .ref da, .ref nw, .ref im, .int 0, .ref ac, .ref ke, .ref si, .ref tx, .ref an, .ref dw])), (nw, .inr (6, [.ref nwt, .ref nwb, .int 0, .ref nwn, .ref nwi, .int 0, .ref nwr])), (nwt, .inr (9, [.ref nwtk, .ref nwtv, .ref nwte, .ref nwtd, .int 1])), (nwtk, .inl (y 0, 60, .inl (upd (fun _ => 0) 0 3))), (nwn, .inl (y 0, 8, .inl (fun _ => 0))), (nwi, .inl (y 2, 8, .inl (fun _ => 0))), (nwr, .inl (y 0, 3, .inl (fun _ => 0)))]) (va_Qi (fun (r : Int32) (_ : Unit) => (i = 0 ∧ r = 1) ∨ (¬ i = 0 ∧ r = (-1))) (fun (u : Unit) t9 => va_P G vwCl ([]) t9.heap ∧ va_D (va_A [(h0, .inr (10, [.ref tp, .int 0, .int (-1), .ref ps, .ref sp, .ref tk, .ref dr, .ref pr, .ref da, .ref nw, .ref im, .int 0, .ref ac, .ref ke, .ref si, .ref tx, .ref an, .ref dw])), (nw, .inr (6, [.ref nwt, .ref nwb, .int 0, .ref nwn, .ref nwi, .int 0, .ref nwr])), (nwt, .inr (9, [.ref nwtk, .ref nwtv, .ref nwte, .ref nwtd, .int 1])), (nwtk, .inl (y 0, 60, .inl (upd (fun _ => 0) 0 3))), (nwn, .inl (y 0, 8, .inl (fun _ => 0))), (nwi, .inl (y 2, 8, .inl (fun _ => 0))), (nwr, .inl (y 0, 3, .inl (fun _ => 0)))] sz) ([])) (va_A [(h0, .inr (10, [.ref tp, .int 0, .int (-1), .ref ps, .ref sp, .ref tk, .ref dr, .ref pr, .ref da, .ref nw, .ref im, .int 0, .ref ac, .ref ke, .ref si, .ref tx, .ref an, .ref dw])), (nw, .inr (6, [.ref nwt, .ref nwb, .int 0, .ref nwn, .ref nwi, .int 0, .ref nwr])), (nwt, .inr (9, [.ref nwtk, .ref nwtv, .ref nwte, .ref nwtd, .int 1])), (nwtk, .inl (y 0, 60, .inl (upd (fun _ => 0) 0 3))), (nwn, .inl (y 0, 8, .inl (fun _ => 0))), (nwi, .inl (y 2, 8, .inl (fun _ => 0))), (nwr, .inl (y 0, 3, .inl (fun _ => 0)))] sz)) 0 0 (va_A [(h0, .inr (10, [.ref tp, .int 0, .int (-1), .ref ps, .ref sp, .ref tk, .ref dr, .ref pr, .ref da, .ref nw, .ref im, .int 0, .ref ac, .ref ke, .ref si, .ref tx, .ref an, .ref dw])), (nw, .inr (6, [.ref nwt, .ref nwb, .int 0, .ref nwn, .ref nwi, .int 0, .ref nwr])), (nwt, .inr (9, [.ref nwtk, .ref nwtv, .ref nwte, .ref nwtd, .int 1])), (nwtk, .inl (y 0, 60, .inl (upd (fun _ => 0) 0 3))), (nwn, .inl (y 0, 8, .inl (fun _ => 0))), (nwi, .inl (y 2, 8, .inl (fun _ => 0))), (nwr, .inl (y 0, 3, .inl (fun _ => 0)))] sz) := by
  refine Met.ofW (cc := cX10_note) (maxL := 3) (ret := (some .int)) (by decide) rfl ?_
  intro p e s m args below meth c s₁ B hml hv
  obtain ⟨rfl, hsz, hP, hK, hD0⟩ := hv
  have hx := B.exec
  have hb := B.bytes
  have hr := B.returns
  have hts := atoms_spec (ws := wsX10_note) B.pre
  have hown : s.vm.findClass RX10 = some m.cls := findClass_of_methodNamed B.named
  have hlocks := B.notSynchronized
  subst hsz
  have hD := hD0.self (sz := s.heap.size)
  generalize hAe : va_A [(h0, .inr (10, [.ref tp, .int 0, .int (-1), .ref ps, .ref sp, .ref tk, .ref dr, .ref pr, .ref da, .ref nw, .ref im, .int 0, .ref ac, .ref ke, .ref si, .ref tx, .ref an, .ref dw])), (nw, .inr (6, [.ref nwt, .ref nwb, .int 0, .ref nwn, .ref nwi, .int 0, .ref nwr])), (nwt, .inr (9, [.ref nwtk, .ref nwtv, .ref nwte, .ref nwtd, .int 1])), (nwtk, .inl (y 0, 60, .inl (upd (fun _ => 0) 0 3))), (nwn, .inl (y 0, 8, .inl (fun _ => 0))), (nwi, .inl (y 2, 8, .inl (fun _ => 0))), (nwr, .inl (y 0, 3, .inl (fun _ => 0)))] s.heap.size = A at hD ⊢
  have hA : ∀ q : Nat, s.heap.size ≤ q → A q := fun q h => by rw [← hAe]; exact Or.inr h
  have hS : va_S A s.heap s.heap [] := va_S.rf
  have hP : va_P G vwCl [(h0, .inr (10, [.ref tp, .int 0, .int (-1), .ref ps, .ref sp, .ref tk, .ref dr, .ref pr, .ref da, .ref nw, .ref im, .int 0, .ref ac, .ref ke, .ref si, .ref tx, .ref an, .ref dw])), (nw, .inr (6, [.ref nwt, .ref nwb, .int 0, .ref nwn, .ref nwi, .int 0, .ref nwr])), (nwt, .inr (9, [.ref nwtk, .ref nwtv, .ref nwte, .ref nwtd, .int 1])), (nwtk, .inl (y 0, 60, .inl (upd (fun _ => 0) 0 3))), (nwn, .inl (y 0, 8, .inl (fun _ => 0))), (nwi, .inl (y 2, 8, .inl (fun _ => 0))), (nwr, .inl (y 0, 3, .inl (fun _ => 0)))] s.heap := hP
  have inX10 : ∀ w ∈ wsX100, w ∈ wsX10_note := by decide +kernel
  have inX6 : ∀ w ∈ wsX60, w ∈ wsX10_note := by decide +kernel
  have hl := lv_entry ([.ref h0, .int i, .int b]) (n := 3) (Nat.le_of_ble_eq_true rfl)
  rw [lg_entry_eq]
  generalize (lg_sl ([.ref h0, .int i, .int b]) ++ List.replicate (3 - (lg_sl ([.ref h0, .int i, .int b])).length) Slot.unset).toArray = ls at hl ⊢
  have hl : lv_has ls 3 [(0, .ref h0), (1, .int i), (2, .int b)] := hl
  refine lv_aload_n hx hb dX10_note_0 rfl (lv_at hl 0 rfl) ?_
  refine va_get (D := G) (ci := 10) (v := .ref nw) (C := RX10) (T := TX10) (N := 18) hx hb hts inX10 hown hK.1 hP 0 rfl rfl 9 (by decide) (hts (.fieldLink RX10 63 "NestQuery" "now" "LNestQuery$State;") (by decide +kernel)) (fun _ h9 => h9) rfl dX10_note_1 ?_
  refine va_getN (D := G) (ci := 6) (v := .ref nwt) (C := RX6) (T := TX6) (N := 7) hx hb hts inX6 hown hK.1 hP 1 rfl rfl 0 (by decide) (va_Nw.use rfl (hK.2.1.1 _ (List.mem_of_getElem? (i := 13) rfl))) (fun _ h9 => h9) rfl dX10_note_4 ?_
  refine lv_iload_n hx hb dX10_note_7 rfl (lv_at hl 1 rfl) ?_
  refine nq_rdi (va_runV (As := [.int i]) (rest := []) ⟨hx, hb, hml, hown, hts⟩ (c_has l G y s.heap.size nwt nwtk nwtv nwte nwtd (upd (fun _ => 0) 0 3) i (pk_us)) (cwV 1 hts gX10_note_X9_has rfl rfl rfl (by decide +kernel) ⟨Nat.le_of_ble_eq_true rfl, Nat.le_of_ble_eq_true rfl⟩) (nq_PV hK hP hD [2, 3] rfl rfl 2 rfl rfl) rfl rfl hl.1 rfl (lv_room (Nat.le_of_ble_eq_true rfl)) dX10_note_8 ⟨Nat.le_of_ble_eq_true rfl, Nat.le_of_ble_eq_true rfl⟩) hP hS hA (fun r_1 H locs hw_2 hP hS => ?_)
  rcases hw_2 with ⟨c_3, hr_4⟩ | ⟨c_5, hr_6⟩
  · subst c_3
    subst hr_4
    refine lv_if_eq (tgt := 26) hx hb dX10_note_11 (by decide) (fun c_7 => absurd c_7 (by decide)) (fun _ => ?_)
    refine lv_aload_n hx hb dX10_note_14 rfl (lv_at hl 0 rfl) ?_
    refine va_get (D := G) (ci := 10) (v := .ref nw) (C := RX10) (T := TX10) (N := 18) hx hb hts inX10 hown hK.1 hP 0 rfl rfl 9 (by decide) (hts (.fieldLink RX10 63 "NestQuery" "now" "LNestQuery$State;") (by decide +kernel)) (fun _ h9 => h9) rfl dX10_note_15 ?_
    refine lv_iload_n hx hb dX10_note_18 rfl (lv_at hl 1 rfl) ?_
    refine lv_iload_n hx hb dX10_note_19 rfl (lv_at hl 2 rfl) ?_
    refine nq_wri (wr := [(h0, .inr (10, [.ref tp, .int 0, .int (-1), .ref ps, .ref sp, .ref tk, .ref dr, .ref pr, .ref da, .ref nw, .ref im, .int 0, .ref ac, .ref ke, .ref si, .ref tx, .ref an, .ref dw])), (nwt, .inr (9, [.ref nwtk, .ref nwtv, .ref nwte, .ref nwtd, .int 1])), (nwtk, .inl (y 0, 60, .inl (upd (fun _ => 0) 0 3))), (nwr, .inl (y 0, 3, .inl (fun _ => 0)))]) (va_runV (As := [.int 0, .int b]) (rest := []) ⟨hx, hb, hml, hown, hts⟩ (c_notes l G y H.size nw nwt nwb nwn nwi nwr b ) (cwV 2 hts gX10_note_X6_notes rfl rfl rfl (by decide +kernel) ⟨Nat.le_of_ble_eq_true rfl, Nat.le_of_ble_eq_true rfl⟩) (nq_PV hK hP hD [1, 4, 5] rfl rfl 1 rfl rfl) rfl rfl hl.1 rfl (lv_room (Nat.le_of_ble_eq_true rfl)) dX10_note_20 ⟨Nat.le_of_ble_eq_true rfl, Nat.le_of_ble_eq_true rfl⟩) hP hD hS hA [1, 4, 5] [0, 2, 3, 6] rfl rfl (by decide) (by decide) (fun r_10 u_8 H locs hw_9 hP hD hS => ?_)
    have hP : va_P G vwCl [(h0, .inr (10, [.ref tp, .int 0, .int (-1), .ref ps, .ref sp, .ref tk, .ref dr, .ref pr, .ref da, .ref nw, .ref im, .int 0, .ref ac, .ref ke, .ref si, .ref tx, .ref an, .ref dw])), (nwt, .inr (9, [.ref nwtk, .ref nwtv, .ref nwte, .ref nwtd, .int 1])), (nwtk, .inl (y 0, 60, .inl (upd (fun _ => 0) 0 3))), (nwr, .inl (y 0, 3, .inl (fun _ => 0))), (nw, .inr (6, [.ref nwt, .ref nwb, .int 0, .ref nwn, .ref nwi, .int 1, .ref nwr]))] H := hP
    have hD : va_D A [(h0, .inr (10, [.ref tp, .int 0, .int (-1), .ref ps, .ref sp, .ref tk, .ref dr, .ref pr, .ref da, .ref nw, .ref im, .int 0, .ref ac, .ref ke, .ref si, .ref tx, .ref an, .ref dw])), (nwt, .inr (9, [.ref nwtk, .ref nwtv, .ref nwte, .ref nwtd, .int 1])), (nwtk, .inl (y 0, 60, .inl (upd (fun _ => 0) 0 3))), (nwr, .inl (y 0, 3, .inl (fun _ => 0))), (nw, .inr (6, [.ref nwt, .ref nwb, .int 0, .ref nwn, .ref nwi, .int 1, .ref nwr]))] := hD
    subst hw_9
    refine lv_if_ne (tgt := 36) hx hb dX10_note_23 (by decide) (fun _ => ?_) (fun c_11 => absurd c_11 (by decide))
    refine lv_aload_n hx hb dX10_note_36 rfl (lv_at hl 0 rfl) ?_
    refine va_get (D := G) (ci := 10) (v := .ref nw) (C := RX10) (T := TX10) (N := 18) hx hb hts inX10 hown hK.1 hP 0 rfl rfl 9 (by decide) (hts (.fieldLink RX10 63 "NestQuery" "now" "LNestQuery$State;") (by decide +kernel)) (fun _ h9 => h9) rfl dX10_note_37 ?_
    refine va_getN (D := G) (ci := 6) (v := .int 1) (C := RX6) (T := TX6) (N := 7) hx hb hts inX6 hown hK.1 hP 4 rfl rfl 5 (by decide) (va_Nw.use rfl (hK.2.1.1 _ (List.mem_of_getElem? (i := 16) rfl))) (fun _ h9 => h9) rfl dX10_note_40 ?_
    have hP9 := hP.sub (ws' := []) [] rfl
    have hD9 := hD.sub (ws' := []) [] (by decide) rfl
    refine W.widen (k := 0) (n := 0) (Nat.le_of_ble_eq_true rfl) (Nat.le_of_ble_eq_true rfl) ?_
    exact W.iret (v := 1) hx hb hr (fun t ht hW => ⟨⟨1, (), rfl, Or.inl (⟨by decide, rfl⟩), by rw [ht]; exact hP9, by first | exact hD9 | (rw [hAe]; exact hD9)⟩, hS.F ht⟩) hS.2.2 dX10_note_43
  · subst hr_6
    refine lv_if_eq (tgt := 26) hx hb dX10_note_11 (by decide) (fun _ => ?_) (fun c_12 => absurd c_12 (by decide))
    refine lv_aload_n hx hb dX10_note_26 rfl (lv_at hl 0 rfl) ?_
    refine va_get (D := G) (ci := 10) (v := .ref nw) (C := RX10) (T := TX10) (N := 18) hx hb hts inX10 hown hK.1 hP 0 rfl rfl 9 (by decide) (hts (.fieldLink RX10 63 "NestQuery" "now" "LNestQuery$State;") (by decide +kernel)) (fun _ h9 => h9) rfl dX10_note_27 ?_
    refine lv_iconst (v := 2) hx hb dX10_note_30 (by decide) ?_
    refine nq_wrv (wr := [(h0, .inr (10, [.ref tp, .int 0, .int (-1), .ref ps, .ref sp, .ref tk, .ref dr, .ref pr, .ref da, .ref nw, .ref im, .int 0, .ref ac, .ref ke, .ref si, .ref tx, .ref an, .ref dw])), (nwt, .inr (9, [.ref nwtk, .ref nwtv, .ref nwte, .ref nwtd, .int 1])), (nwtk, .inl (y 0, 60, .inl (upd (fun _ => 0) 0 3))), (nwn, .inl (y 0, 8, .inl (fun _ => 0))), (nwi, .inl (y 2, 8, .inl (fun _ => 0)))]) (va_runV (As := [.int 2]) (rest := []) ⟨hx, hb, hml, hown, hts⟩ (c_refuse2 l G y H.size nw nwt nwb nwn nwi nwr ) (cwV 1 hts gX10_note_X6_refuse rfl rfl rfl (by decide +kernel) ⟨Nat.le_of_ble_eq_true rfl, Nat.le_of_ble_eq_true rfl⟩) (nq_PV hK hP hD [1, 6] rfl rfl 1 rfl rfl) rfl rfl hl.1 rfl (lv_room (Nat.le_of_ble_eq_true rfl)) dX10_note_31 ⟨Nat.le_of_ble_eq_true rfl, Nat.le_of_ble_eq_true rfl⟩) hP hD hS hA [1, 6] [0, 2, 3, 4, 5] rfl rfl (by decide) (by decide) (fun u_13 H locs hw_14 hP hD hS => ?_)
    have hP : va_P G vwCl [(h0, .inr (10, [.ref tp, .int 0, .int (-1), .ref ps, .ref sp, .ref tk, .ref dr, .ref pr, .ref da, .ref nw, .ref im, .int 0, .ref ac, .ref ke, .ref si, .ref tx, .ref an, .ref dw])), (nwt, .inr (9, [.ref nwtk, .ref nwtv, .ref nwte, .ref nwtd, .int 1])), (nwtk, .inl (y 0, 60, .inl (upd (fun _ => 0) 0 3))), (nwn, .inl (y 0, 8, .inl (fun _ => 0))), (nwi, .inl (y 2, 8, .inl (fun _ => 0)))] H := hP
    have hD : va_D A [(h0, .inr (10, [.ref tp, .int 0, .int (-1), .ref ps, .ref sp, .ref tk, .ref dr, .ref pr, .ref da, .ref nw, .ref im, .int 0, .ref ac, .ref ke, .ref si, .ref tx, .ref an, .ref dw])), (nwt, .inr (9, [.ref nwtk, .ref nwtv, .ref nwte, .ref nwtd, .int 1])), (nwtk, .inl (y 0, 60, .inl (upd (fun _ => 0) 0 3))), (nwn, .inl (y 0, 8, .inl (fun _ => 0))), (nwi, .inl (y 2, 8, .inl (fun _ => 0)))] := hD
    refine lv_iconst (v := (-1)) hx hb dX10_note_34 (by decide) ?_
    have hP9 := hP.sub (ws' := []) [] rfl
    have hD9 := hD.sub (ws' := []) [] (by decide) rfl
    refine W.widen (k := 0) (n := 0) (Nat.le_of_ble_eq_true rfl) (Nat.le_of_ble_eq_true rfl) ?_
    exact W.iret (v := (-1)) hx hb hr (fun t ht hW => ⟨⟨(-1), (), rfl, Or.inr (⟨c_5, rfl⟩), by rw [ht]; exact hP9, by first | exact hD9 | (rw [hAe]; exact hD9)⟩, hS.F ht⟩) hS.2.2 dX10_note_35
