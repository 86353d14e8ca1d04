set_option maxHeartbeats 400000 in
set_option maxRecDepth 100000 in
theorem x_count (l : Launch) (hl0 : l.stackTraces = false) (G : va_G) (y : Nat → ClassId) (sz : Nat) (h0 : Nat) (tp : Nat) (ps : Nat) (sp : Nat) (tk : Nat) (dr : Nat) (pr : Nat) (da : Nat) (nw : Nat) (im : Nat) (ac : Nat) (ke : Nat) (si : Nat) (tx : Nat) (an : Nat) (dw : Nat) (nwt : Nat) (nwb : Nat) (nwn : Nat) (nwi : Nat) (nwr : Nat) (nwtk : Nat) (nwtv : Nat) (nwte : Nat) (nwtd : Nat) (ke1 : Nat) (ke2 : Nat) (ke3 : Nat) (ke4 : Nat) (i : Int32)  : vx_Met l yX10_count wsX10_count ({ frames := 6, cells := 1, slots := 6, locals := 100 }) (nq_PX G y sz [.ref h0, .int i] [(h0, .inr (10, [.ref tp, .int 0, .int (-1), .ref ps, .ref sp, .ref tk, .ref dr, .ref pr, .ref da, .ref nw, .ref im, .int 0, .ref ac, .ref ke, .ref si, .ref tx, .ref an, .ref dw])), (nw, .inr (6, [.ref nwt, .ref nwb, .int 0, .ref nwn, .ref nwi, .int 0, .ref nwr])), (nwt, .inr (9, [.ref nwtk, .ref nwtv, .ref nwte, .ref nwtd, .int 1])), (nwtk, .inl (y 0, 60, .inl (upd (fun _ => 0) 0 3))), (nwtd, .inl (y 0, 60, .inl (upd (fun _ => 0) 0 0))), (ps, .inl (y 3, 4, .inr (.inr (.inr (.inr (fun _ => none)))))), (an, .inl (y 1, 4, .inr (.inl (fun _ => 0)))), (ke, .inr (3, [.ref ke1, .ref ke2, .ref ke3, .ref ke4, .int 0])), (nwr, .inl (y 0, 3, .inl (fun _ => 0)))]) (va_Qi (fun (r : Int32) (_ : Unit) => (sp_count i).1 = 0 ∧ r = (sp_count i).2) (fun (u : Unit) t9 => va_P G vwCl ([]) t9.heap ∧ va_D (va_A [(h0, .inr (10, [.ref tp, .int 0, .int (-1), .ref ps, .ref sp, .ref tk, .ref dr, .ref pr, .ref da, .ref nw, .ref im, .int 0, .ref ac, .ref ke, .ref si, .ref tx, .ref an, .ref dw])), (nw, .inr (6, [.ref nwt, .ref nwb, .int 0, .ref nwn, .ref nwi, .int 0, .ref nwr])), (nwt, .inr (9, [.ref nwtk, .ref nwtv, .ref nwte, .ref nwtd, .int 1])), (nwtk, .inl (y 0, 60, .inl (upd (fun _ => 0) 0 3))), (nwtd, .inl (y 0, 60, .inl (upd (fun _ => 0) 0 0))), (ps, .inl (y 3, 4, .inr (.inr (.inr (.inr (fun _ => none)))))), (an, .inl (y 1, 4, .inr (.inl (fun _ => 0)))), (ke, .inr (3, [.ref ke1, .ref ke2, .ref ke3, .ref ke4, .int 0])), (nwr, .inl (y 0, 3, .inl (fun _ => 0)))] sz) ([])) (va_A [(h0, .inr (10, [.ref tp, .int 0, .int (-1), .ref ps, .ref sp, .ref tk, .ref dr, .ref pr, .ref da, .ref nw, .ref im, .int 0, .ref ac, .ref ke, .ref si, .ref tx, .ref an, .ref dw])), (nw, .inr (6, [.ref nwt, .ref nwb, .int 0, .ref nwn, .ref nwi, .int 0, .ref nwr])), (nwt, .inr (9, [.ref nwtk, .ref nwtv, .ref nwte, .ref nwtd, .int 1])), (nwtk, .inl (y 0, 60, .inl (upd (fun _ => 0) 0 3))), (nwtd, .inl (y 0, 60, .inl (upd (fun _ => 0) 0 0))), (ps, .inl (y 3, 4, .inr (.inr (.inr (.inr (fun _ => none)))))), (an, .inl (y 1, 4, .inr (.inl (fun _ => 0)))), (ke, .inr (3, [.ref ke1, .ref ke2, .ref ke3, .ref ke4, .int 0])), (nwr, .inl (y 0, 3, .inl (fun _ => 0)))] sz)) (vx_X (fun (_ : Unit) => True) (fun E _ _ => E = nq_NSE ∧ (sp_count i).1 = 1) (va_A [(h0, .inr (10, [.ref tp, .int 0, .int (-1), .ref ps, .ref sp, .ref tk, .ref dr, .ref pr, .ref da, .ref nw, .ref im, .int 0, .ref ac, .ref ke, .ref si, .ref tx, .ref an, .ref dw])), (nw, .inr (6, [.ref nwt, .ref nwb, .int 0, .ref nwn, .ref nwi, .int 0, .ref nwr])), (nwt, .inr (9, [.ref nwtk, .ref nwtv, .ref nwte, .ref nwtd, .int 1])), (nwtk, .inl (y 0, 60, .inl (upd (fun _ => 0) 0 3))), (nwtd, .inl (y 0, 60, .inl (upd (fun _ => 0) 0 0))), (ps, .inl (y 3, 4, .inr (.inr (.inr (.inr (fun _ => none)))))), (an, .inl (y 1, 4, .inr (.inl (fun _ => 0)))), (ke, .inr (3, [.ref ke1, .ref ke2, .ref ke3, .ref ke4, .int 0])), (nwr, .inl (y 0, 3, .inl (fun _ => 0)))] sz)) 1 6 (va_A [(h0, .inr (10, [.ref tp, .int 0, .int (-1), .ref ps, .ref sp, .ref tk, .ref dr, .ref pr, .ref da, .ref nw, .ref im, .int 0, .ref ac, .ref ke, .ref si, .ref tx, .ref an, .ref dw])), (nw, .inr (6, [.ref nwt, .ref nwb, .int 0, .ref nwn, .ref nwi, .int 0, .ref nwr])), (nwt, .inr (9, [.ref nwtk, .ref nwtv, .ref nwte, .ref nwtd, .int 1])), (nwtk, .inl (y 0, 60, .inl (upd (fun _ => 0) 0 3))), (nwtd, .inl (y 0, 60, .inl (upd (fun _ => 0) 0 0))), (ps, .inl (y 3, 4, .inr (.inr (.inr (.inr (fun _ => none)))))), (an, .inl (y 1, 4, .inr (.inl (fun _ => 0)))), (ke, .inr (3, [.ref ke1, .ref ke2, .ref ke3, .ref ke4, .int 0])), (nwr, .inl (y 0, 3, .inl (fun _ => 0)))] sz) := by
  refine vx_ofW (cc := cX10_count) (maxL := 2) (ret := (some .int)) (by decide) rfl ?_
  intro p e s m args below meth c s₁ B hml htab hv
  obtain ⟨rfl, hsz, hP, hK, hD0, hXs⟩ := hv
  have hx := B.exec
  have hb := B.bytes
  have hr := B.returns
  have hts := atoms_spec (ws := wsX10_count) B.pre
  have hown : s.vm.findClass RX10 = some m.cls := findClass_of_methodNamed B.named
  have hlocks := B.notSynchronized
  subst hsz
  have hD := hD0.self (sz := s.heap.size)
  generalize hAe : va_A [(h0, .inr (10, [.ref tp, .int 0, .int (-1), .ref ps, .ref sp, .ref tk, .ref dr, .ref pr, .ref da, .ref nw, .ref im, .int 0, .ref ac, .ref ke, .ref si, .ref tx, .ref an, .ref dw])), (nw, .inr (6, [.ref nwt, .ref nwb, .int 0, .ref nwn, .ref nwi, .int 0, .ref nwr])), (nwt, .inr (9, [.ref nwtk, .ref nwtv, .ref nwte, .ref nwtd, .int 1])), (nwtk, .inl (y 0, 60, .inl (upd (fun _ => 0) 0 3))), (nwtd, .inl (y 0, 60, .inl (upd (fun _ => 0) 0 0))), (ps, .inl (y 3, 4, .inr (.inr (.inr (.inr (fun _ => none)))))), (an, .inl (y 1, 4, .inr (.inl (fun _ => 0)))), (ke, .inr (3, [.ref ke1, .ref ke2, .ref ke3, .ref ke4, .int 0])), (nwr, .inl (y 0, 3, .inl (fun _ => 0)))] s.heap.size = A at hD hXs ⊢
  have hA : ∀ q : Nat, s.heap.size ≤ q → A q := fun q h => by rw [← hAe]; exact Or.inr h
  have hS : va_S A s.heap s.heap [] := va_S.rf
  have hP : va_P G vwCl [(h0, .inr (10, [.ref tp, .int 0, .int (-1), .ref ps, .ref sp, .ref tk, .ref dr, .ref pr, .ref da, .ref nw, .ref im, .int 0, .ref ac, .ref ke, .ref si, .ref tx, .ref an, .ref dw])), (nw, .inr (6, [.ref nwt, .ref nwb, .int 0, .ref nwn, .ref nwi, .int 0, .ref nwr])), (nwt, .inr (9, [.ref nwtk, .ref nwtv, .ref nwte, .ref nwtd, .int 1])), (nwtk, .inl (y 0, 60, .inl (upd (fun _ => 0) 0 3))), (nwtd, .inl (y 0, 60, .inl (upd (fun _ => 0) 0 0))), (ps, .inl (y 3, 4, .inr (.inr (.inr (.inr (fun _ => none)))))), (an, .inl (y 1, 4, .inr (.inl (fun _ => 0)))), (ke, .inr (3, [.ref ke1, .ref ke2, .ref ke3, .ref ke4, .int 0])), (nwr, .inl (y 0, 3, .inl (fun _ => 0)))] s.heap := hP
  have inX10 : ∀ w ∈ wsX100, w ∈ wsX10_count := by decide +kernel
  have inX3 : ∀ w ∈ wsX30, w ∈ wsX10_count := by decide +kernel
  have inX6 : ∀ w ∈ wsX60, w ∈ wsX10_count := by decide +kernel
  have inX9 : ∀ w ∈ wsX90, w ∈ wsX10_count := by decide +kernel
  have hl := lv_entry ([.ref h0, .int i]) (n := 2) (Nat.le_of_ble_eq_true rfl)
  rw [lg_entry_eq]
  generalize (lg_sl ([.ref h0, .int i]) ++ List.replicate (2 - (lg_sl ([.ref h0, .int i])).length) Slot.unset).toArray = ls at hl ⊢
  have hl : lv_has ls 2 [(0, .ref h0), (1, .int i)] := hl
  refine lv_iload_n hx hb dX10_count_0 rfl (lv_at hl 1 rfl) ?_
  by_cases c_1 : i = 0
  · subst c_1
    refine lv_tableIn (tgt := 88) hx hb dX10_count_1 (by decide) (by decide) (by rfl) (by decide) ?_
    refine lv_aload_n hx hb dX10_count_88 rfl (lv_at hl 0 rfl) ?_
    refine va_get (D := G) (ci := 10) (v := .ref nw) (C := RX10) (T := TX10) (N := 18) hx hb hts inX10 hown hK.1 hP 0 rfl rfl 9 (by decide) (hts (.fieldLink RX10 63 "NestQuery" "now" "LNestQuery$State;") (by decide +kernel)) (fun _ h9 => h9) rfl dX10_count_89 ?_
    refine va_getN (D := G) (ci := 6) (v := .ref nwt) (C := RX6) (T := TX6) (N := 7) hx hb hts inX6 hown hK.1 hP 1 rfl rfl 0 (by decide) (nl_13 hK) (fun _ h9 => h9) rfl dX10_count_92 ?_
    refine va_getN (D := G) (ci := 9) (v := .int 1) (C := RX9) (T := TX9) (N := 5) hx hb hts inX9 hown hK.1 hP 2 rfl rfl 4 (by decide) (nl_11 hK) (fun _ h9 => h9) rfl dX10_count_95 ?_
    have hP9 := hP.sub (ws' := []) [] rfl
    have hD9 := hD.sub (ws' := []) [] (by decide) rfl
    refine vx_ret ?_
    refine W.widen (k := 1) (n := 6) (Nat.le_of_ble_eq_true rfl) (Nat.le_of_ble_eq_true rfl) ?_
    exact W.iret (v := 1) hx hb hr (fun t ht hW => ⟨⟨1, (), rfl, ⟨by decide, by decide⟩, by rw [ht]; exact hP9, by first | exact hD9 | (rw [hAe]; exact hD9)⟩, hS.F ht⟩) hS.2.2 dX10_count_98
  by_cases c_2 : i = 1
  · subst c_2
    refine lv_tableIn (tgt := 99) hx hb dX10_count_1 (by decide) (by decide) (by rfl) (by decide) ?_
    refine lv_aload_n hx hb dX10_count_99 rfl (lv_at hl 0 rfl) ?_
    refine va_get (D := G) (ci := 10) (v := .ref nw) (C := RX10) (T := TX10) (N := 18) hx hb hts inX10 hown hK.1 hP 0 rfl rfl 9 (by decide) (hts (.fieldLink RX10 63 "NestQuery" "now" "LNestQuery$State;") (by decide +kernel)) (fun _ h9 => h9) rfl dX10_count_100 ?_
    refine va_getN (D := G) (ci := 6) (v := .ref nwt) (C := RX6) (T := TX6) (N := 7) hx hb hts inX6 hown hK.1 hP 1 rfl rfl 0 (by decide) (nl_13 hK) (fun _ h9 => h9) rfl dX10_count_103 ?_
    refine lv_iload_n hx hb dX10_count_106 rfl (lv_at hl 1 rfl) ?_
    refine lv_iconst (v := 1) hx hb dX10_count_107 (by decide) ?_
    refine lv_isub hx hb dX10_count_108 ?_
    refine nq_top (z := 0) (by decide) ?_
    refine nq_rdi (va_runV (As := [.int 0]) (rest := []) ⟨hx, hb, hml, hown, hts⟩ (c_countKind0 l G y s.heap.size nwt nwtk nwtv nwte nwtd (upd (fun _ => 0) 0 3) (pk_us)) (cwV 1 hts gX10_count_X9_countKind rfl rfl rfl (by decide +kernel) ⟨Nat.le_of_ble_eq_true rfl, Nat.le_of_ble_eq_true rfl⟩) (nq_PV hK hP hD [2, 3] rfl rfl 2 rfl rfl) rfl rfl hl.1 rfl (lv_room (Nat.le_of_ble_eq_true rfl)) dX10_count_109 ⟨Nat.le_of_ble_eq_true rfl, Nat.le_of_ble_eq_true rfl⟩) hP hS hA (fun r_3 H locs hw_4 hP hS => ?_)
    subst hw_4
    have hP9 := hP.sub (ws' := []) [] rfl
    have hD9 := hD.sub (ws' := []) [] (by decide) rfl
    refine vx_ret ?_
    refine W.widen (k := 1) (n := 6) (Nat.le_of_ble_eq_true rfl) (Nat.le_of_ble_eq_true rfl) ?_
    exact W.iret (v := 0) hx hb hr (fun t ht hW => ⟨⟨0, (), rfl, ⟨by decide, by decide⟩, by rw [ht]; exact hP9, by first | exact hD9 | (rw [hAe]; exact hD9)⟩, hS.F ht⟩) hS.2.2 dX10_count_112
  by_cases c_5 : i = 2
  · subst c_5
    refine lv_tableIn (tgt := 99) hx hb dX10_count_1 (by decide) (by decide) (by rfl) (by decide) ?_
    refine lv_aload_n hx hb dX10_count_99 rfl (lv_at hl 0 rfl) ?_
    refine va_get (D := G) (ci := 10) (v := .ref nw) (C := RX10) (T := TX10) (N := 18) hx hb hts inX10 hown hK.1 hP 0 rfl rfl 9 (by decide) (hts (.fieldLink RX10 63 "NestQuery" "now" "LNestQuery$State;") (by decide +kernel)) (fun _ h9 => h9) rfl dX10_count_100 ?_
    refine va_getN (D := G) (ci := 6) (v := .ref nwt) (C := RX6) (T := TX6) (N := 7) hx hb hts inX6 hown hK.1 hP 1 rfl rfl 0 (by decide) (nl_13 hK) (fun _ h9 => h9) rfl dX10_count_103 ?_
    refine lv_iload_n hx hb dX10_count_106 rfl (lv_at hl 1 rfl) ?_
    refine lv_iconst (v := 1) hx hb dX10_count_107 (by decide) ?_
    refine lv_isub hx hb dX10_count_108 ?_
    refine nq_top (z := 1) (by decide) ?_
    refine nq_rdi (va_runV (As := [.int 1]) (rest := []) ⟨hx, hb, hml, hown, hts⟩ (c_countKind1 l G y s.heap.size nwt nwtk nwtv nwte nwtd (upd (fun _ => 0) 0 3) (pk_us)) (cwV 1 hts gX10_count_X9_countKind rfl rfl rfl (by decide +kernel) ⟨Nat.le_of_ble_eq_true rfl, Nat.le_of_ble_eq_true rfl⟩) (nq_PV hK hP hD [2, 3] rfl rfl 2 rfl rfl) rfl rfl hl.1 rfl (lv_room (Nat.le_of_ble_eq_true rfl)) dX10_count_109 ⟨Nat.le_of_ble_eq_true rfl, Nat.le_of_ble_eq_true rfl⟩) hP hS hA (fun r_6 H locs hw_7 hP hS => ?_)
    subst hw_7
    have hP9 := hP.sub (ws' := []) [] rfl
    have hD9 := hD.sub (ws' := []) [] (by decide) rfl
    refine vx_ret ?_
    refine W.widen (k := 1) (n := 6) (Nat.le_of_ble_eq_true rfl) (Nat.le_of_ble_eq_true rfl) ?_
    exact W.iret (v := 0) hx hb hr (fun t ht hW => ⟨⟨0, (), rfl, ⟨by decide, by decide⟩, by rw [ht]; exact hP9, by first | exact hD9 | (rw [hAe]; exact hD9)⟩, hS.F ht⟩) hS.2.2 dX10_count_112
  by_cases c_8 : i = 3
  · subst c_8
    refine lv_tableIn (tgt := 99) hx hb dX10_count_1 (by decide) (by decide) (by rfl) (by decide) ?_
    refine lv_aload_n hx hb dX10_count_99 rfl (lv_at hl 0 rfl) ?_
    refine va_get (D := G) (ci := 10) (v := .ref nw) (C := RX10) (T := TX10) (N := 18) hx hb hts inX10 hown hK.1 hP 0 rfl rfl 9 (by decide) (hts (.fieldLink RX10 63 "NestQuery" "now" "LNestQuery$State;") (by decide +kernel)) (fun _ h9 => h9) rfl dX10_count_100 ?_
    refine va_getN (D := G) (ci := 6) (v := .ref nwt) (C := RX6) (T := TX6) (N := 7) hx hb hts inX6 hown hK.1 hP 1 rfl rfl 0 (by decide) (nl_13 hK) (fun _ h9 => h9) rfl dX10_count_103 ?_
    refine lv_iload_n hx hb dX10_count_106 rfl (lv_at hl 1 rfl) ?_
    refine lv_iconst (v := 1) hx hb dX10_count_107 (by decide) ?_
    refine lv_isub hx hb dX10_count_108 ?_
    refine nq_top (z := 2) (by decide) ?_
    refine nq_rdi (va_runV (As := [.int 2]) (rest := []) ⟨hx, hb, hml, hown, hts⟩ (c_countKind2 l G y s.heap.size nwt nwtk nwtv nwte nwtd (upd (fun _ => 0) 0 3) (pk_us)) (cwV 1 hts gX10_count_X9_countKind rfl rfl rfl (by decide +kernel) ⟨Nat.le_of_ble_eq_true rfl, Nat.le_of_ble_eq_true rfl⟩) (nq_PV hK hP hD [2, 3] rfl rfl 2 rfl rfl) rfl rfl hl.1 rfl (lv_room (Nat.le_of_ble_eq_true rfl)) dX10_count_109 ⟨Nat.le_of_ble_eq_true rfl, Nat.le_of_ble_eq_true rfl⟩) hP hS hA (fun r_9 H locs hw_10 hP hS => ?_)
    subst hw_10
    have hP9 := hP.sub (ws' := []) [] rfl
    have hD9 := hD.sub (ws' := []) [] (by decide) rfl
    refine vx_ret ?_
    refine W.widen (k := 1) (n := 6) (Nat.le_of_ble_eq_true rfl) (Nat.le_of_ble_eq_true rfl) ?_
    exact W.iret (v := 0) hx hb hr (fun t ht hW => ⟨⟨0, (), rfl, ⟨by decide, by decide⟩, by rw [ht]; exact hP9, by first | exact hD9 | (rw [hAe]; exact hD9)⟩, hS.F ht⟩) hS.2.2 dX10_count_112
  by_cases c_11 : i = 4
  · subst c_11
    refine lv_tableIn (tgt := 99) hx hb dX10_count_1 (by decide) (by decide) (by rfl) (by decide) ?_
    refine lv_aload_n hx hb dX10_count_99 rfl (lv_at hl 0 rfl) ?_
    refine va_get (D := G) (ci := 10) (v := .ref nw) (C := RX10) (T := TX10) (N := 18) hx hb hts inX10 hown hK.1 hP 0 rfl rfl 9 (by decide) (hts (.fieldLink RX10 63 "NestQuery" "now" "LNestQuery$State;") (by decide +kernel)) (fun _ h9 => h9) rfl dX10_count_100 ?_
    refine va_getN (D := G) (ci := 6) (v := .ref nwt) (C := RX6) (T := TX6) (N := 7) hx hb hts inX6 hown hK.1 hP 1 rfl rfl 0 (by decide) (nl_13 hK) (fun _ h9 => h9) rfl dX10_count_103 ?_
    refine lv_iload_n hx hb dX10_count_106 rfl (lv_at hl 1 rfl) ?_
    refine lv_iconst (v := 1) hx hb dX10_count_107 (by decide) ?_
    refine lv_isub hx hb dX10_count_108 ?_
    refine nq_top (z := 3) (by decide) ?_
    refine nq_rdi (va_runV (As := [.int 3]) (rest := []) ⟨hx, hb, hml, hown, hts⟩ (c_countKind3 l G y s.heap.size nwt nwtk nwtv nwte nwtd (upd (fun _ => 0) 0 3) (pk_us)) (cwV 1 hts gX10_count_X9_countKind rfl rfl rfl (by decide +kernel) ⟨Nat.le_of_ble_eq_true rfl, Nat.le_of_ble_eq_true rfl⟩) (nq_PV hK hP hD [2, 3] rfl rfl 2 rfl rfl) rfl rfl hl.1 rfl (lv_room (Nat.le_of_ble_eq_true rfl)) dX10_count_109 ⟨Nat.le_of_ble_eq_true rfl, Nat.le_of_ble_eq_true rfl⟩) hP hS hA (fun r_12 H locs hw_13 hP hS => ?_)
    subst hw_13
    have hP9 := hP.sub (ws' := []) [] rfl
    have hD9 := hD.sub (ws' := []) [] (by decide) rfl
    refine vx_ret ?_
    refine W.widen (k := 1) (n := 6) (Nat.le_of_ble_eq_true rfl) (Nat.le_of_ble_eq_true rfl) ?_
    exact W.iret (v := 1) hx hb hr (fun t ht hW => ⟨⟨1, (), rfl, ⟨by decide, by decide⟩, by rw [ht]; exact hP9, by first | exact hD9 | (rw [hAe]; exact hD9)⟩, hS.F ht⟩) hS.2.2 dX10_count_112
  by_cases c_14 : i = 5
  · subst c_14
    refine lv_tableIn (tgt := 113) hx hb dX10_count_1 (by decide) (by decide) (by rfl) (by decide) ?_
    refine lv_aload_n hx hb dX10_count_113 rfl (lv_at hl 0 rfl) ?_
    refine va_get (D := G) (ci := 10) (v := .ref nw) (C := RX10) (T := TX10) (N := 18) hx hb hts inX10 hown hK.1 hP 0 rfl rfl 9 (by decide) (hts (.fieldLink RX10 63 "NestQuery" "now" "LNestQuery$State;") (by decide +kernel)) (fun _ h9 => h9) rfl dX10_count_114 ?_
    refine va_getN (D := G) (ci := 6) (v := .ref nwt) (C := RX6) (T := TX6) (N := 7) hx hb hts inX6 hown hK.1 hP 1 rfl rfl 0 (by decide) (nl_13 hK) (fun _ h9 => h9) rfl dX10_count_117 ?_
    refine nq_rdi (va_runV (As := []) (rest := []) ⟨hx, hb, hml, hown, hts⟩ (c_deepest l G y s.heap.size nwt nwtk nwtv nwte nwtd (upd (fun _ => 0) 0 0) (pk_us)) (cwV 0 hts gX10_count_X9_deepest rfl rfl rfl (by decide +kernel) ⟨Nat.le_of_ble_eq_true rfl, Nat.le_of_ble_eq_true rfl⟩) (nq_PV hK hP hD [2, 4] rfl rfl 2 rfl rfl) rfl rfl hl.1 rfl (lv_room (Nat.le_of_ble_eq_true rfl)) dX10_count_120 ⟨Nat.le_of_ble_eq_true rfl, Nat.le_of_ble_eq_true rfl⟩) hP hS hA (fun r_15 H locs hw_16 hP hS => ?_)
    subst hw_16
    have hP9 := hP.sub (ws' := []) [] rfl
    have hD9 := hD.sub (ws' := []) [] (by decide) rfl
    refine vx_ret ?_
    refine W.widen (k := 1) (n := 6) (Nat.le_of_ble_eq_true rfl) (Nat.le_of_ble_eq_true rfl) ?_
    exact W.iret (v := 0) hx hb hr (fun t ht hW => ⟨⟨0, (), rfl, ⟨by decide, by decide⟩, by rw [ht]; exact hP9, by first | exact hD9 | (rw [hAe]; exact hD9)⟩, hS.F ht⟩) hS.2.2 dX10_count_123
  by_cases c_17 : i = 6
  · subst c_17
    refine lv_tableIn (tgt := 124) hx hb dX10_count_1 (by decide) (by decide) (by rfl) (by decide) ?_
    refine lv_aload_n hx hb dX10_count_124 rfl (lv_at hl 0 rfl) ?_
    refine nq_rdi (va_runV (As := []) (rest := []) ⟨hx, hb, hml, hown, hts⟩ (c_pathsThere l G y s.heap.size h0 tp ps sp tk dr pr da nw im ac ke si tx an dw ) (cwV 0 hts gX10_count_X10_pathsThere rfl rfl rfl (by decide +kernel) ⟨Nat.le_of_ble_eq_true rfl, Nat.le_of_ble_eq_true rfl⟩) (nq_PV hK hP hD [0, 5] rfl rfl 0 rfl rfl) rfl rfl hl.1 rfl (lv_room (Nat.le_of_ble_eq_true rfl)) dX10_count_125 ⟨Nat.le_of_ble_eq_true rfl, Nat.le_of_ble_eq_true rfl⟩) hP hS hA (fun r_18 H locs hw_19 hP hS => ?_)
    subst hw_19
    have hP9 := hP.sub (ws' := []) [] rfl
    have hD9 := hD.sub (ws' := []) [] (by decide) rfl
    refine vx_ret ?_
    refine W.widen (k := 1) (n := 6) (Nat.le_of_ble_eq_true rfl) (Nat.le_of_ble_eq_true rfl) ?_
    exact W.iret (v := 0) hx hb hr (fun t ht hW => ⟨⟨0, (), rfl, ⟨by decide, by decide⟩, by rw [ht]; exact hP9, by first | exact hD9 | (rw [hAe]; exact hD9)⟩, hS.F ht⟩) hS.2.2 dX10_count_128
  by_cases c_20 : i = 7
  · subst c_20
    refine lv_tableIn (tgt := 129) hx hb dX10_count_1 (by decide) (by decide) (by rfl) (by decide) ?_
    refine lv_aload_n hx hb dX10_count_129 rfl (lv_at hl 0 rfl) ?_
    refine va_get (D := G) (ci := 10) (v := .ref nw) (C := RX10) (T := TX10) (N := 18) hx hb hts inX10 hown hK.1 hP 0 rfl rfl 9 (by decide) (hts (.fieldLink RX10 63 "NestQuery" "now" "LNestQuery$State;") (by decide +kernel)) (fun _ h9 => h9) rfl dX10_count_130 ?_
    refine va_getN (D := G) (ci := 6) (v := .ref nwt) (C := RX6) (T := TX6) (N := 7) hx hb hts inX6 hown hK.1 hP 1 rfl rfl 0 (by decide) (nl_13 hK) (fun _ h9 => h9) rfl dX10_count_133 ?_
    refine nq_rdi (va_runV (As := []) (rest := []) ⟨hx, hb, hml, hown, hts⟩ (c_unlike l G y s.heap.size nwt nwtk nwtv nwte nwtd ) (cwV 0 hts gX10_count_X9_unlike rfl rfl rfl (by decide +kernel) ⟨Nat.le_of_ble_eq_true rfl, Nat.le_of_ble_eq_true rfl⟩) (nq_PV hK hP hD [2] rfl rfl 2 rfl rfl) rfl rfl hl.1 rfl (lv_room (Nat.le_of_ble_eq_true rfl)) dX10_count_136 ⟨Nat.le_of_ble_eq_true rfl, Nat.le_of_ble_eq_true rfl⟩) hP hS hA (fun r_21 H locs hw_22 hP hS => ?_)
    subst hw_22
    have hP9 := hP.sub (ws' := []) [] rfl
    have hD9 := hD.sub (ws' := []) [] (by decide) rfl
    refine vx_ret ?_
    refine W.widen (k := 1) (n := 6) (Nat.le_of_ble_eq_true rfl) (Nat.le_of_ble_eq_true rfl) ?_
    exact W.iret (v := 1) hx hb hr (fun t ht hW => ⟨⟨1, (), rfl, ⟨by decide, by decide⟩, by rw [ht]; exact hP9, by first | exact hD9 | (rw [hAe]; exact hD9)⟩, hS.F ht⟩) hS.2.2 dX10_count_139
  by_cases c_23 : i = 8
  · subst c_23
    refine lv_tableIn (tgt := 140) hx hb dX10_count_1 (by decide) (by decide) (by rfl) (by decide) ?_
    refine lv_aload_n hx hb dX10_count_140 rfl (lv_at hl 0 rfl) ?_
    refine va_get (D := G) (ci := 10) (v := .ref ke) (C := RX10) (T := TX10) (N := 18) hx hb hts inX10 hown hK.1 hP 0 rfl rfl 13 (by decide) (hts (.fieldLink RX10 82 "NestQuery" "kept" "LNestQuery$Patch;") (by decide +kernel)) (fun _ h9 => h9) rfl dX10_count_141 ?_
    refine va_getN (D := G) (ci := 3) (v := .int 0) (C := RX3) (T := TX3) (N := 5) hx hb hts inX3 hown hK.1 hP 7 rfl rfl 4 (by decide) (nl_17 hK) (fun _ h9 => h9) rfl dX10_count_144 ?_
    have hP9 := hP.sub (ws' := []) [] rfl
    have hD9 := hD.sub (ws' := []) [] (by decide) rfl
    refine vx_ret ?_
    refine W.widen (k := 1) (n := 6) (Nat.le_of_ble_eq_true rfl) (Nat.le_of_ble_eq_true rfl) ?_
    exact W.iret (v := 0) hx hb hr (fun t ht hW => ⟨⟨0, (), rfl, ⟨by decide, by decide⟩, by rw [ht]; exact hP9, by first | exact hD9 | (rw [hAe]; exact hD9)⟩, hS.F ht⟩) hS.2.2 dX10_count_147
  by_cases c_24 : i = 9
  · subst c_24
    refine lv_tableIn (tgt := 148) hx hb dX10_count_1 (by decide) (by decide) (by rfl) (by decide) ?_
    refine lv_aload_n hx hb dX10_count_148 rfl (lv_at hl 0 rfl) ?_
    refine va_get (D := G) (ci := 10) (v := .int 0) (C := RX10) (T := TX10) (N := 18) hx hb hts inX10 hown hK.1 hP 0 rfl rfl 11 (by decide) (hts (.fieldLink RX10 145 "NestQuery" "imageThere" "Z") (by decide +kernel)) (fun _ h9 => h9) rfl dX10_count_149 ?_
    refine lv_if_eq (tgt := 179) hx hb dX10_count_152 (by decide) (fun _ => ?_) (fun c_25 => absurd c_25 (by decide))
    refine lv_iconst (v := (-1)) hx hb dX10_count_179 (by decide) ?_
    have hP9 := hP.sub (ws' := []) [] rfl
    have hD9 := hD.sub (ws' := []) [] (by decide) rfl
    refine vx_ret ?_
    refine W.widen (k := 1) (n := 6) (Nat.le_of_ble_eq_true rfl) (Nat.le_of_ble_eq_true rfl) ?_
    exact W.iret (v := (-1)) hx hb hr (fun t ht hW => ⟨⟨(-1), (), rfl, ⟨by decide, by decide⟩, by rw [ht]; exact hP9, by first | exact hD9 | (rw [hAe]; exact hD9)⟩, hS.F ht⟩) hS.2.2 dX10_count_180
  by_cases c_26 : i = 10
  · subst c_26
    refine lv_tableIn (tgt := 181) hx hb dX10_count_1 (by decide) (by decide) (by rfl) (by decide) ?_
    refine lv_aload_n hx hb dX10_count_181 rfl (lv_at hl 0 rfl) ?_
    refine va_get (D := G) (ci := 10) (v := .ref nw) (C := RX10) (T := TX10) (N := 18) hx hb hts inX10 hown hK.1 hP 0 rfl rfl 9 (by decide) (hts (.fieldLink RX10 63 "NestQuery" "now" "LNestQuery$State;") (by decide +kernel)) (fun _ h9 => h9) rfl dX10_count_182 ?_
    refine va_getN (D := G) (ci := 6) (v := .int 0) (C := RX6) (T := TX6) (N := 7) hx hb hts inX6 hown hK.1 hP 1 rfl rfl 2 (by decide) (nl_15 hK) (fun _ h9 => h9) rfl dX10_count_185 ?_
    have hP9 := hP.sub (ws' := []) [] rfl
    have hD9 := hD.sub (ws' := []) [] (by decide) rfl
    refine vx_ret ?_
    refine W.widen (k := 1) (n := 6) (Nat.le_of_ble_eq_true rfl) (Nat.le_of_ble_eq_true rfl) ?_
    exact W.iret (v := 0) hx hb hr (fun t ht hW => ⟨⟨0, (), rfl, ⟨by decide, by decide⟩, by rw [ht]; exact hP9, by first | exact hD9 | (rw [hAe]; exact hD9)⟩, hS.F ht⟩) hS.2.2 dX10_count_188
  by_cases c_27 : i = 11
  · subst c_27
    refine lv_tableIn (tgt := 189) hx hb dX10_count_1 (by decide) (by decide) (by rfl) (by decide) ?_
    refine lv_aload_n hx hb dX10_count_189 rfl (lv_at hl 0 rfl) ?_
    refine va_get (D := G) (ci := 10) (v := .ref nw) (C := RX10) (T := TX10) (N := 18) hx hb hts inX10 hown hK.1 hP 0 rfl rfl 9 (by decide) (hts (.fieldLink RX10 63 "NestQuery" "now" "LNestQuery$State;") (by decide +kernel)) (fun _ h9 => h9) rfl dX10_count_190 ?_
    refine va_getN (D := G) (ci := 6) (v := .int 0) (C := RX6) (T := TX6) (N := 7) hx hb hts inX6 hown hK.1 hP 1 rfl rfl 5 (by decide) (nl_16 hK) (fun _ h9 => h9) rfl dX10_count_193 ?_
    have hP9 := hP.sub (ws' := []) [] rfl
    have hD9 := hD.sub (ws' := []) [] (by decide) rfl
    refine vx_ret ?_
    refine W.widen (k := 1) (n := 6) (Nat.le_of_ble_eq_true rfl) (Nat.le_of_ble_eq_true rfl) ?_
    exact W.iret (v := 0) hx hb hr (fun t ht hW => ⟨⟨0, (), rfl, ⟨by decide, by decide⟩, by rw [ht]; exact hP9, by first | exact hD9 | (rw [hAe]; exact hD9)⟩, hS.F ht⟩) hS.2.2 dX10_count_196
  by_cases c_28 : i = 12
  · subst c_28
    refine lv_tableIn (tgt := 197) hx hb dX10_count_1 (by decide) (by decide) (by rfl) (by decide) ?_
    refine lv_aload_n hx hb dX10_count_197 rfl (lv_at hl 0 rfl) ?_
    refine va_get (D := G) (ci := 10) (v := .int 0) (C := RX10) (T := TX10) (N := 18) hx hb hts inX10 hown hK.1 hP 0 rfl rfl 1 (by decide) (hts (.fieldLink RX10 114 "NestQuery" "tapeCount" "I") (by decide +kernel)) (fun _ h9 => h9) rfl dX10_count_198 ?_
    have hP9 := hP.sub (ws' := []) [] rfl
    have hD9 := hD.sub (ws' := []) [] (by decide) rfl
    refine vx_ret ?_
    refine W.widen (k := 1) (n := 6) (Nat.le_of_ble_eq_true rfl) (Nat.le_of_ble_eq_true rfl) ?_
    exact W.iret (v := 0) hx hb hr (fun t ht hW => ⟨⟨0, (), rfl, ⟨by decide, by decide⟩, by rw [ht]; exact hP9, by first | exact hD9 | (rw [hAe]; exact hD9)⟩, hS.F ht⟩) hS.2.2 dX10_count_201
  by_cases c_29 : i = 13
  · subst c_29
    refine lv_tableIn (tgt := 202) hx hb dX10_count_1 (by decide) (by decide) (by rfl) (by decide) ?_
    refine lv_aload_n hx hb dX10_count_202 rfl (lv_at hl 0 rfl) ?_
    refine va_get (D := G) (ci := 10) (v := .ref nw) (C := RX10) (T := TX10) (N := 18) hx hb hts inX10 hown hK.1 hP 0 rfl rfl 9 (by decide) (hts (.fieldLink RX10 63 "NestQuery" "now" "LNestQuery$State;") (by decide +kernel)) (fun _ h9 => h9) rfl dX10_count_203 ?_
    refine lv_iload_n hx hb dX10_count_206 rfl (lv_at hl 1 rfl) ?_
    refine lv_bipush (v := 13) hx hb dX10_count_207 (by decide) ?_
    refine lv_isub hx hb dX10_count_209 ?_
    refine nq_top (z := 0) (by decide) ?_
    refine nq_rdi (va_runV (As := [.int 0]) (rest := []) ⟨hx, hb, hml, hown, hts⟩ (c_refusedOf0 l G y s.heap.size nw nwt nwb nwn nwi nwr ) (cwV 1 hts gX10_count_X6_refusedOf rfl rfl rfl (by decide +kernel) ⟨Nat.le_of_ble_eq_true rfl, Nat.le_of_ble_eq_true rfl⟩) (nq_PV hK hP hD [1, 8] rfl rfl 1 rfl rfl) rfl rfl hl.1 rfl (lv_room (Nat.le_of_ble_eq_true rfl)) dX10_count_210 ⟨Nat.le_of_ble_eq_true rfl, Nat.le_of_ble_eq_true rfl⟩) hP hS hA (fun r_30 H locs hw_31 hP hS => ?_)
    subst hw_31
    have hP9 := hP.sub (ws' := []) [] rfl
    have hD9 := hD.sub (ws' := []) [] (by decide) rfl
    refine vx_ret ?_
    refine W.widen (k := 1) (n := 6) (Nat.le_of_ble_eq_true rfl) (Nat.le_of_ble_eq_true rfl) ?_
    exact W.iret (v := 0) hx hb hr (fun t ht hW => ⟨⟨0, (), rfl, ⟨by decide, by decide⟩, by rw [ht]; exact hP9, by first | exact hD9 | (rw [hAe]; exact hD9)⟩, hS.F ht⟩) hS.2.2 dX10_count_213
  by_cases c_32 : i = 14
  · subst c_32
    refine lv_tableIn (tgt := 202) hx hb dX10_count_1 (by decide) (by decide) (by rfl) (by decide) ?_
    refine lv_aload_n hx hb dX10_count_202 rfl (lv_at hl 0 rfl) ?_
    refine va_get (D := G) (ci := 10) (v := .ref nw) (C := RX10) (T := TX10) (N := 18) hx hb hts inX10 hown hK.1 hP 0 rfl rfl 9 (by decide) (hts (.fieldLink RX10 63 "NestQuery" "now" "LNestQuery$State;") (by decide +kernel)) (fun _ h9 => h9) rfl dX10_count_203 ?_
    refine lv_iload_n hx hb dX10_count_206 rfl (lv_at hl 1 rfl) ?_
    refine lv_bipush (v := 13) hx hb dX10_count_207 (by decide) ?_
    refine lv_isub hx hb dX10_count_209 ?_
    refine nq_top (z := 1) (by decide) ?_
    refine nq_rdi (va_runV (As := [.int 1]) (rest := []) ⟨hx, hb, hml, hown, hts⟩ (c_refusedOf1 l G y s.heap.size nw nwt nwb nwn nwi nwr ) (cwV 1 hts gX10_count_X6_refusedOf rfl rfl rfl (by decide +kernel) ⟨Nat.le_of_ble_eq_true rfl, Nat.le_of_ble_eq_true rfl⟩) (nq_PV hK hP hD [1, 8] rfl rfl 1 rfl rfl) rfl rfl hl.1 rfl (lv_room (Nat.le_of_ble_eq_true rfl)) dX10_count_210 ⟨Nat.le_of_ble_eq_true rfl, Nat.le_of_ble_eq_true rfl⟩) hP hS hA (fun r_33 H locs hw_34 hP hS => ?_)
    subst hw_34
    have hP9 := hP.sub (ws' := []) [] rfl
    have hD9 := hD.sub (ws' := []) [] (by decide) rfl
    refine vx_ret ?_
    refine W.widen (k := 1) (n := 6) (Nat.le_of_ble_eq_true rfl) (Nat.le_of_ble_eq_true rfl) ?_
    exact W.iret (v := 0) hx hb hr (fun t ht hW => ⟨⟨0, (), rfl, ⟨by decide, by decide⟩, by rw [ht]; exact hP9, by first | exact hD9 | (rw [hAe]; exact hD9)⟩, hS.F ht⟩) hS.2.2 dX10_count_213
  by_cases c_35 : i = 15
  · subst c_35
    refine lv_tableIn (tgt := 202) hx hb dX10_count_1 (by decide) (by decide) (by rfl) (by decide) ?_
    refine lv_aload_n hx hb dX10_count_202 rfl (lv_at hl 0 rfl) ?_
    refine va_get (D := G) (ci := 10) (v := .ref nw) (C := RX10) (T := TX10) (N := 18) hx hb hts inX10 hown hK.1 hP 0 rfl rfl 9 (by decide) (hts (.fieldLink RX10 63 "NestQuery" "now" "LNestQuery$State;") (by decide +kernel)) (fun _ h9 => h9) rfl dX10_count_203 ?_
    refine lv_iload_n hx hb dX10_count_206 rfl (lv_at hl 1 rfl) ?_
    refine lv_bipush (v := 13) hx hb dX10_count_207 (by decide) ?_
    refine lv_isub hx hb dX10_count_209 ?_
    refine nq_top (z := 2) (by decide) ?_
    refine nq_rdi (va_runV (As := [.int 2]) (rest := []) ⟨hx, hb, hml, hown, hts⟩ (c_refusedOf2 l G y s.heap.size nw nwt nwb nwn nwi nwr ) (cwV 1 hts gX10_count_X6_refusedOf rfl rfl rfl (by decide +kernel) ⟨Nat.le_of_ble_eq_true rfl, Nat.le_of_ble_eq_true rfl⟩) (nq_PV hK hP hD [1, 8] rfl rfl 1 rfl rfl) rfl rfl hl.1 rfl (lv_room (Nat.le_of_ble_eq_true rfl)) dX10_count_210 ⟨Nat.le_of_ble_eq_true rfl, Nat.le_of_ble_eq_true rfl⟩) hP hS hA (fun r_36 H locs hw_37 hP hS => ?_)
    subst hw_37
    have hP9 := hP.sub (ws' := []) [] rfl
    have hD9 := hD.sub (ws' := []) [] (by decide) rfl
    refine vx_ret ?_
    refine W.widen (k := 1) (n := 6) (Nat.le_of_ble_eq_true rfl) (Nat.le_of_ble_eq_true rfl) ?_
    exact W.iret (v := 0) hx hb hr (fun t ht hW => ⟨⟨0, (), rfl, ⟨by decide, by decide⟩, by rw [ht]; exact hP9, by first | exact hD9 | (rw [hAe]; exact hD9)⟩, hS.F ht⟩) hS.2.2 dX10_count_213
  by_cases c_38 : i = 16
  · subst c_38
    refine lv_tableIn (tgt := 214) hx hb dX10_count_1 (by decide) (by decide) (by rfl) (by decide) ?_
    refine lv_aload_n hx hb dX10_count_214 rfl (lv_at hl 0 rfl) ?_
    refine va_get (D := G) (ci := 10) (v := .ref nw) (C := RX10) (T := TX10) (N := 18) hx hb hts inX10 hown hK.1 hP 0 rfl rfl 9 (by decide) (hts (.fieldLink RX10 63 "NestQuery" "now" "LNestQuery$State;") (by decide +kernel)) (fun _ h9 => h9) rfl dX10_count_215 ?_
    refine va_getN (D := G) (ci := 6) (v := .ref nwt) (C := RX6) (T := TX6) (N := 7) hx hb hts inX6 hown hK.1 hP 1 rfl rfl 0 (by decide) (nl_13 hK) (fun _ h9 => h9) rfl dX10_count_218 ?_
    refine nq_rdi (va_runV (As := []) (rest := []) ⟨hx, hb, hml, hown, hts⟩ (c_sum l G y s.heap.size nwt nwtk nwtv nwte nwtd (upd (fun _ => 0) 0 3) (pk_us)) (cwV 0 hts gX10_count_X9_sum rfl rfl rfl (by decide +kernel) ⟨Nat.le_of_ble_eq_true rfl, Nat.le_of_ble_eq_true rfl⟩) (nq_PV hK hP hD [2, 3] rfl rfl 2 rfl rfl) rfl rfl hl.1 rfl (lv_room (Nat.le_of_ble_eq_true rfl)) dX10_count_221 ⟨Nat.le_of_ble_eq_true rfl, Nat.le_of_ble_eq_true rfl⟩) hP hS hA (fun r_39 H locs hw_40 hP hS => ?_)
    subst hw_40
    have hP9 := hP.sub (ws' := []) [] rfl
    have hD9 := hD.sub (ws' := []) [] (by decide) rfl
    refine vx_ret ?_
    refine W.widen (k := 1) (n := 6) (Nat.le_of_ble_eq_true rfl) (Nat.le_of_ble_eq_true rfl) ?_
    exact W.iret (v := 0) hx hb hr (fun t ht hW => ⟨⟨0, (), rfl, ⟨by decide, by decide⟩, by rw [ht]; exact hP9, by first | exact hD9 | (rw [hAe]; exact hD9)⟩, hS.F ht⟩) hS.2.2 dX10_count_224
  by_cases c_41 : i = 17
  · subst c_41
    refine lv_tableIn (tgt := 225) hx hb dX10_count_1 (by decide) (by decide) (by rfl) (by decide) ?_
    refine lv_aload_n hx hb dX10_count_225 rfl (lv_at hl 0 rfl) ?_
    refine nq_wri (wr := [(nw, .inr (6, [.ref nwt, .ref nwb, .int 0, .ref nwn, .ref nwi, .int 0, .ref nwr])), (nwt, .inr (9, [.ref nwtk, .ref nwtv, .ref nwte, .ref nwtd, .int 1])), (nwtk, .inl (y 0, 60, .inl (upd (fun _ => 0) 0 3))), (nwtd, .inl (y 0, 60, .inl (upd (fun _ => 0) 0 0))), (ke, .inr (3, [.ref ke1, .ref ke2, .ref ke3, .ref ke4, .int 0])), (nwr, .inl (y 0, 3, .inl (fun _ => 0)))]) (va_runV (As := []) (rest := []) ⟨hx, hb, hml, hown, hts⟩ (c_pathsThatFit l G y s.heap.size h0 tp ps sp tk dr pr da nw im ac ke si tx an dw ) (cwV 0 hts gX10_count_X10_pathsThatFit rfl rfl rfl (by decide +kernel) ⟨Nat.le_of_ble_eq_true rfl, Nat.le_of_ble_eq_true rfl⟩) (nq_PV hK hP hD [0, 5, 6] rfl rfl 0 rfl rfl) rfl rfl hl.1 rfl (lv_room (Nat.le_of_ble_eq_true rfl)) dX10_count_226 ⟨Nat.le_of_ble_eq_true rfl, Nat.le_of_ble_eq_true rfl⟩) hP hD hS hA [0, 5, 6] [1, 2, 3, 4, 7, 8] rfl rfl (by decide) (by decide) (fun r_44 u_42 H locs hw_43 hP hD hS => ?_)
    have hP : va_P G vwCl [(nw, .inr (6, [.ref nwt, .ref nwb, .int 0, .ref nwn, .ref nwi, .int 0, .ref nwr])), (nwt, .inr (9, [.ref nwtk, .ref nwtv, .ref nwte, .ref nwtd, .int 1])), (nwtk, .inl (y 0, 60, .inl (upd (fun _ => 0) 0 3))), (nwtd, .inl (y 0, 60, .inl (upd (fun _ => 0) 0 0))), (ke, .inr (3, [.ref ke1, .ref ke2, .ref ke3, .ref ke4, .int 0])), (nwr, .inl (y 0, 3, .inl (fun _ => 0))), (h0, .inr (10, [.ref tp, .int 0, .int (-1), .ref ps, .ref sp, .ref tk, .ref dr, .ref pr, .ref da, .ref nw, .ref im, .int 0, .ref ac, .ref ke, .ref si, .ref tx, .ref an, .ref dw])), (ps, .inl (y 3, 4, .inr (.inr (.inr (.inr (fun _ => none)))))), (an, .inl (y 1, 4, .inr (.inl (vp_updL (vp_updL (vp_updL (vp_updL (fun _ => 0) 0 0) 1 0) 2 0) 3 0))))] H := hP
    have hD : va_D A [(nw, .inr (6, [.ref nwt, .ref nwb, .int 0, .ref nwn, .ref nwi, .int 0, .ref nwr])), (nwt, .inr (9, [.ref nwtk, .ref nwtv, .ref nwte, .ref nwtd, .int 1])), (nwtk, .inl (y 0, 60, .inl (upd (fun _ => 0) 0 3))), (nwtd, .inl (y 0, 60, .inl (upd (fun _ => 0) 0 0))), (ke, .inr (3, [.ref ke1, .ref ke2, .ref ke3, .ref ke4, .int 0])), (nwr, .inl (y 0, 3, .inl (fun _ => 0))), (h0, .inr (10, [.ref tp, .int 0, .int (-1), .ref ps, .ref sp, .ref tk, .ref dr, .ref pr, .ref da, .ref nw, .ref im, .int 0, .ref ac, .ref ke, .ref si, .ref tx, .ref an, .ref dw])), (ps, .inl (y 3, 4, .inr (.inr (.inr (.inr (fun _ => none)))))), (an, .inl (y 1, 4, .inr (.inl (vp_updL (vp_updL (vp_updL (vp_updL (fun _ => 0) 0 0) 1 0) 2 0) 3 0))))] := hD
    subst hw_43
    have hP9 := hP.sub (ws' := []) [] rfl
    have hD9 := hD.sub (ws' := []) [] (by decide) rfl
    refine vx_ret ?_
    refine W.widen (k := 1) (n := 6) (Nat.le_of_ble_eq_true rfl) (Nat.le_of_ble_eq_true rfl) ?_
    exact W.iret (v := 0) hx hb hr (fun t ht hW => ⟨⟨0, (), rfl, ⟨by decide, by decide⟩, by rw [ht]; exact hP9, by first | exact hD9 | (rw [hAe]; exact hD9)⟩, hS.F ht⟩) hS.2.2 dX10_count_229
  have hout : i.toInt < 0 ∨ 17 < i.toInt := by
    have c_1z := lv_neT c_1 (show (0 : Int32).toInt = 0 by decide)
    have c_2z := lv_neT c_2 (show (1 : Int32).toInt = 1 by decide)
    have c_5z := lv_neT c_5 (show (2 : Int32).toInt = 2 by decide)
    have c_8z := lv_neT c_8 (show (3 : Int32).toInt = 3 by decide)
    have c_11z := lv_neT c_11 (show (4 : Int32).toInt = 4 by decide)
    have c_14z := lv_neT c_14 (show (5 : Int32).toInt = 5 by decide)
    have c_17z := lv_neT c_17 (show (6 : Int32).toInt = 6 by decide)
    have c_20z := lv_neT c_20 (show (7 : Int32).toInt = 7 by decide)
    have c_23z := lv_neT c_23 (show (8 : Int32).toInt = 8 by decide)
    have c_24z := lv_neT c_24 (show (9 : Int32).toInt = 9 by decide)
    have c_26z := lv_neT c_26 (show (10 : Int32).toInt = 10 by decide)
    have c_27z := lv_neT c_27 (show (11 : Int32).toInt = 11 by decide)
    have c_28z := lv_neT c_28 (show (12 : Int32).toInt = 12 by decide)
    have c_29z := lv_neT c_29 (show (13 : Int32).toInt = 13 by decide)
    have c_32z := lv_neT c_32 (show (14 : Int32).toInt = 14 by decide)
    have c_35z := lv_neT c_35 (show (15 : Int32).toInt = 15 by decide)
    have c_38z := lv_neT c_38 (show (16 : Int32).toInt = 16 by decide)
    have c_41z := lv_neT c_41 (show (17 : Int32).toInt = 17 by decide)
    omega
  refine lv_tableOut (tgt := 230) hx hb dX10_count_1 hout (by decide) ?_
  exact nq_throwN (BX := fun E => E = nq_NSE ∧ (sp_count i).1 = 1) (text := "no such count") hx hb hl0 hown hts (by first | exact fun w h => List.mem_cons_of_mem _ (List.mem_append_right _ h) | exact fun w h => List.mem_cons_of_mem _ (List.mem_append_left _ (List.mem_append_right _ h)) | decide +kernel) (by decide +kernel) (by decide +kernel) hXs hS (hl.1.trans hml.symm) htab hlocks (List.mem_of_getElem? (i := 2) rfl) dX10_count_230 dX10_count_233 dX10_count_234 dX10_count_236 dX10_count_239 (Nat.le_of_ble_eq_true rfl) (Nat.le_of_ble_eq_true rfl) (Nat.le_of_ble_eq_true rfl) (Nat.le_of_ble_eq_true rfl) (⟨rfl, by simp [sp_count, c_1, c_2, c_5, c_8, c_11, c_14, c_17, c_20, c_23, c_24, c_26, c_27, c_28, c_29, c_32, c_35, c_38, c_41]⟩) (Nat.le_of_ble_eq_true rfl) (Nat.le_of_ble_eq_true rfl)
