set_option maxHeartbeats 400000 in
set_option maxRecDepth 100000 in
theorem w_alike (l : Launch) (hl0 : l.stackTraces = false) (G : va_G) (y : Nat → ClassId) (sz : Nat) (h0 : Nat) (tp : Nat) (ps : Nat) (sp : Nat) (tk : Nat) (dr : Nat) (pr : Nat) (da : Nat) (nw : Nat) (im : Nat) (ac : Nat) (ke : Nat) (si : Nat) (tx : Nat) (an : Nat) (dw : Nat) (nwt : Nat) (nwb : Nat) (nwn : Nat) (nwi : Nat) (nwr : Nat) (nwtk : Nat) (nwtv : Nat) (nwte : Nat) (nwtd : Nat) (i : Int32) (j : Int32) (ou : Nat) : Met l yL_alike wsL_alike ({ frames := 8, cells := 2, slots := 12, locals := 143 }) (nq_PX G y sz [.ref h0, .int i, .int j, .ref ou] [(h0, .inr (10, [.ref tp, .int 0, .int (-1), .ref ps, .ref sp, .ref tk, .ref dr, .ref pr, .ref da, .ref nw, .ref im, .int 0, .ref ac, .ref ke, .ref si, .ref tx, .ref an, .ref dw])), (nw, .inr (6, [.ref nwt, .ref nwb, .int 0, .ref nwn, .ref nwi, .int 0, .ref nwr])), (nwt, .inr (9, [.ref nwtk, .ref nwtv, .ref nwte, .ref nwtd, .int 1])), (nwtk, .inl (y 0, 60, .inl (upd (fun _ => 0) 0 3))), (ou, .inl (y 1, 1, .inr (.inl (fun _ => 0))))]) (va_Qi (fun (r : Int32) (g9 : Nat → Int64) => r = (sp_alike i j).1 ∧ (r = 0 → g9 0 = (sp_alike i j).2.toInt64)) (fun (g9 : Nat → Int64) t9 => va_P G vwCl [(ou, .inl (y 1, 1, .inr (.inl g9)))] t9.heap ∧ va_D (va_A [(h0, .inr (10, [.ref tp, .int 0, .int (-1), .ref ps, .ref sp, .ref tk, .ref dr, .ref pr, .ref da, .ref nw, .ref im, .int 0, .ref ac, .ref ke, .ref si, .ref tx, .ref an, .ref dw])), (nw, .inr (6, [.ref nwt, .ref nwb, .int 0, .ref nwn, .ref nwi, .int 0, .ref nwr])), (nwt, .inr (9, [.ref nwtk, .ref nwtv, .ref nwte, .ref nwtd, .int 1])), (nwtk, .inl (y 0, 60, .inl (upd (fun _ => 0) 0 3))), (ou, .inl (y 1, 1, .inr (.inl (fun _ => 0))))] sz) [(ou, .inl (y 1, 1, .inr (.inl g9)))]) (va_A [(h0, .inr (10, [.ref tp, .int 0, .int (-1), .ref ps, .ref sp, .ref tk, .ref dr, .ref pr, .ref da, .ref nw, .ref im, .int 0, .ref ac, .ref ke, .ref si, .ref tx, .ref an, .ref dw])), (nw, .inr (6, [.ref nwt, .ref nwb, .int 0, .ref nwn, .ref nwi, .int 0, .ref nwr])), (nwt, .inr (9, [.ref nwtk, .ref nwtv, .ref nwte, .ref nwtd, .int 1])), (nwtk, .inl (y 0, 60, .inl (upd (fun _ => 0) 0 3))), (ou, .inl (y 1, 1, .inr (.inl (fun _ => 0))))] sz)) 2 12 (va_A [(h0, .inr (10, [.ref tp, .int 0, .int (-1), .ref ps, .ref sp, .ref tk, .ref dr, .ref pr, .ref da, .ref nw, .ref im, .int 0, .ref ac, .ref ke, .ref si, .ref tx, .ref an, .ref dw])), (nw, .inr (6, [.ref nwt, .ref nwb, .int 0, .ref nwn, .ref nwi, .int 0, .ref nwr])), (nwt, .inr (9, [.ref nwtk, .ref nwtv, .ref nwte, .ref nwtd, .int 1])), (nwtk, .inl (y 0, 60, .inl (upd (fun _ => 0) 0 3))), (ou, .inl (y 1, 1, .inr (.inl (fun _ => 0))))] sz) := by
  refine va_MetW (cc := cL_alike) (maxL := 5) (ret := (some .int)) (hh := [(0, 10, 13, 19)]) (by decide) rfl ?_
  intro p e s m args below meth c s₁ B hml hv
  obtain ⟨rfl, hsz, hP, hK, hD0, hXs⟩ := hv
  have hx := B.exec
  have hb := B.bytes
  have hr := B.returns
  have hts := atoms_spec (ws := wsL_alike) B.pre
  have hown : s.vm.findClass RL = some m.cls := findClass_of_methodNamed B.named
  have hlocks := B.notSynchronized
  have htb := vx_table (x := objectInit) (hh := [(0, 10, 13, 19)]) B (hts _ List.mem_cons_self)
  subst hsz
  have hD := hD0.self (sz := s.heap.size)
  generalize hAe : va_A [(h0, .inr (10, [.ref tp, .int 0, .int (-1), .ref ps, .ref sp, .ref tk, .ref dr, .ref pr, .ref da, .ref nw, .ref im, .int 0, .ref ac, .ref ke, .ref si, .ref tx, .ref an, .ref dw])), (nw, .inr (6, [.ref nwt, .ref nwb, .int 0, .ref nwn, .ref nwi, .int 0, .ref nwr])), (nwt, .inr (9, [.ref nwtk, .ref nwtv, .ref nwte, .ref nwtd, .int 1])), (nwtk, .inl (y 0, 60, .inl (upd (fun _ => 0) 0 3))), (ou, .inl (y 1, 1, .inr (.inl (fun _ => 0))))] s.heap.size = A at hD hXs ⊢
  have hA : ∀ q : Nat, s.heap.size ≤ q → A q := fun q h => by rw [← hAe]; exact Or.inr h
  have hS : va_S A s.heap s.heap [] := va_S.rf
  have hP : va_P G vwCl [(h0, .inr (10, [.ref tp, .int 0, .int (-1), .ref ps, .ref sp, .ref tk, .ref dr, .ref pr, .ref da, .ref nw, .ref im, .int 0, .ref ac, .ref ke, .ref si, .ref tx, .ref an, .ref dw])), (nw, .inr (6, [.ref nwt, .ref nwb, .int 0, .ref nwn, .ref nwi, .int 0, .ref nwr])), (nwt, .inr (9, [.ref nwtk, .ref nwtv, .ref nwte, .ref nwtd, .int 1])), (nwtk, .inl (y 0, 60, .inl (upd (fun _ => 0) 0 3))), (ou, .inl (y 1, 1, .inr (.inl (fun _ => 0))))] s.heap := hP
  have hl := lv_entry ([.ref h0, .int i, .int j, .ref ou]) (n := 5) (Nat.le_of_ble_eq_true rfl)
  rw [lg_entry_eq]
  generalize (lg_sl ([.ref h0, .int i, .int j, .ref ou]) ++ List.replicate (5 - (lg_sl ([.ref h0, .int i, .int j, .ref ou])).length) Slot.unset).toArray = ls at hl ⊢
  have hl : lv_has ls 5 [(0, .ref h0), (1, .int i), (2, .int j), (3, .ref ou)] := hl
  refine lv_aload_n hx hb dL_alike_0 rfl (lv_at hl 3 rfl) ?_
  refine lv_iconst (v := 0) hx hb dL_alike_1 (by decide) ?_
  refine lv_aload_n hx hb dL_alike_2 rfl (lv_at hl 0 rfl) ?_
  refine lv_iload_n hx hb dL_alike_3 rfl (lv_at hl 1 rfl) ?_
  refine lv_iload_n hx hb dL_alike_4 rfl (lv_at hl 2 rfl) ?_
  refine nq_xi (wr := [(ou, .inl (y 1, 1, .inr (.inl (fun _ => 0))))]) (vx_runV (As := [.int i, .int j]) (rest := [.int 0, .ref ou]) ⟨hx, hb, hml, hown, hts⟩ (x_alike l hl0 G y s.heap.size h0 tp ps sp tk dr pr da nw im ac ke si tx an dw nwt nwb nwn nwi nwr nwtk nwtv nwte nwtd i j) (cwV 2 hts gL_alike_X10_alike rfl rfl rfl (by decide +kernel) ⟨Nat.le_of_ble_eq_true rfl, Nat.le_of_ble_eq_true rfl⟩) (nq_PXV hK hP hD hS hA hXs [0, 1, 2, 3] rfl rfl 0 rfl rfl) rfl rfl hl.1 rfl (lv_room (Nat.le_of_ble_eq_true rfl)) dL_alike_5 ⟨Nat.le_of_ble_eq_true rfl, Nat.le_of_ble_eq_true rfl⟩) hP hD hS hA [0, 1, 2, 3] [4] rfl rfl (by decide) (by decide) (fun E ce q9 H locs hB hS hP hD h1 h2 h3 => ?_) (fun r u H locs hw hP hD hS => ?_)
  · obtain ⟨rfl, hc⟩ := hB
    have hP : va_P G vwCl [(ou, .inl (y 1, 1, .inr (.inl (fun _ => 0))))] H := hP
    have hD : va_D A [(ou, .inl (y 1, 1, .inr (.inl (fun _ => 0))))] := hD
    refine vx_catch (name := nq_NSE) hown [] (⟨0, 10, 13, 19⟩ : ExceptionTableEntry) [] htb (fun z hz => absurd hz (by simp)) (by decide) (by decide) (hts (.classLink RL 19 nq_NSE) (by decide +kernel)) (hXs.2.2.2.1.use) h1 h2 h3 ?_
    refine lv_astore (lv' := [(4, .ref q9), (0, .ref h0), (1, .int i), (2, .int j), (3, .ref ou)]) hx hb dL_alike_13 hl (by decide) rfl (fun ls hl => ?_)
    refine lv_iconst (v := 1) hx hb dL_alike_15 (by decide) ?_
    have hP9 := hP.sub (ws' := [(ou, .inl (y 1, 1, .inr (.inl (fun _ => 0))))]) [0] rfl
    have hD9 := hD.sub (ws' := [(ou, .inl (y 1, 1, .inr (.inl (fun _ => 0))))]) [0] (by decide) rfl
    refine W.widen (k := 2) (n := 12) (Nat.le_of_ble_eq_true rfl) (Nat.le_of_ble_eq_true rfl) ?_
    exact W.iret (v := 1) hx hb hr (fun t ht hW => ⟨⟨1, (fun _ => 0), rfl, ⟨hc.symm, fun h => absurd h (by decide)⟩, by rw [ht]; exact hP9, by first | exact hD9 | (rw [hAe]; exact hD9)⟩, hS.F ht⟩) hS.2.2 dL_alike_16
  · have hP : va_P G vwCl [(ou, .inl (y 1, 1, .inr (.inl (fun _ => 0))))] H := hP
    have hD : va_D A [(ou, .inl (y 1, 1, .inr (.inl (fun _ => 0))))] := hD
    refine lv_i2l (v := r.toInt64) hx hb dL_alike_8 rfl ?_
    refine va_last hx hb hK.1 hP hD hS 0 1 rfl rfl (i := 0) (nq_in (by decide)) dL_alike_9 (fun H locs hP hD hS => ?_)
    have hP : va_P G vwCl [(ou, .inl (y 1, 1, .inr (.inl (vp_updL (fun _ => 0) 0 r.toInt64))))] H := hP
    have hD : va_D A [(ou, .inl (y 1, 1, .inr (.inl (vp_updL (fun _ => 0) 0 r.toInt64))))] := hD
    refine lv_goto (tgt := 17) hx hb dL_alike_10 (by decide) ?_
    refine lv_iconst (v := 0) hx hb dL_alike_17 (by decide) ?_
    have hP9 := hP.sub (ws' := [(ou, .inl (y 1, 1, .inr (.inl (vp_updL (fun _ => 0) 0 r.toInt64))))]) [0] rfl
    have hD9 := hD.sub (ws' := [(ou, .inl (y 1, 1, .inr (.inl (vp_updL (fun _ => 0) 0 r.toInt64))))]) [0] (by decide) rfl
    refine W.widen (k := 2) (n := 12) (Nat.le_of_ble_eq_true rfl) (Nat.le_of_ble_eq_true rfl) ?_
    exact W.iret (v := 0) hx hb hr (fun t ht hW => ⟨⟨0, (vp_updL (fun _ => 0) 0 r.toInt64), rfl, ⟨hw.1.symm, fun _ => by rw [pk_uLs, hw.2]⟩, by rw [ht]; exact hP9, by first | exact hD9 | (rw [hAe]; exact hD9)⟩, hS.F ht⟩) hS.2.2 dL_alike_18

set_option maxHeartbeats 400000 in
set_option maxRecDepth 100000 in
theorem w_answer (l : Launch) (hl0 : l.stackTraces = false) (G : va_G) (y : Nat → ClassId) (sz : Nat) (h0 : Nat) (tp : Nat) (ps : Nat) (sp : Nat) (tk : Nat) (dr : Nat) (pr : Nat) (da : Nat) (nw : Nat) (im : Nat) (ac : Nat) (ke : Nat) (si : Nat) (tx : Nat) (an : Nat) (dw : Nat) (i : Int32) (j : Int32) (ou : Nat) : Met l yL_answer wsL_answer ({ frames := 7, cells := 1, slots := 6, locals := 126 }) (nq_PX G y sz [.ref h0, .int i, .int j, .ref ou] [(h0, .inr (10, [.ref tp, .int 0, .int (-1), .ref ps, .ref sp, .ref tk, .ref dr, .ref pr, .ref da, .ref nw, .ref im, .int 0, .ref ac, .ref ke, .ref si, .ref tx, .ref an, .ref dw])), (ps, .inl (y 3, 4, .inr (.inr (.inr (.inr (fun _ => none)))))), (ou, .inl (y 1, 1, .inr (.inl (fun _ => 0))))]) (va_Qi (fun (r : Int32) (g9 : Nat → Int64) => r = (sp_one i j).1 ∧ (r = 0 → g9 0 = (sp_one i j).2.toInt64)) (fun (g9 : Nat → Int64) t9 => va_P G vwCl [(ou, .inl (y 1, 1, .inr (.inl g9)))] t9.heap ∧ va_D (va_A [(h0, .inr (10, [.ref tp, .int 0, .int (-1), .ref ps, .ref sp, .ref tk, .ref dr, .ref pr, .ref da, .ref nw, .ref im, .int 0, .ref ac, .ref ke, .ref si, .ref tx, .ref an, .ref dw])), (ps, .inl (y 3, 4, .inr (.inr (.inr (.inr (fun _ => none)))))), (ou, .inl (y 1, 1, .inr (.inl (fun _ => 0))))] sz) [(ou, .inl (y 1, 1, .inr (.inl g9)))]) (va_A [(h0, .inr (10, [.ref tp, .int 0, .int (-1), .ref ps, .ref sp, .ref tk, .ref dr, .ref pr, .ref da, .ref nw, .ref im, .int 0, .ref ac, .ref ke, .ref si, .ref tx, .ref an, .ref dw])), (ps, .inl (y 3, 4, .inr (.inr (.inr (.inr (fun _ => none)))))), (ou, .inl (y 1, 1, .inr (.inl (fun _ => 0))))] sz)) 1 6 (va_A [(h0, .inr (10, [.ref tp, .int 0, .int (-1), .ref ps, .ref sp, .ref tk, .ref dr, .ref pr, .ref da, .ref nw, .ref im, .int 0, .ref ac, .ref ke, .ref si, .ref tx, .ref an, .ref dw])), (ps, .inl (y 3, 4, .inr (.inr (.inr (.inr (fun _ => none)))))), (ou, .inl (y 1, 1, .inr (.inl (fun _ => 0))))] sz) := by
  refine va_MetW (cc := cL_answer) (maxL := 5) (ret := (some .int)) (hh := [(0, 10, 13, 19)]) (by decide) rfl ?_
  intro p e s m args below meth c s₁ B hml hv
  obtain ⟨rfl, hsz, hP, hK, hD0, hXs⟩ := hv
  have hx := B.exec
  have hb := B.bytes
  have hr := B.returns
  have hts := atoms_spec (ws := wsL_answer) B.pre
  have hown : s.vm.findClass RL = some m.cls := findClass_of_methodNamed B.named
  have hlocks := B.notSynchronized
  have htb := vx_table (x := objectInit) (hh := [(0, 10, 13, 19)]) B (hts _ List.mem_cons_self)
  subst hsz
  have hD := hD0.self (sz := s.heap.size)
  generalize hAe : va_A [(h0, .inr (10, [.ref tp, .int 0, .int (-1), .ref ps, .ref sp, .ref tk, .ref dr, .ref pr, .ref da, .ref nw, .ref im, .int 0, .ref ac, .ref ke, .ref si, .ref tx, .ref an, .ref dw])), (ps, .inl (y 3, 4, .inr (.inr (.inr (.inr (fun _ => none)))))), (ou, .inl (y 1, 1, .inr (.inl (fun _ => 0))))] s.heap.size = A at hD hXs ⊢
  have hA : ∀ q : Nat, s.heap.size ≤ q → A q := fun q h => by rw [← hAe]; exact Or.inr h
  have hS : va_S A s.heap s.heap [] := va_S.rf
  have hP : va_P G vwCl [(h0, .inr (10, [.ref tp, .int 0, .int (-1), .ref ps, .ref sp, .ref tk, .ref dr, .ref pr, .ref da, .ref nw, .ref im, .int 0, .ref ac, .ref ke, .ref si, .ref tx, .ref an, .ref dw])), (ps, .inl (y 3, 4, .inr (.inr (.inr (.inr (fun _ => none)))))), (ou, .inl (y 1, 1, .inr (.inl (fun _ => 0))))] s.heap := hP
  have hl := lv_entry ([.ref h0, .int i, .int j, .ref ou]) (n := 5) (Nat.le_of_ble_eq_true rfl)
  rw [lg_entry_eq]
  generalize (lg_sl ([.ref h0, .int i, .int j, .ref ou]) ++ List.replicate (5 - (lg_sl ([.ref h0, .int i, .int j, .ref ou])).length) Slot.unset).toArray = ls at hl ⊢
  have hl : lv_has ls 5 [(0, .ref h0), (1, .int i), (2, .int j), (3, .ref ou)] := hl
  refine lv_aload_n hx hb dL_answer_0 rfl (lv_at hl 3 rfl) ?_
  refine lv_iconst (v := 0) hx hb dL_answer_1 (by decide) ?_
  refine lv_aload_n hx hb dL_answer_2 rfl (lv_at hl 0 rfl) ?_
  refine lv_iload_n hx hb dL_answer_3 rfl (lv_at hl 1 rfl) ?_
  refine lv_iload_n hx hb dL_answer_4 rfl (lv_at hl 2 rfl) ?_
  refine nq_xi (wr := [(ou, .inl (y 1, 1, .inr (.inl (fun _ => 0))))]) (vx_runV (As := [.int i, .int j]) (rest := [.int 0, .ref ou]) ⟨hx, hb, hml, hown, hts⟩ (x_answer l hl0 G y s.heap.size h0 tp ps sp tk dr pr da nw im ac ke si tx an dw i j) (cwV 2 hts gL_answer_X10_answer rfl rfl rfl (by decide +kernel) ⟨Nat.le_of_ble_eq_true rfl, Nat.le_of_ble_eq_true rfl⟩) (nq_PXV hK hP hD hS hA hXs [0, 1] rfl rfl 0 rfl rfl) rfl rfl hl.1 rfl (lv_room (Nat.le_of_ble_eq_true rfl)) dL_answer_5 ⟨Nat.le_of_ble_eq_true rfl, Nat.le_of_ble_eq_true rfl⟩) hP hD hS hA [0, 1] [2] rfl rfl (by decide) (by decide) (fun E ce q9 H locs hB hS hP hD h1 h2 h3 => ?_) (fun r u H locs hw hP hD hS => ?_)
  · obtain ⟨rfl, hc⟩ := hB
    have hP : va_P G vwCl [(ou, .inl (y 1, 1, .inr (.inl (fun _ => 0))))] H := hP
    have hD : va_D A [(ou, .inl (y 1, 1, .inr (.inl (fun _ => 0))))] := hD
    refine vx_catch (name := nq_NSE) hown [] (⟨0, 10, 13, 19⟩ : ExceptionTableEntry) [] htb (fun z hz => absurd hz (by simp)) (by decide) (by decide) (hts (.classLink RL 19 nq_NSE) (by decide +kernel)) (hXs.2.2.2.1.use) h1 h2 h3 ?_
    refine lv_astore (lv' := [(4, .ref q9), (0, .ref h0), (1, .int i), (2, .int j), (3, .ref ou)]) hx hb dL_answer_13 hl (by decide) rfl (fun ls hl => ?_)
    refine lv_iconst (v := 1) hx hb dL_answer_15 (by decide) ?_
    have hP9 := hP.sub (ws' := [(ou, .inl (y 1, 1, .inr (.inl (fun _ => 0))))]) [0] rfl
    have hD9 := hD.sub (ws' := [(ou, .inl (y 1, 1, .inr (.inl (fun _ => 0))))]) [0] (by decide) rfl
    refine W.widen (k := 1) (n := 6) (Nat.le_of_ble_eq_true rfl) (Nat.le_of_ble_eq_true rfl) ?_
    exact W.iret (v := 1) hx hb hr (fun t ht hW => ⟨⟨1, (fun _ => 0), rfl, ⟨hc.symm, fun h => absurd h (by decide)⟩, by rw [ht]; exact hP9, by first | exact hD9 | (rw [hAe]; exact hD9)⟩, hS.F ht⟩) hS.2.2 dL_answer_16
  · have hP : va_P G vwCl [(ou, .inl (y 1, 1, .inr (.inl (fun _ => 0))))] H := hP
    have hD : va_D A [(ou, .inl (y 1, 1, .inr (.inl (fun _ => 0))))] := hD
    refine lv_i2l (v := r.toInt64) hx hb dL_answer_8 rfl ?_
    refine va_last hx hb hK.1 hP hD hS 0 1 rfl rfl (i := 0) (nq_in (by decide)) dL_answer_9 (fun H locs hP hD hS => ?_)
    have hP : va_P G vwCl [(ou, .inl (y 1, 1, .inr (.inl (vp_updL (fun _ => 0) 0 r.toInt64))))] H := hP
    have hD : va_D A [(ou, .inl (y 1, 1, .inr (.inl (vp_updL (fun _ => 0) 0 r.toInt64))))] := hD
    refine lv_goto (tgt := 17) hx hb dL_answer_10 (by decide) ?_
    refine lv_iconst (v := 0) hx hb dL_answer_17 (by decide) ?_
    have hP9 := hP.sub (ws' := [(ou, .inl (y 1, 1, .inr (.inl (vp_updL (fun _ => 0) 0 r.toInt64))))]) [0] rfl
    have hD9 := hD.sub (ws' := [(ou, .inl (y 1, 1, .inr (.inl (vp_updL (fun _ => 0) 0 r.toInt64))))]) [0] (by decide) rfl
    refine W.widen (k := 1) (n := 6) (Nat.le_of_ble_eq_true rfl) (Nat.le_of_ble_eq_true rfl) ?_
    exact W.iret (v := 0) hx hb hr (fun t ht hW => ⟨⟨0, (vp_updL (fun _ => 0) 0 r.toInt64), rfl, ⟨hw.1.symm, fun _ => by rw [pk_uLs, hw.2]⟩, by rw [ht]; exact hP9, by first | exact hD9 | (rw [hAe]; exact hD9)⟩, hS.F ht⟩) hS.2.2 dL_answer_18

set_option maxHeartbeats 400000 in
set_option maxRecDepth 100000 in
theorem w_steps (l : Launch) (hl0 : l.stackTraces = false) (G : va_G) (y : Nat → ClassId) (sz : Nat) (h0 : Nat) (tp : Nat) (ps : Nat) (sp : Nat) (tk : Nat) (dr : Nat) (pr : Nat) (da : Nat) (nw : Nat) (im : Nat) (ac : Nat) (ke : Nat) (si : Nat) (tx : Nat) (an : Nat) (dw : Nat) (i : Int32) (j : Int32) (ou : Nat) : Met l yL_steps wsL_steps ({ frames := 7, cells := 1, slots := 6, locals := 123 }) (nq_PX G y sz [.ref h0, .int i, .int j, .ref ou] [(h0, .inr (10, [.ref tp, .int 0, .int (-1), .ref ps, .ref sp, .ref tk, .ref dr, .ref pr, .ref da, .ref nw, .ref im, .int 0, .ref ac, .ref ke, .ref si, .ref tx, .ref an, .ref dw])), (ps, .inl (y 3, 4, .inr (.inr (.inr (.inr (fun _ => none)))))), (ou, .inl (y 1, 1, .inr (.inl (fun _ => 0))))]) (va_Qi (fun (r : Int32) (g9 : Nat → Int64) => r = (sp_one i j).1 ∧ (r = 0 → g9 0 = (sp_one i j).2.toInt64)) (fun (g9 : Nat → Int64) t9 => va_P G vwCl [(ou, .inl (y 1, 1, .inr (.inl g9)))] t9.heap ∧ va_D (va_A [(h0, .inr (10, [.ref tp, .int 0, .int (-1), .ref ps, .ref sp, .ref tk, .ref dr, .ref pr, .ref da, .ref nw, .ref im, .int 0, .ref ac, .ref ke, .ref si, .ref tx, .ref an, .ref dw])), (ps, .inl (y 3, 4, .inr (.inr (.inr (.inr (fun _ => none)))))), (ou, .inl (y 1, 1, .inr (.inl (fun _ => 0))))] sz) [(ou, .inl (y 1, 1, .inr (.inl g9)))]) (va_A [(h0, .inr (10, [.ref tp, .int 0, .int (-1), .ref ps, .ref sp, .ref tk, .ref dr, .ref pr, .ref da, .ref nw, .ref im, .int 0, .ref ac, .ref ke, .ref si, .ref tx, .ref an, .ref dw])), (ps, .inl (y 3, 4, .inr (.inr (.inr (.inr (fun _ => none)))))), (ou, .inl (y 1, 1, .inr (.inl (fun _ => 0))))] sz)) 1 6 (va_A [(h0, .inr (10, [.ref tp, .int 0, .int (-1), .ref ps, .ref sp, .ref tk, .ref dr, .ref pr, .ref da, .ref nw, .ref im, .int 0, .ref ac, .ref ke, .ref si, .ref tx, .ref an, .ref dw])), (ps, .inl (y 3, 4, .inr (.inr (.inr (.inr (fun _ => none)))))), (ou, .inl (y 1, 1, .inr (.inl (fun _ => 0))))] sz) := by
  refine va_MetW (cc := cL_steps) (maxL := 5) (ret := (some .int)) (hh := [(0, 10, 13, 19)]) (by decide) rfl ?_
  intro p e s m args below meth c s₁ B hml hv
  obtain ⟨rfl, hsz, hP, hK, hD0, hXs⟩ := hv
  have hx := B.exec
  have hb := B.bytes
  have hr := B.returns
  have hts := atoms_spec (ws := wsL_steps) B.pre
  have hown : s.vm.findClass RL = some m.cls := findClass_of_methodNamed B.named
  have hlocks := B.notSynchronized
  have htb := vx_table (x := objectInit) (hh := [(0, 10, 13, 19)]) B (hts _ List.mem_cons_self)
  subst hsz
  have hD := hD0.self (sz := s.heap.size)
  generalize hAe : va_A [(h0, .inr (10, [.ref tp, .int 0, .int (-1), .ref ps, .ref sp, .ref tk, .ref dr, .ref pr, .ref da, .ref nw, .ref im, .int 0, .ref ac, .ref ke, .ref si, .ref tx, .ref an, .ref dw])), (ps, .inl (y 3, 4, .inr (.inr (.inr (.inr (fun _ => none)))))), (ou, .inl (y 1, 1, .inr (.inl (fun _ => 0))))] s.heap.size = A at hD hXs ⊢
  have hA : ∀ q : Nat, s.heap.size ≤ q → A q := fun q h => by rw [← hAe]; exact Or.inr h
  have hS : va_S A s.heap s.heap [] := va_S.rf
  have hP : va_P G vwCl [(h0, .inr (10, [.ref tp, .int 0, .int (-1), .ref ps, .ref sp, .ref tk, .ref dr, .ref pr, .ref da, .ref nw, .ref im, .int 0, .ref ac, .ref ke, .ref si, .ref tx, .ref an, .ref dw])), (ps, .inl (y 3, 4, .inr (.inr (.inr (.inr (fun _ => none)))))), (ou, .inl (y 1, 1, .inr (.inl (fun _ => 0))))] s.heap := hP
  have hl := lv_entry ([.ref h0, .int i, .int j, .ref ou]) (n := 5) (Nat.le_of_ble_eq_true rfl)
  rw [lg_entry_eq]
  generalize (lg_sl ([.ref h0, .int i, .int j, .ref ou]) ++ List.replicate (5 - (lg_sl ([.ref h0, .int i, .int j, .ref ou])).length) Slot.unset).toArray = ls at hl ⊢
  have hl : lv_has ls 5 [(0, .ref h0), (1, .int i), (2, .int j), (3, .ref ou)] := hl
  refine lv_aload_n hx hb dL_steps_0 rfl (lv_at hl 3 rfl) ?_
  refine lv_iconst (v := 0) hx hb dL_steps_1 (by decide) ?_
  refine lv_aload_n hx hb dL_steps_2 rfl (lv_at hl 0 rfl) ?_
  refine lv_iload_n hx hb dL_steps_3 rfl (lv_at hl 1 rfl) ?_
  refine lv_iload_n hx hb dL_steps_4 rfl (lv_at hl 2 rfl) ?_
  refine nq_xi (wr := [(ou, .inl (y 1, 1, .inr (.inl (fun _ => 0))))]) (vx_runV (As := [.int i, .int j]) (rest := [.int 0, .ref ou]) ⟨hx, hb, hml, hown, hts⟩ (x_steps l hl0 G y s.heap.size h0 tp ps sp tk dr pr da nw im ac ke si tx an dw i j) (cwV 2 hts gL_steps_X10_steps rfl rfl rfl (by decide +kernel) ⟨Nat.le_of_ble_eq_true rfl, Nat.le_of_ble_eq_true rfl⟩) (nq_PXV hK hP hD hS hA hXs [0, 1] rfl rfl 0 rfl rfl) rfl rfl hl.1 rfl (lv_room (Nat.le_of_ble_eq_true rfl)) dL_steps_5 ⟨Nat.le_of_ble_eq_true rfl, Nat.le_of_ble_eq_true rfl⟩) hP hD hS hA [0, 1] [2] rfl rfl (by decide) (by decide) (fun E ce q9 H locs hB hS hP hD h1 h2 h3 => ?_) (fun r u H locs hw hP hD hS => ?_)
  · obtain ⟨rfl, hc⟩ := hB
    have hP : va_P G vwCl [(ou, .inl (y 1, 1, .inr (.inl (fun _ => 0))))] H := hP
    have hD : va_D A [(ou, .inl (y 1, 1, .inr (.inl (fun _ => 0))))] := hD
    refine vx_catch (name := nq_NSE) hown [] (⟨0, 10, 13, 19⟩ : ExceptionTableEntry) [] htb (fun z hz => absurd hz (by simp)) (by decide) (by decide) (hts (.classLink RL 19 nq_NSE) (by decide +kernel)) (hXs.2.2.2.1.use) h1 h2 h3 ?_
    refine lv_astore (lv' := [(4, .ref q9), (0, .ref h0), (1, .int i), (2, .int j), (3, .ref ou)]) hx hb dL_steps_13 hl (by decide) rfl (fun ls hl => ?_)
    refine lv_iconst (v := 1) hx hb dL_steps_15 (by decide) ?_
    have hP9 := hP.sub (ws' := [(ou, .inl (y 1, 1, .inr (.inl (fun _ => 0))))]) [0] rfl
    have hD9 := hD.sub (ws' := [(ou, .inl (y 1, 1, .inr (.inl (fun _ => 0))))]) [0] (by decide) rfl
    refine W.widen (k := 1) (n := 6) (Nat.le_of_ble_eq_true rfl) (Nat.le_of_ble_eq_true rfl) ?_
    exact W.iret (v := 1) hx hb hr (fun t ht hW => ⟨⟨1, (fun _ => 0), rfl, ⟨hc.symm, fun h => absurd h (by decide)⟩, by rw [ht]; exact hP9, by first | exact hD9 | (rw [hAe]; exact hD9)⟩, hS.F ht⟩) hS.2.2 dL_steps_16
  · have hP : va_P G vwCl [(ou, .inl (y 1, 1, .inr (.inl (fun _ => 0))))] H := hP
    have hD : va_D A [(ou, .inl (y 1, 1, .inr (.inl (fun _ => 0))))] := hD
    refine lv_i2l (v := r.toInt64) hx hb dL_steps_8 rfl ?_
    refine va_last hx hb hK.1 hP hD hS 0 1 rfl rfl (i := 0) (nq_in (by decide)) dL_steps_9 (fun H locs hP hD hS => ?_)
    have hP : va_P G vwCl [(ou, .inl (y 1, 1, .inr (.inl (vp_updL (fun _ => 0) 0 r.toInt64))))] H := hP
    have hD : va_D A [(ou, .inl (y 1, 1, .inr (.inl (vp_updL (fun _ => 0) 0 r.toInt64))))] := hD
    refine lv_goto (tgt := 17) hx hb dL_steps_10 (by decide) ?_
    refine lv_iconst (v := 0) hx hb dL_steps_17 (by decide) ?_
    have hP9 := hP.sub (ws' := [(ou, .inl (y 1, 1, .inr (.inl (vp_updL (fun _ => 0) 0 r.toInt64))))]) [0] rfl
    have hD9 := hD.sub (ws' := [(ou, .inl (y 1, 1, .inr (.inl (vp_updL (fun _ => 0) 0 r.toInt64))))]) [0] (by decide) rfl
    refine W.widen (k := 1) (n := 6) (Nat.le_of_ble_eq_true rfl) (Nat.le_of_ble_eq_true rfl) ?_
    exact W.iret (v := 0) hx hb hr (fun t ht hW => ⟨⟨0, (vp_updL (fun _ => 0) 0 r.toInt64), rfl, ⟨hw.1.symm, fun _ => by rw [pk_uLs, hw.2]⟩, by rw [ht]; exact hP9, by first | exact hD9 | (rw [hAe]; exact hD9)⟩, hS.F ht⟩) hS.2.2 dL_steps_18

set_option maxHeartbeats 400000 in
set_option maxRecDepth 100000 in
theorem w_row (l : Launch) (hl0 : l.stackTraces = false) (G : va_G) (y : Nat → ClassId) (sz : Nat) (h0 : Nat) (tp : Nat) (ps : Nat) (sp : Nat) (tk : Nat) (dr : Nat) (pr : Nat) (da : Nat) (nw : Nat) (im : Nat) (ac : Nat) (ke : Nat) (si : Nat) (tx : Nat) (an : Nat) (dw : Nat) (ke1 : Nat) (ke2 : Nat) (ke3 : Nat) (ke4 : Nat) (i : Int32) (j : Int32) (ou : Nat) : Met l yL_row wsL_row ({ frames := 7, cells := 1, slots := 6, locals := 122 }) (nq_PX G y sz [.ref h0, .int i, .int j, .ref ou] [(h0, .inr (10, [.ref tp, .int 0, .int (-1), .ref ps, .ref sp, .ref tk, .ref dr, .ref pr, .ref da, .ref nw, .ref im, .int 0, .ref ac, .ref ke, .ref si, .ref tx, .ref an, .ref dw])), (ke, .inr (3, [.ref ke1, .ref ke2, .ref ke3, .ref ke4, .int 0])), (ou, .inl (y 1, 1, .inr (.inl (fun _ => 0))))]) (va_Qi (fun (r : Int32) (g9 : Nat → Int64) => r = (sp_one i j).1 ∧ (r = 0 → g9 0 = (sp_one i j).2.toInt64)) (fun (g9 : Nat → Int64) t9 => va_P G vwCl [(ou, .inl (y 1, 1, .inr (.inl g9)))] t9.heap ∧ va_D (va_A [(h0, .inr (10, [.ref tp, .int 0, .int (-1), .ref ps, .ref sp, .ref tk, .ref dr, .ref pr, .ref da, .ref nw, .ref im, .int 0, .ref ac, .ref ke, .ref si, .ref tx, .ref an, .ref dw])), (ke, .inr (3, [.ref ke1, .ref ke2, .ref ke3, .ref ke4, .int 0])), (ou, .inl (y 1, 1, .inr (.inl (fun _ => 0))))] sz) [(ou, .inl (y 1, 1, .inr (.inl g9)))]) (va_A [(h0, .inr (10, [.ref tp, .int 0, .int (-1), .ref ps, .ref sp, .ref tk, .ref dr, .ref pr, .ref da, .ref nw, .ref im, .int 0, .ref ac, .ref ke, .ref si, .ref tx, .ref an, .ref dw])), (ke, .inr (3, [.ref ke1, .ref ke2, .ref ke3, .ref ke4, .int 0])), (ou, .inl (y 1, 1, .inr (.inl (fun _ => 0))))] sz)) 1 6 (va_A [(h0, .inr (10, [.ref tp, .int 0, .int (-1), .ref ps, .ref sp, .ref tk, .ref dr, .ref pr, .ref da, .ref nw, .ref im, .int 0, .ref ac, .ref ke, .ref si, .ref tx, .ref an, .ref dw])), (ke, .inr (3, [.ref ke1, .ref ke2, .ref ke3, .ref ke4, .int 0])), (ou, .inl (y 1, 1, .inr (.inl (fun _ => 0))))] sz) := by
  refine va_MetW (cc := cL_row) (maxL := 5) (ret := (some .int)) (hh := [(0, 10, 13, 19)]) (by decide) rfl ?_
  intro p e s m args below meth c s₁ B hml hv
  obtain ⟨rfl, hsz, hP, hK, hD0, hXs⟩ := hv
  have hx := B.exec
  have hb := B.bytes
  have hr := B.returns
  have hts := atoms_spec (ws := wsL_row) B.pre
  have hown : s.vm.findClass RL = some m.cls := findClass_of_methodNamed B.named
  have hlocks := B.notSynchronized
  have htb := vx_table (x := objectInit) (hh := [(0, 10, 13, 19)]) B (hts _ List.mem_cons_self)
  subst hsz
  have hD := hD0.self (sz := s.heap.size)
  generalize hAe : va_A [(h0, .inr (10, [.ref tp, .int 0, .int (-1), .ref ps, .ref sp, .ref tk, .ref dr, .ref pr, .ref da, .ref nw, .ref im, .int 0, .ref ac, .ref ke, .ref si, .ref tx, .ref an, .ref dw])), (ke, .inr (3, [.ref ke1, .ref ke2, .ref ke3, .ref ke4, .int 0])), (ou, .inl (y 1, 1, .inr (.inl (fun _ => 0))))] s.heap.size = A at hD hXs ⊢
  have hA : ∀ q : Nat, s.heap.size ≤ q → A q := fun q h => by rw [← hAe]; exact Or.inr h
  have hS : va_S A s.heap s.heap [] := va_S.rf
  have hP : va_P G vwCl [(h0, .inr (10, [.ref tp, .int 0, .int (-1), .ref ps, .ref sp, .ref tk, .ref dr, .ref pr, .ref da, .ref nw, .ref im, .int 0, .ref ac, .ref ke, .ref si, .ref tx, .ref an, .ref dw])), (ke, .inr (3, [.ref ke1, .ref ke2, .ref ke3, .ref ke4, .int 0])), (ou, .inl (y 1, 1, .inr (.inl (fun _ => 0))))] s.heap := hP
  have hl := lv_entry ([.ref h0, .int i, .int j, .ref ou]) (n := 5) (Nat.le_of_ble_eq_true rfl)
  rw [lg_entry_eq]
  generalize (lg_sl ([.ref h0, .int i, .int j, .ref ou]) ++ List.replicate (5 - (lg_sl ([.ref h0, .int i, .int j, .ref ou])).length) Slot.unset).toArray = ls at hl ⊢
  have hl : lv_has ls 5 [(0, .ref h0), (1, .int i), (2, .int j), (3, .ref ou)] := hl
  refine lv_aload_n hx hb dL_row_0 rfl (lv_at hl 3 rfl) ?_
  refine lv_iconst (v := 0) hx hb dL_row_1 (by decide) ?_
  refine lv_aload_n hx hb dL_row_2 rfl (lv_at hl 0 rfl) ?_
  refine lv_iload_n hx hb dL_row_3 rfl (lv_at hl 1 rfl) ?_
  refine lv_iload_n hx hb dL_row_4 rfl (lv_at hl 2 rfl) ?_
  refine nq_xi (wr := [(ou, .inl (y 1, 1, .inr (.inl (fun _ => 0))))]) (vx_runV (As := [.int i, .int j]) (rest := [.int 0, .ref ou]) ⟨hx, hb, hml, hown, hts⟩ (x_row l hl0 G y s.heap.size h0 tp ps sp tk dr pr da nw im ac ke si tx an dw ke1 ke2 ke3 ke4 i j) (cwV 2 hts gL_row_X10_row rfl rfl rfl (by decide +kernel) ⟨Nat.le_of_ble_eq_true rfl, Nat.le_of_ble_eq_true rfl⟩) (nq_PXV hK hP hD hS hA hXs [0, 1] rfl rfl 0 rfl rfl) rfl rfl hl.1 rfl (lv_room (Nat.le_of_ble_eq_true rfl)) dL_row_5 ⟨Nat.le_of_ble_eq_true rfl, Nat.le_of_ble_eq_true rfl⟩) hP hD hS hA [0, 1] [2] rfl rfl (by decide) (by decide) (fun E ce q9 H locs hB hS hP hD h1 h2 h3 => ?_) (fun r u H locs hw hP hD hS => ?_)
  · obtain ⟨rfl, hc⟩ := hB
    have hP : va_P G vwCl [(ou, .inl (y 1, 1, .inr (.inl (fun _ => 0))))] H := hP
    have hD : va_D A [(ou, .inl (y 1, 1, .inr (.inl (fun _ => 0))))] := hD
    refine vx_catch (name := nq_NSE) hown [] (⟨0, 10, 13, 19⟩ : ExceptionTableEntry) [] htb (fun z hz => absurd hz (by simp)) (by decide) (by decide) (hts (.classLink RL 19 nq_NSE) (by decide +kernel)) (hXs.2.2.2.1.use) h1 h2 h3 ?_
    refine lv_astore (lv' := [(4, .ref q9), (0, .ref h0), (1, .int i), (2, .int j), (3, .ref ou)]) hx hb dL_row_13 hl (by decide) rfl (fun ls hl => ?_)
    refine lv_iconst (v := 1) hx hb dL_row_15 (by decide) ?_
    have hP9 := hP.sub (ws' := [(ou, .inl (y 1, 1, .inr (.inl (fun _ => 0))))]) [0] rfl
    have hD9 := hD.sub (ws' := [(ou, .inl (y 1, 1, .inr (.inl (fun _ => 0))))]) [0] (by decide) rfl
    refine W.widen (k := 1) (n := 6) (Nat.le_of_ble_eq_true rfl) (Nat.le_of_ble_eq_true rfl) ?_
    exact W.iret (v := 1) hx hb hr (fun t ht hW => ⟨⟨1, (fun _ => 0), rfl, ⟨hc.symm, fun h => absurd h (by decide)⟩, by rw [ht]; exact hP9, by first | exact hD9 | (rw [hAe]; exact hD9)⟩, hS.F ht⟩) hS.2.2 dL_row_16
  · have hP : va_P G vwCl [(ou, .inl (y 1, 1, .inr (.inl (fun _ => 0))))] H := hP
    have hD : va_D A [(ou, .inl (y 1, 1, .inr (.inl (fun _ => 0))))] := hD
    refine lv_i2l (v := r.toInt64) hx hb dL_row_8 rfl ?_
    refine va_last hx hb hK.1 hP hD hS 0 1 rfl rfl (i := 0) (nq_in (by decide)) dL_row_9 (fun H locs hP hD hS => ?_)
    have hP : va_P G vwCl [(ou, .inl (y 1, 1, .inr (.inl (vp_updL (fun _ => 0) 0 r.toInt64))))] H := hP
    have hD : va_D A [(ou, .inl (y 1, 1, .inr (.inl (vp_updL (fun _ => 0) 0 r.toInt64))))] := hD
    refine lv_goto (tgt := 17) hx hb dL_row_10 (by decide) ?_
    refine lv_iconst (v := 0) hx hb dL_row_17 (by decide) ?_
    have hP9 := hP.sub (ws' := [(ou, .inl (y 1, 1, .inr (.inl (vp_updL (fun _ => 0) 0 r.toInt64))))]) [0] rfl
    have hD9 := hD.sub (ws' := [(ou, .inl (y 1, 1, .inr (.inl (vp_updL (fun _ => 0) 0 r.toInt64))))]) [0] (by decide) rfl
    refine W.widen (k := 1) (n := 6) (Nat.le_of_ble_eq_true rfl) (Nat.le_of_ble_eq_true rfl) ?_
    exact W.iret (v := 0) hx hb hr (fun t ht hW => ⟨⟨0, (vp_updL (fun _ => 0) 0 r.toInt64), rfl, ⟨hw.1.symm, fun _ => by rw [pk_uLs, hw.2]⟩, by rw [ht]; exact hP9, by first | exact hD9 | (rw [hAe]; exact hD9)⟩, hS.F ht⟩) hS.2.2 dL_row_18

set_option maxHeartbeats 400000 in
set_option maxRecDepth 100000 in
theorem w_rowText (l : Launch) (hl0 : l.stackTraces = false) (G : va_G) (y : Nat → ClassId) (sz : Nat) (h0 : Nat) (tp : Nat) (ps : Nat) (sp : Nat) (tk : Nat) (dr : Nat) (pr : Nat) (da : Nat) (nw : Nat) (im : Nat) (ac : Nat) (ke : Nat) (si : Nat) (tx : Nat) (an : Nat) (dw : Nat) (ke1 : Nat) (ke2 : Nat) (ke3 : Nat) (ke4 : Nat) (i : Int32) (j : Int32) (ou : Nat) : Met l yL_rowText wsL_rowText ({ frames := 7, cells := 1, slots := 6, locals := 122 }) (nq_PX G y sz [.ref h0, .int i, .int j, .ref ou] [(h0, .inr (10, [.ref tp, .int 0, .int (-1), .ref ps, .ref sp, .ref tk, .ref dr, .ref pr, .ref da, .ref nw, .ref im, .int 0, .ref ac, .ref ke, .ref si, .ref tx, .ref an, .ref dw])), (ke, .inr (3, [.ref ke1, .ref ke2, .ref ke3, .ref ke4, .int 0])), (ou, .inl (y 1, 1, .inr (.inl (fun _ => 0))))]) (va_Qi (fun (r : Int32) (g9 : Nat → Int64) => r = (sp_one i j).1 ∧ (r = 0 → g9 0 = (sp_one i j).2.toInt64)) (fun (g9 : Nat → Int64) t9 => va_P G vwCl [(ou, .inl (y 1, 1, .inr (.inl g9)))] t9.heap ∧ va_D (va_A [(h0, .inr (10, [.ref tp, .int 0, .int (-1), .ref ps, .ref sp, .ref tk, .ref dr, .ref pr, .ref da, .ref nw, .ref im, .int 0, .ref ac, .ref ke, .ref si, .ref tx, .ref an, .ref dw])), (ke, .inr (3, [.ref ke1, .ref ke2, .ref ke3, .ref ke4, .int 0])), (ou, .inl (y 1, 1, .inr (.inl (fun _ => 0))))] sz) [(ou, .inl (y 1, 1, .inr (.inl g9)))]) (va_A [(h0, .inr (10, [.ref tp, .int 0, .int (-1), .ref ps, .ref sp, .ref tk, .ref dr, .ref pr, .ref da, .ref nw, .ref im, .int 0, .ref ac, .ref ke, .ref si, .ref tx, .ref an, .ref dw])), (ke, .inr (3, [.ref ke1, .ref ke2, .ref ke3, .ref ke4, .int 0])), (ou, .inl (y 1, 1, .inr (.inl (fun _ => 0))))] sz)) 1 6 (va_A [(h0, .inr (10, [.ref tp, .int 0, .int (-1), .ref ps, .ref sp, .ref tk, .ref dr, .ref pr, .ref da, .ref nw, .ref im, .int 0, .ref ac, .ref ke, .ref si, .ref tx, .ref an, .ref dw])), (ke, .inr (3, [.ref ke1, .ref ke2, .ref ke3, .ref ke4, .int 0])), (ou, .inl (y 1, 1, .inr (.inl (fun _ => 0))))] sz) := by
  refine va_MetW (cc := cL_rowText) (maxL := 5) (ret := (some .int)) (hh := [(0, 10, 13, 19)]) (by decide) rfl ?_
  intro p e s m args below meth c s₁ B hml hv
  obtain ⟨rfl, hsz, hP, hK, hD0, hXs⟩ := hv
  have hx := B.exec
  have hb := B.bytes
  have hr := B.returns
  have hts := atoms_spec (ws := wsL_rowText) B.pre
  have hown : s.vm.findClass RL = some m.cls := findClass_of_methodNamed B.named
  have hlocks := B.notSynchronized
  have htb := vx_table (x := objectInit) (hh := [(0, 10, 13, 19)]) B (hts _ List.mem_cons_self)
  subst hsz
  have hD := hD0.self (sz := s.heap.size)
  generalize hAe : va_A [(h0, .inr (10, [.ref tp, .int 0, .int (-1), .ref ps, .ref sp, .ref tk, .ref dr, .ref pr, .ref da, .ref nw, .ref im, .int 0, .ref ac, .ref ke, .ref si, .ref tx, .ref an, .ref dw])), (ke, .inr (3, [.ref ke1, .ref ke2, .ref ke3, .ref ke4, .int 0])), (ou, .inl (y 1, 1, .inr (.inl (fun _ => 0))))] s.heap.size = A at hD hXs ⊢
  have hA : ∀ q : Nat, s.heap.size ≤ q → A q := fun q h => by rw [← hAe]; exact Or.inr h
  have hS : va_S A s.heap s.heap [] := va_S.rf
  have hP : va_P G vwCl [(h0, .inr (10, [.ref tp, .int 0, .int (-1), .ref ps, .ref sp, .ref tk, .ref dr, .ref pr, .ref da, .ref nw, .ref im, .int 0, .ref ac, .ref ke, .ref si, .ref tx, .ref an, .ref dw])), (ke, .inr (3, [.ref ke1, .ref ke2, .ref ke3, .ref ke4, .int 0])), (ou, .inl (y 1, 1, .inr (.inl (fun _ => 0))))] s.heap := hP
  have hl := lv_entry ([.ref h0, .int i, .int j, .ref ou]) (n := 5) (Nat.le_of_ble_eq_true rfl)
  rw [lg_entry_eq]
  generalize (lg_sl ([.ref h0, .int i, .int j, .ref ou]) ++ List.replicate (5 - (lg_sl ([.ref h0, .int i, .int j, .ref ou])).length) Slot.unset).toArray = ls at hl ⊢
  have hl : lv_has ls 5 [(0, .ref h0), (1, .int i), (2, .int j), (3, .ref ou)] := hl
  refine lv_aload_n hx hb dL_rowText_0 rfl (lv_at hl 3 rfl) ?_
  refine lv_iconst (v := 0) hx hb dL_rowText_1 (by decide) ?_
  refine lv_aload_n hx hb dL_rowText_2 rfl (lv_at hl 0 rfl) ?_
  refine lv_iload_n hx hb dL_rowText_3 rfl (lv_at hl 1 rfl) ?_
  refine lv_iload_n hx hb dL_rowText_4 rfl (lv_at hl 2 rfl) ?_
  refine nq_xi (wr := [(ou, .inl (y 1, 1, .inr (.inl (fun _ => 0))))]) (vx_runV (As := [.int i, .int j]) (rest := [.int 0, .ref ou]) ⟨hx, hb, hml, hown, hts⟩ (x_rowText l hl0 G y s.heap.size h0 tp ps sp tk dr pr da nw im ac ke si tx an dw ke1 ke2 ke3 ke4 i j) (cwV 2 hts gL_rowText_X10_rowText rfl rfl rfl (by decide +kernel) ⟨Nat.le_of_ble_eq_true rfl, Nat.le_of_ble_eq_true rfl⟩) (nq_PXV hK hP hD hS hA hXs [0, 1] rfl rfl 0 rfl rfl) rfl rfl hl.1 rfl (lv_room (Nat.le_of_ble_eq_true rfl)) dL_rowText_5 ⟨Nat.le_of_ble_eq_true rfl, Nat.le_of_ble_eq_true rfl⟩) hP hD hS hA [0, 1] [2] rfl rfl (by decide) (by decide) (fun E ce q9 H locs hB hS hP hD h1 h2 h3 => ?_) (fun r u H locs hw hP hD hS => ?_)
  · obtain ⟨rfl, hc⟩ := hB
    have hP : va_P G vwCl [(ou, .inl (y 1, 1, .inr (.inl (fun _ => 0))))] H := hP
    have hD : va_D A [(ou, .inl (y 1, 1, .inr (.inl (fun _ => 0))))] := hD
    refine vx_catch (name := nq_NSE) hown [] (⟨0, 10, 13, 19⟩ : ExceptionTableEntry) [] htb (fun z hz => absurd hz (by simp)) (by decide) (by decide) (hts (.classLink RL 19 nq_NSE) (by decide +kernel)) (hXs.2.2.2.1.use) h1 h2 h3 ?_
    refine lv_astore (lv' := [(4, .ref q9), (0, .ref h0), (1, .int i), (2, .int j), (3, .ref ou)]) hx hb dL_rowText_13 hl (by decide) rfl (fun ls hl => ?_)
    refine lv_iconst (v := 1) hx hb dL_rowText_15 (by decide) ?_
    have hP9 := hP.sub (ws' := [(ou, .inl (y 1, 1, .inr (.inl (fun _ => 0))))]) [0] rfl
    have hD9 := hD.sub (ws' := [(ou, .inl (y 1, 1, .inr (.inl (fun _ => 0))))]) [0] (by decide) rfl
    refine W.widen (k := 1) (n := 6) (Nat.le_of_ble_eq_true rfl) (Nat.le_of_ble_eq_true rfl) ?_
    exact W.iret (v := 1) hx hb hr (fun t ht hW => ⟨⟨1, (fun _ => 0), rfl, ⟨hc.symm, fun h => absurd h (by decide)⟩, by rw [ht]; exact hP9, by first | exact hD9 | (rw [hAe]; exact hD9)⟩, hS.F ht⟩) hS.2.2 dL_rowText_16
  · have hP : va_P G vwCl [(ou, .inl (y 1, 1, .inr (.inl (fun _ => 0))))] H := hP
    have hD : va_D A [(ou, .inl (y 1, 1, .inr (.inl (fun _ => 0))))] := hD
    refine lv_i2l (v := r.toInt64) hx hb dL_rowText_8 rfl ?_
    refine va_last hx hb hK.1 hP hD hS 0 1 rfl rfl (i := 0) (nq_in (by decide)) dL_rowText_9 (fun H locs hP hD hS => ?_)
    have hP : va_P G vwCl [(ou, .inl (y 1, 1, .inr (.inl (vp_updL (fun _ => 0) 0 r.toInt64))))] H := hP
    have hD : va_D A [(ou, .inl (y 1, 1, .inr (.inl (vp_updL (fun _ => 0) 0 r.toInt64))))] := hD
    refine lv_goto (tgt := 17) hx hb dL_rowText_10 (by decide) ?_
    refine lv_iconst (v := 0) hx hb dL_rowText_17 (by decide) ?_
    have hP9 := hP.sub (ws' := [(ou, .inl (y 1, 1, .inr (.inl (vp_updL (fun _ => 0) 0 r.toInt64))))]) [0] rfl
    have hD9 := hD.sub (ws' := [(ou, .inl (y 1, 1, .inr (.inl (vp_updL (fun _ => 0) 0 r.toInt64))))]) [0] (by decide) rfl
    refine W.widen (k := 1) (n := 6) (Nat.le_of_ble_eq_true rfl) (Nat.le_of_ble_eq_true rfl) ?_
    exact W.iret (v := 0) hx hb hr (fun t ht hW => ⟨⟨0, (vp_updL (fun _ => 0) 0 r.toInt64), rfl, ⟨hw.1.symm, fun _ => by rw [pk_uLs, hw.2]⟩, by rw [ht]; exact hP9, by first | exact hD9 | (rw [hAe]; exact hD9)⟩, hS.F ht⟩) hS.2.2 dL_rowText_18

set_option maxHeartbeats 400000 in
set_option maxRecDepth 100000 in
theorem w_put (l : Launch) (hl0 : l.stackTraces = false) (G : va_G) (y : Nat → ClassId) (sz : Nat) (h0 : Nat) (tp : Nat) (ps : Nat) (sp : Nat) (tk : Nat) (dr : Nat) (pr : Nat) (da : Nat) (nw : Nat) (im : Nat) (ac : Nat) (ke : Nat) (si : Nat) (tx : Nat) (an : Nat) (dw : Nat) (nwt : Nat) (nwb : Nat) (nwn : Nat) (nwi : Nat) (nwr : Nat) (i : Int32) (j : Int32) (ou : Nat) : Met l yL_put wsL_put ({ frames := 7, cells := 1, slots := 6, locals := 123 }) (nq_PX G y sz [.ref h0, .int i, .int j, .ref ou] [(h0, .inr (10, [.ref tp, .int 0, .int (-1), .ref ps, .ref sp, .ref tk, .ref dr, .ref pr, .ref da, .ref nw, .ref im, .int 0, .ref ac, .ref ke, .ref si, .ref tx, .ref an, .ref dw])), (ps, .inl (y 3, 4, .inr (.inr (.inr (.inr (fun _ => none)))))), (nw, .inr (6, [.ref nwt, .ref nwb, .int 0, .ref nwn, .ref nwi, .int 0, .ref nwr])), (nwr, .inl (y 0, 3, .inl (fun _ => 0))), (ou, .inl (y 1, 1, .inr (.inl (fun _ => 0))))]) (va_Qi (fun (r : Int32) (g9 : Nat → Int64) => r = (sp_put i j).1 ∧ (r = 0 → g9 0 = (sp_put i j).2.toInt64)) (fun (g9 : Nat → Int64) t9 => va_P G vwCl [(ou, .inl (y 1, 1, .inr (.inl g9)))] t9.heap ∧ va_D (va_A [(h0, .inr (10, [.ref tp, .int 0, .int (-1), .ref ps, .ref sp, .ref tk, .ref dr, .ref pr, .ref da, .ref nw, .ref im, .int 0, .ref ac, .ref ke, .ref si, .ref tx, .ref an, .ref dw])), (ps, .inl (y 3, 4, .inr (.inr (.inr (.inr (fun _ => none)))))), (nw, .inr (6, [.ref nwt, .ref nwb, .int 0, .ref nwn, .ref nwi, .int 0, .ref nwr])), (nwr, .inl (y 0, 3, .inl (fun _ => 0))), (ou, .inl (y 1, 1, .inr (.inl (fun _ => 0))))] sz) [(ou, .inl (y 1, 1, .inr (.inl g9)))]) (va_A [(h0, .inr (10, [.ref tp, .int 0, .int (-1), .ref ps, .ref sp, .ref tk, .ref dr, .ref pr, .ref da, .ref nw, .ref im, .int 0, .ref ac, .ref ke, .ref si, .ref tx, .ref an, .ref dw])), (ps, .inl (y 3, 4, .inr (.inr (.inr (.inr (fun _ => none)))))), (nw, .inr (6, [.ref nwt, .ref nwb, .int 0, .ref nwn, .ref nwi, .int 0, .ref nwr])), (nwr, .inl (y 0, 3, .inl (fun _ => 0))), (ou, .inl (y 1, 1, .inr (.inl (fun _ => 0))))] sz)) 1 6 (va_A [(h0, .inr (10, [.ref tp, .int 0, .int (-1), .ref ps, .ref sp, .ref tk, .ref dr, .ref pr, .ref da, .ref nw, .ref im, .int 0, .ref ac, .ref ke, .ref si, .ref tx, .ref an, .ref dw])), (ps, .inl (y 3, 4, .inr (.inr (.inr (.inr (fun _ => none)))))), (nw, .inr (6, [.ref nwt, .ref nwb, .int 0, .ref nwn, .ref nwi, .int 0, .ref nwr])), (nwr, .inl (y 0, 3, .inl (fun _ => 0))), (ou, .inl (y 1, 1, .inr (.inl (fun _ => 0))))] sz) := by
  refine va_MetW (cc := cL_put) (maxL := 5) (ret := (some .int)) (hh := [(0, 10, 13, 13)]) (by decide) rfl ?_
  intro p e s m args below meth c s₁ B hml hv
  obtain ⟨rfl, hsz, hP, hK, hD0, hXs⟩ := hv
  have hx := B.exec
  have hb := B.bytes
  have hr := B.returns
  have hts := atoms_spec (ws := wsL_put) B.pre
  have hown : s.vm.findClass RL = some m.cls := findClass_of_methodNamed B.named
  have hlocks := B.notSynchronized
  have htb := vx_table (x := objectInit) (hh := [(0, 10, 13, 13)]) B (hts _ List.mem_cons_self)
  subst hsz
  have hD := hD0.self (sz := s.heap.size)
  generalize hAe : va_A [(h0, .inr (10, [.ref tp, .int 0, .int (-1), .ref ps, .ref sp, .ref tk, .ref dr, .ref pr, .ref da, .ref nw, .ref im, .int 0, .ref ac, .ref ke, .ref si, .ref tx, .ref an, .ref dw])), (ps, .inl (y 3, 4, .inr (.inr (.inr (.inr (fun _ => none)))))), (nw, .inr (6, [.ref nwt, .ref nwb, .int 0, .ref nwn, .ref nwi, .int 0, .ref nwr])), (nwr, .inl (y 0, 3, .inl (fun _ => 0))), (ou, .inl (y 1, 1, .inr (.inl (fun _ => 0))))] s.heap.size = A at hD hXs ⊢
  have hA : ∀ q : Nat, s.heap.size ≤ q → A q := fun q h => by rw [← hAe]; exact Or.inr h
  have hS : va_S A s.heap s.heap [] := va_S.rf
  have hP : va_P G vwCl [(h0, .inr (10, [.ref tp, .int 0, .int (-1), .ref ps, .ref sp, .ref tk, .ref dr, .ref pr, .ref da, .ref nw, .ref im, .int 0, .ref ac, .ref ke, .ref si, .ref tx, .ref an, .ref dw])), (ps, .inl (y 3, 4, .inr (.inr (.inr (.inr (fun _ => none)))))), (nw, .inr (6, [.ref nwt, .ref nwb, .int 0, .ref nwn, .ref nwi, .int 0, .ref nwr])), (nwr, .inl (y 0, 3, .inl (fun _ => 0))), (ou, .inl (y 1, 1, .inr (.inl (fun _ => 0))))] s.heap := hP
  have hl := lv_entry ([.ref h0, .int i, .int j, .ref ou]) (n := 5) (Nat.le_of_ble_eq_true rfl)
  rw [lg_entry_eq]
  generalize (lg_sl ([.ref h0, .int i, .int j, .ref ou]) ++ List.replicate (5 - (lg_sl ([.ref h0, .int i, .int j, .ref ou])).length) Slot.unset).toArray = ls at hl ⊢
  have hl : lv_has ls 5 [(0, .ref h0), (1, .int i), (2, .int j), (3, .ref ou)] := hl
  refine lv_aload_n hx hb dL_put_0 rfl (lv_at hl 3 rfl) ?_
  refine lv_iconst (v := 0) hx hb dL_put_1 (by decide) ?_
  refine lv_aload_n hx hb dL_put_2 rfl (lv_at hl 0 rfl) ?_
  refine lv_iload_n hx hb dL_put_3 rfl (lv_at hl 1 rfl) ?_
  refine lv_iload_n hx hb dL_put_4 rfl (lv_at hl 2 rfl) ?_
  refine nq_xi (wr := [(ou, .inl (y 1, 1, .inr (.inl (fun _ => 0))))]) (vx_runV (As := [.int i, .int j]) (rest := [.int 0, .ref ou]) ⟨hx, hb, hml, hown, hts⟩ (x_put l hl0 G y s.heap.size h0 tp ps sp tk dr pr da nw im ac ke si tx an dw nwt nwb nwn nwi nwr i j) (cwV 2 hts gL_put_X10_put rfl rfl rfl (by decide +kernel) ⟨Nat.le_of_ble_eq_true rfl, Nat.le_of_ble_eq_true rfl⟩) (nq_PXV hK hP hD hS hA hXs [0, 1, 2, 3] rfl rfl 0 rfl rfl) rfl rfl hl.1 rfl (lv_room (Nat.le_of_ble_eq_true rfl)) dL_put_5 ⟨Nat.le_of_ble_eq_true rfl, Nat.le_of_ble_eq_true rfl⟩) hP hD hS hA [0, 1, 2, 3] [4] rfl rfl (by decide) (by decide) (fun E ce q9 H locs hB hS hP hD h1 h2 h3 => ?_) (fun r u H locs hw hP hD hS => ?_)
  · obtain ⟨rfl, hc⟩ := hB
    have hP : va_P G vwCl [(ou, .inl (y 1, 1, .inr (.inl (fun _ => 0))))] H := hP
    have hD : va_D A [(ou, .inl (y 1, 1, .inr (.inl (fun _ => 0))))] := hD
    refine vx_catch (name := nq_IAE) hown [] (⟨0, 10, 13, 13⟩ : ExceptionTableEntry) [] htb (fun z hz => absurd hz (by simp)) (by decide) (by decide) (hts (.classLink RL 13 nq_IAE) (by decide +kernel)) (hXs.2.2.2.2.1.use) h1 h2 h3 ?_
    refine lv_astore (lv' := [(4, .ref q9), (0, .ref h0), (1, .int i), (2, .int j), (3, .ref ou)]) hx hb dL_put_13 hl (by decide) rfl (fun ls hl => ?_)
    refine lv_iconst (v := 1) hx hb dL_put_15 (by decide) ?_
    have hP9 := hP.sub (ws' := [(ou, .inl (y 1, 1, .inr (.inl (fun _ => 0))))]) [0] rfl
    have hD9 := hD.sub (ws' := [(ou, .inl (y 1, 1, .inr (.inl (fun _ => 0))))]) [0] (by decide) rfl
    refine W.widen (k := 1) (n := 6) (Nat.le_of_ble_eq_true rfl) (Nat.le_of_ble_eq_true rfl) ?_
    exact W.iret (v := 1) hx hb hr (fun t ht hW => ⟨⟨1, (fun _ => 0), rfl, ⟨hc.symm, fun h => absurd h (by decide)⟩, by rw [ht]; exact hP9, by first | exact hD9 | (rw [hAe]; exact hD9)⟩, hS.F ht⟩) hS.2.2 dL_put_16
  · have hP : va_P G vwCl [(ou, .inl (y 1, 1, .inr (.inl (fun _ => 0))))] H := hP
    have hD : va_D A [(ou, .inl (y 1, 1, .inr (.inl (fun _ => 0))))] := hD
    refine lv_i2l (v := r.toInt64) hx hb dL_put_8 rfl ?_
    refine va_last hx hb hK.1 hP hD hS 0 1 rfl rfl (i := 0) (nq_in (by decide)) dL_put_9 (fun H locs hP hD hS => ?_)
    have hP : va_P G vwCl [(ou, .inl (y 1, 1, .inr (.inl (vp_updL (fun _ => 0) 0 r.toInt64))))] H := hP
    have hD : va_D A [(ou, .inl (y 1, 1, .inr (.inl (vp_updL (fun _ => 0) 0 r.toInt64))))] := hD
    refine lv_goto (tgt := 17) hx hb dL_put_10 (by decide) ?_
    refine lv_iconst (v := 0) hx hb dL_put_17 (by decide) ?_
    have hP9 := hP.sub (ws' := [(ou, .inl (y 1, 1, .inr (.inl (vp_updL (fun _ => 0) 0 r.toInt64))))]) [0] rfl
    have hD9 := hD.sub (ws' := [(ou, .inl (y 1, 1, .inr (.inl (vp_updL (fun _ => 0) 0 r.toInt64))))]) [0] (by decide) rfl
    refine W.widen (k := 1) (n := 6) (Nat.le_of_ble_eq_true rfl) (Nat.le_of_ble_eq_true rfl) ?_
    exact W.iret (v := 0) hx hb hr (fun t ht hW => ⟨⟨0, (vp_updL (fun _ => 0) 0 r.toInt64), rfl, ⟨hw.1.symm, fun _ => by rw [pk_uLs, hw.2]⟩, by rw [ht]; exact hP9, by first | exact hD9 | (rw [hAe]; exact hD9)⟩, hS.F ht⟩) hS.2.2 dL_put_18

set_option maxHeartbeats 400000 in
set_option maxRecDepth 100000 in
theorem w_append (l : Launch) (hl0 : l.stackTraces = false) (G : va_G) (y : Nat → ClassId) (sz : Nat) (h0 : Nat) (tp : Nat) (ps : Nat) (sp : Nat) (tk : Nat) (dr : Nat) (pr : Nat) (da : Nat) (nw : Nat) (im : Nat) (ac : Nat) (ke : Nat) (si : Nat) (tx : Nat) (an : Nat) (dw : Nat) (nwt : Nat) (nwb : Nat) (nwn : Nat) (nwi : Nat) (nwr : Nat) (i : Int32) (j : Int32) (ou : Nat) : Met l yL_append wsL_append ({ frames := 7, cells := 1, slots := 6, locals := 123 }) (nq_PX G y sz [.ref h0, .int i, .int j, .ref ou] [(h0, .inr (10, [.ref tp, .int 0, .int (-1), .ref ps, .ref sp, .ref tk, .ref dr, .ref pr, .ref da, .ref nw, .ref im, .int 0, .ref ac, .ref ke, .ref si, .ref tx, .ref an, .ref dw])), (ps, .inl (y 3, 4, .inr (.inr (.inr (.inr (fun _ => none)))))), (nw, .inr (6, [.ref nwt, .ref nwb, .int 0, .ref nwn, .ref nwi, .int 0, .ref nwr])), (nwr, .inl (y 0, 3, .inl (fun _ => 0))), (ou, .inl (y 1, 1, .inr (.inl (fun _ => 0))))]) (va_Qi (fun (r : Int32) (g9 : Nat → Int64) => r = (sp_put i j).1 ∧ (r = 0 → g9 0 = (sp_put i j).2.toInt64)) (fun (g9 : Nat → Int64) t9 => va_P G vwCl [(ou, .inl (y 1, 1, .inr (.inl g9)))] t9.heap ∧ va_D (va_A [(h0, .inr (10, [.ref tp, .int 0, .int (-1), .ref ps, .ref sp, .ref tk, .ref dr, .ref pr, .ref da, .ref nw, .ref im, .int 0, .ref ac, .ref ke, .ref si, .ref tx, .ref an, .ref dw])), (ps, .inl (y 3, 4, .inr (.inr (.inr (.inr (fun _ => none)))))), (nw, .inr (6, [.ref nwt, .ref nwb, .int 0, .ref nwn, .ref nwi, .int 0, .ref nwr])), (nwr, .inl (y 0, 3, .inl (fun _ => 0))), (ou, .inl (y 1, 1, .inr (.inl (fun _ => 0))))] sz) [(ou, .inl (y 1, 1, .inr (.inl g9)))]) (va_A [(h0, .inr (10, [.ref tp, .int 0, .int (-1), .ref ps, .ref sp, .ref tk, .ref dr, .ref pr, .ref da, .ref nw, .ref im, .int 0, .ref ac, .ref ke, .ref si, .ref tx, .ref an, .ref dw])), (ps, .inl (y 3, 4, .inr (.inr (.inr (.inr (fun _ => none)))))), (nw, .inr (6, [.ref nwt, .ref nwb, .int 0, .ref nwn, .ref nwi, .int 0, .ref nwr])), (nwr, .inl (y 0, 3, .inl (fun _ => 0))), (ou, .inl (y 1, 1, .inr (.inl (fun _ => 0))))] sz)) 1 6 (va_A [(h0, .inr (10, [.ref tp, .int 0, .int (-1), .ref ps, .ref sp, .ref tk, .ref dr, .ref pr, .ref da, .ref nw, .ref im, .int 0, .ref ac, .ref ke, .ref si, .ref tx, .ref an, .ref dw])), (ps, .inl (y 3, 4, .inr (.inr (.inr (.inr (fun _ => none)))))), (nw, .inr (6, [.ref nwt, .ref nwb, .int 0, .ref nwn, .ref nwi, .int 0, .ref nwr])), (nwr, .inl (y 0, 3, .inl (fun _ => 0))), (ou, .inl (y 1, 1, .inr (.inl (fun _ => 0))))] sz) := by
  refine va_MetW (cc := cL_append) (maxL := 5) (ret := (some .int)) (hh := [(0, 10, 13, 13)]) (by decide) rfl ?_
  intro p e s m args below meth c s₁ B hml hv
  obtain ⟨rfl, hsz, hP, hK, hD0, hXs⟩ := hv
  have hx := B.exec
  have hb := B.bytes
  have hr := B.returns
  have hts := atoms_spec (ws := wsL_append) B.pre
  have hown : s.vm.findClass RL = some m.cls := findClass_of_methodNamed B.named
  have hlocks := B.notSynchronized
  have htb := vx_table (x := objectInit) (hh := [(0, 10, 13, 13)]) B (hts _ List.mem_cons_self)
  subst hsz
  have hD := hD0.self (sz := s.heap.size)
  generalize hAe : va_A [(h0, .inr (10, [.ref tp, .int 0, .int (-1), .ref ps, .ref sp, .ref tk, .ref dr, .ref pr, .ref da, .ref nw, .ref im, .int 0, .ref ac, .ref ke, .ref si, .ref tx, .ref an, .ref dw])), (ps, .inl (y 3, 4, .inr (.inr (.inr (.inr (fun _ => none)))))), (nw, .inr (6, [.ref nwt, .ref nwb, .int 0, .ref nwn, .ref nwi, .int 0, .ref nwr])), (nwr, .inl (y 0, 3, .inl (fun _ => 0))), (ou, .inl (y 1, 1, .inr (.inl (fun _ => 0))))] s.heap.size = A at hD hXs ⊢
  have hA : ∀ q : Nat, s.heap.size ≤ q → A q := fun q h => by rw [← hAe]; exact Or.inr h
  have hS : va_S A s.heap s.heap [] := va_S.rf
  have hP : va_P G vwCl [(h0, .inr (10, [.ref tp, .int 0, .int (-1), .ref ps, .ref sp, .ref tk, .ref dr, .ref pr, .ref da, .ref nw, .ref im, .int 0, .ref ac, .ref ke, .ref si, .ref tx, .ref an, .ref dw])), (ps, .inl (y 3, 4, .inr (.inr (.inr (.inr (fun _ => none)))))), (nw, .inr (6, [.ref nwt, .ref nwb, .int 0, .ref nwn, .ref nwi, .int 0, .ref nwr])), (nwr, .inl (y 0, 3, .inl (fun _ => 0))), (ou, .inl (y 1, 1, .inr (.inl (fun _ => 0))))] s.heap := hP
  have hl := lv_entry ([.ref h0, .int i, .int j, .ref ou]) (n := 5) (Nat.le_of_ble_eq_true rfl)
  rw [lg_entry_eq]
  generalize (lg_sl ([.ref h0, .int i, .int j, .ref ou]) ++ List.replicate (5 - (lg_sl ([.ref h0, .int i, .int j, .ref ou])).length) Slot.unset).toArray = ls at hl ⊢
  have hl : lv_has ls 5 [(0, .ref h0), (1, .int i), (2, .int j), (3, .ref ou)] := hl
  refine lv_aload_n hx hb dL_append_0 rfl (lv_at hl 3 rfl) ?_
  refine lv_iconst (v := 0) hx hb dL_append_1 (by decide) ?_
  refine lv_aload_n hx hb dL_append_2 rfl (lv_at hl 0 rfl) ?_
  refine lv_iload_n hx hb dL_append_3 rfl (lv_at hl 1 rfl) ?_
  refine lv_iload_n hx hb dL_append_4 rfl (lv_at hl 2 rfl) ?_
  refine nq_xi (wr := [(ou, .inl (y 1, 1, .inr (.inl (fun _ => 0))))]) (vx_runV (As := [.int i, .int j]) (rest := [.int 0, .ref ou]) ⟨hx, hb, hml, hown, hts⟩ (x_append l hl0 G y s.heap.size h0 tp ps sp tk dr pr da nw im ac ke si tx an dw nwt nwb nwn nwi nwr i j) (cwV 2 hts gL_append_X10_append rfl rfl rfl (by decide +kernel) ⟨Nat.le_of_ble_eq_true rfl, Nat.le_of_ble_eq_true rfl⟩) (nq_PXV hK hP hD hS hA hXs [0, 1, 2, 3] rfl rfl 0 rfl rfl) rfl rfl hl.1 rfl (lv_room (Nat.le_of_ble_eq_true rfl)) dL_append_5 ⟨Nat.le_of_ble_eq_true rfl, Nat.le_of_ble_eq_true rfl⟩) hP hD hS hA [0, 1, 2, 3] [4] rfl rfl (by decide) (by decide) (fun E ce q9 H locs hB hS hP hD h1 h2 h3 => ?_) (fun r u H locs hw hP hD hS => ?_)
  · obtain ⟨rfl, hc⟩ := hB
    have hP : va_P G vwCl [(ou, .inl (y 1, 1, .inr (.inl (fun _ => 0))))] H := hP
    have hD : va_D A [(ou, .inl (y 1, 1, .inr (.inl (fun _ => 0))))] := hD
    refine vx_catch (name := nq_IAE) hown [] (⟨0, 10, 13, 13⟩ : ExceptionTableEntry) [] htb (fun z hz => absurd hz (by simp)) (by decide) (by decide) (hts (.classLink RL 13 nq_IAE) (by decide +kernel)) (hXs.2.2.2.2.1.use) h1 h2 h3 ?_
    refine lv_astore (lv' := [(4, .ref q9), (0, .ref h0), (1, .int i), (2, .int j), (3, .ref ou)]) hx hb dL_append_13 hl (by decide) rfl (fun ls hl => ?_)
    refine lv_iconst (v := 1) hx hb dL_append_15 (by decide) ?_
    have hP9 := hP.sub (ws' := [(ou, .inl (y 1, 1, .inr (.inl (fun _ => 0))))]) [0] rfl
    have hD9 := hD.sub (ws' := [(ou, .inl (y 1, 1, .inr (.inl (fun _ => 0))))]) [0] (by decide) rfl
    refine W.widen (k := 1) (n := 6) (Nat.le_of_ble_eq_true rfl) (Nat.le_of_ble_eq_true rfl) ?_
    exact W.iret (v := 1) hx hb hr (fun t ht hW => ⟨⟨1, (fun _ => 0), rfl, ⟨hc.symm, fun h => absurd h (by decide)⟩, by rw [ht]; exact hP9, by first | exact hD9 | (rw [hAe]; exact hD9)⟩, hS.F ht⟩) hS.2.2 dL_append_16
  · have hP : va_P G vwCl [(ou, .inl (y 1, 1, .inr (.inl (fun _ => 0))))] H := hP
    have hD : va_D A [(ou, .inl (y 1, 1, .inr (.inl (fun _ => 0))))] := hD
    refine lv_i2l (v := r.toInt64) hx hb dL_append_8 rfl ?_
    refine va_last hx hb hK.1 hP hD hS 0 1 rfl rfl (i := 0) (nq_in (by decide)) dL_append_9 (fun H locs hP hD hS => ?_)
    have hP : va_P G vwCl [(ou, .inl (y 1, 1, .inr (.inl (vp_updL (fun _ => 0) 0 r.toInt64))))] H := hP
    have hD : va_D A [(ou, .inl (y 1, 1, .inr (.inl (vp_updL (fun _ => 0) 0 r.toInt64))))] := hD
    refine lv_goto (tgt := 17) hx hb dL_append_10 (by decide) ?_
    refine lv_iconst (v := 0) hx hb dL_append_17 (by decide) ?_
    have hP9 := hP.sub (ws' := [(ou, .inl (y 1, 1, .inr (.inl (vp_updL (fun _ => 0) 0 r.toInt64))))]) [0] rfl
    have hD9 := hD.sub (ws' := [(ou, .inl (y 1, 1, .inr (.inl (vp_updL (fun _ => 0) 0 r.toInt64))))]) [0] (by decide) rfl
    refine W.widen (k := 1) (n := 6) (Nat.le_of_ble_eq_true rfl) (Nat.le_of_ble_eq_true rfl) ?_
    exact W.iret (v := 0) hx hb hr (fun t ht hW => ⟨⟨0, (vp_updL (fun _ => 0) 0 r.toInt64), rfl, ⟨hw.1.symm, fun _ => by rw [pk_uLs, hw.2]⟩, by rw [ht]; exact hP9, by first | exact hD9 | (rw [hAe]; exact hD9)⟩, hS.F ht⟩) hS.2.2 dL_append_18

