set_option maxHeartbeats 400000 in
set_option maxRecDepth 100000 in
theorem w_key (l : Launch) (hl0 : l.stackTraces = false) (G : va_G) (y : Nat → ClassId) (sz : Nat) (h0 : Nat) (tp : Nat) (ps : Nat) (sp : Nat) (tk : Nat) (dr : Nat) (pr : Nat) (da : Nat) (nw : Nat) (im : Nat) (ac : Nat) (ke : Nat) (si : Nat) (tx : Nat) (an : Nat) (dw : Nat) (nwt : Nat) (nwb : Nat) (nwn : Nat) (nwi : Nat) (nwr : Nat) (i : Int32) (k : Int32) (j : Int32) (ou : Nat) : Met l yL_key wsL_key ({ frames := 7, cells := 1, slots := 6, locals := 124 }) (nq_PX G y sz [.ref h0, .int i, .int k, .int j, .ref ou] [(h0, .inr (10, [.ref tp, .int 0, .int (-1), .ref ps, .ref sp, .ref tk, .ref dr, .ref pr, .ref da, .ref nw, .ref im, .int 0, .ref ac, .ref ke, .ref si, .ref tx, .ref an, .ref dw])), (ps, .inl (y 3, 4, .inr (.inr (.inr (.inr (fun _ => none)))))), (nw, .inr (6, [.ref nwt, .ref nwb, .int 0, .ref nwn, .ref nwi, .int 0, .ref nwr])), (nwr, .inl (y 0, 3, .inl (fun _ => 0))), (ou, .inl (y 1, 1, .inr (.inl (fun _ => 0))))]) (va_Qi (fun (r : Int32) (g9 : Nat → Int64) => r = (sp_key i k j).1 ∧ (r = 0 → g9 0 = (sp_key i k j).2.toInt64)) (fun (g9 : Nat → Int64) t9 => va_P G vwCl [(ou, .inl (y 1, 1, .inr (.inl g9)))] t9.heap ∧ va_D (va_A [(h0, .inr (10, [.ref tp, .int 0, .int (-1), .ref ps, .ref sp, .ref tk, .ref dr, .ref pr, .ref da, .ref nw, .ref im, .int 0, .ref ac, .ref ke, .ref si, .ref tx, .ref an, .ref dw])), (ps, .inl (y 3, 4, .inr (.inr (.inr (.inr (fun _ => none)))))), (nw, .inr (6, [.ref nwt, .ref nwb, .int 0, .ref nwn, .ref nwi, .int 0, .ref nwr])), (nwr, .inl (y 0, 3, .inl (fun _ => 0))), (ou, .inl (y 1, 1, .inr (.inl (fun _ => 0))))] sz) [(ou, .inl (y 1, 1, .inr (.inl g9)))]) (va_A [(h0, .inr (10, [.ref tp, .int 0, .int (-1), .ref ps, .ref sp, .ref tk, .ref dr, .ref pr, .ref da, .ref nw, .ref im, .int 0, .ref ac, .ref ke, .ref si, .ref tx, .ref an, .ref dw])), (ps, .inl (y 3, 4, .inr (.inr (.inr (.inr (fun _ => none)))))), (nw, .inr (6, [.ref nwt, .ref nwb, .int 0, .ref nwn, .ref nwi, .int 0, .ref nwr])), (nwr, .inl (y 0, 3, .inl (fun _ => 0))), (ou, .inl (y 1, 1, .inr (.inl (fun _ => 0))))] sz)) 1 6 (va_A [(h0, .inr (10, [.ref tp, .int 0, .int (-1), .ref ps, .ref sp, .ref tk, .ref dr, .ref pr, .ref da, .ref nw, .ref im, .int 0, .ref ac, .ref ke, .ref si, .ref tx, .ref an, .ref dw])), (ps, .inl (y 3, 4, .inr (.inr (.inr (.inr (fun _ => none)))))), (nw, .inr (6, [.ref nwt, .ref nwb, .int 0, .ref nwn, .ref nwi, .int 0, .ref nwr])), (nwr, .inl (y 0, 3, .inl (fun _ => 0))), (ou, .inl (y 1, 1, .inr (.inl (fun _ => 0))))] sz) := by
  refine va_MetW (cc := cL_key) (maxL := 6) (ret := (some .int)) (hh := [(0, 12, 15, 13)]) (by decide) rfl ?_
  intro p e s m args below meth c s₁ B hml hv
  obtain ⟨rfl, hsz, hP, hK, hD0, hXs⟩ := hv
  have hx := B.exec
  have hb := B.bytes
  have hr := B.returns
  have hts := atoms_spec (ws := wsL_key) B.pre
  have hown : s.vm.findClass RL = some m.cls := findClass_of_methodNamed B.named
  have hlocks := B.notSynchronized
  have htb := vx_table (x := objectInit) (hh := [(0, 12, 15, 13)]) B (hts _ List.mem_cons_self)
  subst hsz
  have hD := hD0.self (sz := s.heap.size)
  generalize hAe : va_A [(h0, .inr (10, [.ref tp, .int 0, .int (-1), .ref ps, .ref sp, .ref tk, .ref dr, .ref pr, .ref da, .ref nw, .ref im, .int 0, .ref ac, .ref ke, .ref si, .ref tx, .ref an, .ref dw])), (ps, .inl (y 3, 4, .inr (.inr (.inr (.inr (fun _ => none)))))), (nw, .inr (6, [.ref nwt, .ref nwb, .int 0, .ref nwn, .ref nwi, .int 0, .ref nwr])), (nwr, .inl (y 0, 3, .inl (fun _ => 0))), (ou, .inl (y 1, 1, .inr (.inl (fun _ => 0))))] s.heap.size = A at hD hXs ⊢
  have hA : ∀ q : Nat, s.heap.size ≤ q → A q := fun q h => by rw [← hAe]; exact Or.inr h
  have hS : va_S A s.heap s.heap [] := va_S.rf
  have hP : va_P G vwCl [(h0, .inr (10, [.ref tp, .int 0, .int (-1), .ref ps, .ref sp, .ref tk, .ref dr, .ref pr, .ref da, .ref nw, .ref im, .int 0, .ref ac, .ref ke, .ref si, .ref tx, .ref an, .ref dw])), (ps, .inl (y 3, 4, .inr (.inr (.inr (.inr (fun _ => none)))))), (nw, .inr (6, [.ref nwt, .ref nwb, .int 0, .ref nwn, .ref nwi, .int 0, .ref nwr])), (nwr, .inl (y 0, 3, .inl (fun _ => 0))), (ou, .inl (y 1, 1, .inr (.inl (fun _ => 0))))] s.heap := hP
  have hl := lv_entry ([.ref h0, .int i, .int k, .int j, .ref ou]) (n := 6) (Nat.le_of_ble_eq_true rfl)
  rw [lg_entry_eq]
  generalize (lg_sl ([.ref h0, .int i, .int k, .int j, .ref ou]) ++ List.replicate (6 - (lg_sl ([.ref h0, .int i, .int k, .int j, .ref ou])).length) Slot.unset).toArray = ls at hl ⊢
  have hl : lv_has ls 6 [(0, .ref h0), (1, .int i), (2, .int k), (3, .int j), (4, .ref ou)] := hl
  refine lv_aload hx hb dL_key_0 (lv_at hl 4 rfl) ?_
  refine lv_iconst (v := 0) hx hb dL_key_2 (by decide) ?_
  refine lv_aload_n hx hb dL_key_3 rfl (lv_at hl 0 rfl) ?_
  refine lv_iload_n hx hb dL_key_4 rfl (lv_at hl 1 rfl) ?_
  refine lv_iload_n hx hb dL_key_5 rfl (lv_at hl 2 rfl) ?_
  refine lv_iload_n hx hb dL_key_6 rfl (lv_at hl 3 rfl) ?_
  refine nq_xi (wr := [(ou, .inl (y 1, 1, .inr (.inl (fun _ => 0))))]) (vx_runV (As := [.int i, .int k, .int j]) (rest := [.int 0, .ref ou]) ⟨hx, hb, hml, hown, hts⟩ (x_key l hl0 G y s.heap.size h0 tp ps sp tk dr pr da nw im ac ke si tx an dw nwt nwb nwn nwi nwr i k j) (cwV 3 hts gL_key_X10_key rfl rfl rfl (by decide +kernel) ⟨Nat.le_of_ble_eq_true rfl, Nat.le_of_ble_eq_true rfl⟩) (nq_PXV hK hP hD hS hA hXs [0, 1, 2, 3] rfl rfl 0 rfl rfl) rfl rfl hl.1 rfl (lv_room (Nat.le_of_ble_eq_true rfl)) dL_key_7 ⟨Nat.le_of_ble_eq_true rfl, Nat.le_of_ble_eq_true rfl⟩) hP hD hS hA [0, 1, 2, 3] [4] rfl rfl (by decide) (by decide) (fun E ce q9 H locs hB hS hP hD h1 h2 h3 => ?_) (fun r u H locs hw hP hD hS => ?_)
  · obtain ⟨rfl, hc⟩ := hB
    have hP : va_P G vwCl [(ou, .inl (y 1, 1, .inr (.inl (fun _ => 0))))] H := hP
    have hD : va_D A [(ou, .inl (y 1, 1, .inr (.inl (fun _ => 0))))] := hD
    refine vx_catch (name := nq_IAE) hown [] (⟨0, 12, 15, 13⟩ : ExceptionTableEntry) [] htb (fun z hz => absurd hz (by simp)) (by decide) (by decide) (hts (.classLink RL 13 nq_IAE) (by decide +kernel)) (hXs.2.2.2.2.1.use) h1 h2 h3 ?_
    refine lv_astore (lv' := [(5, .ref q9), (0, .ref h0), (1, .int i), (2, .int k), (3, .int j), (4, .ref ou)]) hx hb dL_key_15 hl (by decide) rfl (fun ls hl => ?_)
    refine lv_iconst (v := 1) hx hb dL_key_17 (by decide) ?_
    have hP9 := hP.sub (ws' := [(ou, .inl (y 1, 1, .inr (.inl (fun _ => 0))))]) [0] rfl
    have hD9 := hD.sub (ws' := [(ou, .inl (y 1, 1, .inr (.inl (fun _ => 0))))]) [0] (by decide) rfl
    refine W.widen (k := 1) (n := 6) (Nat.le_of_ble_eq_true rfl) (Nat.le_of_ble_eq_true rfl) ?_
    exact W.iret (v := 1) hx hb hr (fun t ht hW => ⟨⟨1, (fun _ => 0), rfl, ⟨hc.symm, fun h => absurd h (by decide)⟩, by rw [ht]; exact hP9, by first | exact hD9 | (rw [hAe]; exact hD9)⟩, hS.F ht⟩) hS.2.2 dL_key_18
  · have hP : va_P G vwCl [(ou, .inl (y 1, 1, .inr (.inl (fun _ => 0))))] H := hP
    have hD : va_D A [(ou, .inl (y 1, 1, .inr (.inl (fun _ => 0))))] := hD
    refine lv_i2l (v := r.toInt64) hx hb dL_key_10 rfl ?_
    refine va_last hx hb hK.1 hP hD hS 0 1 rfl rfl (i := 0) (nq_in (by decide)) dL_key_11 (fun H locs hP hD hS => ?_)
    have hP : va_P G vwCl [(ou, .inl (y 1, 1, .inr (.inl (vp_updL (fun _ => 0) 0 r.toInt64))))] H := hP
    have hD : va_D A [(ou, .inl (y 1, 1, .inr (.inl (vp_updL (fun _ => 0) 0 r.toInt64))))] := hD
    refine lv_goto (tgt := 19) hx hb dL_key_12 (by decide) ?_
    refine lv_iconst (v := 0) hx hb dL_key_19 (by decide) ?_
    have hP9 := hP.sub (ws' := [(ou, .inl (y 1, 1, .inr (.inl (vp_updL (fun _ => 0) 0 r.toInt64))))]) [0] rfl
    have hD9 := hD.sub (ws' := [(ou, .inl (y 1, 1, .inr (.inl (vp_updL (fun _ => 0) 0 r.toInt64))))]) [0] (by decide) rfl
    refine W.widen (k := 1) (n := 6) (Nat.le_of_ble_eq_true rfl) (Nat.le_of_ble_eq_true rfl) ?_
    exact W.iret (v := 0) hx hb hr (fun t ht hW => ⟨⟨0, (vp_updL (fun _ => 0) 0 r.toInt64), rfl, ⟨hw.1.symm, fun _ => by rw [pk_uLs, hw.2]⟩, by rw [ht]; exact hP9, by first | exact hD9 | (rw [hAe]; exact hD9)⟩, hS.F ht⟩) hS.2.2 dL_key_20

set_option maxHeartbeats 400000 in
set_option maxRecDepth 100000 in
theorem w_years (l : Launch) (hl0 : l.stackTraces = false) (G : va_G) (y : Nat → ClassId) (sz : Nat) (h0 : Nat) (tp : Nat) (ps : Nat) (sp : Nat) (tk : Nat) (dr : Nat) (pr : Nat) (da : Nat) (nw : Nat) (im : Nat) (ac : Nat) (ke : Nat) (si : Nat) (tx : Nat) (an : Nat) (dw : Nat) (ac1 : Nat) (ac2 : Nat) (ac3 : Nat) (nwt : Nat) (nwb : Nat) (nwn : Nat) (nwi : Nat) (nwr : Nat) (nwtk : Nat) (nwtv : Nat) (nwte : Nat) (nwtd : Nat) (a : Int32) (n : Int32) (i : Int32) (ou : Nat) : Met l yL_years wsL_years ({ frames := 7, cells := 1, slots := 6, locals := 125 }) (nq_PX G y sz [.ref h0, .int a, .int n, .int i, .ref ou] [(h0, .inr (10, [.ref tp, .int 0, .int (-1), .ref ps, .ref sp, .ref tk, .ref dr, .ref pr, .ref da, .ref nw, .ref im, .int 0, .ref ac, .ref ke, .ref si, .ref tx, .ref an, .ref dw])), (ps, .inl (y 3, 4, .inr (.inr (.inr (.inr (fun _ => none)))))), (ac, .inr (0, [.ref nw, .ref ac1, .ref ac2, .ref ac3])), (nw, .inr (6, [.ref nwt, .ref nwb, .int 0, .ref nwn, .ref nwi, .int 0, .ref nwr])), (nwt, .inr (9, [.ref nwtk, .ref nwtv, .ref nwte, .ref nwtd, .int 1])), (nwtk, .inl (y 0, 60, .inl (upd (fun _ => 0) 0 3))), (dw, .inr (2, [.int 0])), (ou, .inl (y 1, 1, .inr (.inl (fun _ => 0))))]) (va_Qi (fun (r : Int32) (g9 : Nat → Int64) => r = (sp_years a n i).1 ∧ (r = 0 → g9 0 = (sp_years a n i).2.toInt64)) (fun (g9 : Nat → Int64) t9 => va_P G vwCl [(ou, .inl (y 1, 1, .inr (.inl g9)))] t9.heap ∧ va_D (va_A [(h0, .inr (10, [.ref tp, .int 0, .int (-1), .ref ps, .ref sp, .ref tk, .ref dr, .ref pr, .ref da, .ref nw, .ref im, .int 0, .ref ac, .ref ke, .ref si, .ref tx, .ref an, .ref dw])), (ps, .inl (y 3, 4, .inr (.inr (.inr (.inr (fun _ => none)))))), (ac, .inr (0, [.ref nw, .ref ac1, .ref ac2, .ref ac3])), (nw, .inr (6, [.ref nwt, .ref nwb, .int 0, .ref nwn, .ref nwi, .int 0, .ref nwr])), (nwt, .inr (9, [.ref nwtk, .ref nwtv, .ref nwte, .ref nwtd, .int 1])), (nwtk, .inl (y 0, 60, .inl (upd (fun _ => 0) 0 3))), (dw, .inr (2, [.int 0])), (ou, .inl (y 1, 1, .inr (.inl (fun _ => 0))))] sz) [(ou, .inl (y 1, 1, .inr (.inl g9)))]) (va_A [(h0, .inr (10, [.ref tp, .int 0, .int (-1), .ref ps, .ref sp, .ref tk, .ref dr, .ref pr, .ref da, .ref nw, .ref im, .int 0, .ref ac, .ref ke, .ref si, .ref tx, .ref an, .ref dw])), (ps, .inl (y 3, 4, .inr (.inr (.inr (.inr (fun _ => none)))))), (ac, .inr (0, [.ref nw, .ref ac1, .ref ac2, .ref ac3])), (nw, .inr (6, [.ref nwt, .ref nwb, .int 0, .ref nwn, .ref nwi, .int 0, .ref nwr])), (nwt, .inr (9, [.ref nwtk, .ref nwtv, .ref nwte, .ref nwtd, .int 1])), (nwtk, .inl (y 0, 60, .inl (upd (fun _ => 0) 0 3))), (dw, .inr (2, [.int 0])), (ou, .inl (y 1, 1, .inr (.inl (fun _ => 0))))] sz)) 1 6 (va_A [(h0, .inr (10, [.ref tp, .int 0, .int (-1), .ref ps, .ref sp, .ref tk, .ref dr, .ref pr, .ref da, .ref nw, .ref im, .int 0, .ref ac, .ref ke, .ref si, .ref tx, .ref an, .ref dw])), (ps, .inl (y 3, 4, .inr (.inr (.inr (.inr (fun _ => none)))))), (ac, .inr (0, [.ref nw, .ref ac1, .ref ac2, .ref ac3])), (nw, .inr (6, [.ref nwt, .ref nwb, .int 0, .ref nwn, .ref nwi, .int 0, .ref nwr])), (nwt, .inr (9, [.ref nwtk, .ref nwtv, .ref nwte, .ref nwtd, .int 1])), (nwtk, .inl (y 0, 60, .inl (upd (fun _ => 0) 0 3))), (dw, .inr (2, [.int 0])), (ou, .inl (y 1, 1, .inr (.inl (fun _ => 0))))] sz) := by
  refine va_MetW (cc := cL_years) (maxL := 6) (ret := (some .int)) (hh := [(0, 12, 15, 19), (0, 12, 19, 13)]) (by decide) rfl ?_
  intro p e s m args below meth c s₁ B hml hv
  obtain ⟨rfl, hsz, hP, hK, hD0, hXs⟩ := hv
  have hx := B.exec
  have hb := B.bytes
  have hr := B.returns
  have hts := atoms_spec (ws := wsL_years) B.pre
  have hown : s.vm.findClass RL = some m.cls := findClass_of_methodNamed B.named
  have hlocks := B.notSynchronized
  have htb := vx_table (x := objectInit) (hh := [(0, 12, 15, 19), (0, 12, 19, 13)]) B (hts _ List.mem_cons_self)
  subst hsz
  have hD := hD0.self (sz := s.heap.size)
  generalize hAe : va_A [(h0, .inr (10, [.ref tp, .int 0, .int (-1), .ref ps, .ref sp, .ref tk, .ref dr, .ref pr, .ref da, .ref nw, .ref im, .int 0, .ref ac, .ref ke, .ref si, .ref tx, .ref an, .ref dw])), (ps, .inl (y 3, 4, .inr (.inr (.inr (.inr (fun _ => none)))))), (ac, .inr (0, [.ref nw, .ref ac1, .ref ac2, .ref ac3])), (nw, .inr (6, [.ref nwt, .ref nwb, .int 0, .ref nwn, .ref nwi, .int 0, .ref nwr])), (nwt, .inr (9, [.ref nwtk, .ref nwtv, .ref nwte, .ref nwtd, .int 1])), (nwtk, .inl (y 0, 60, .inl (upd (fun _ => 0) 0 3))), (dw, .inr (2, [.int 0])), (ou, .inl (y 1, 1, .inr (.inl (fun _ => 0))))] s.heap.size = A at hD hXs ⊢
  have hA : ∀ q : Nat, s.heap.size ≤ q → A q := fun q h => by rw [← hAe]; exact Or.inr h
  have hS : va_S A s.heap s.heap [] := va_S.rf
  have hP : va_P G vwCl [(h0, .inr (10, [.ref tp, .int 0, .int (-1), .ref ps, .ref sp, .ref tk, .ref dr, .ref pr, .ref da, .ref nw, .ref im, .int 0, .ref ac, .ref ke, .ref si, .ref tx, .ref an, .ref dw])), (ps, .inl (y 3, 4, .inr (.inr (.inr (.inr (fun _ => none)))))), (ac, .inr (0, [.ref nw, .ref ac1, .ref ac2, .ref ac3])), (nw, .inr (6, [.ref nwt, .ref nwb, .int 0, .ref nwn, .ref nwi, .int 0, .ref nwr])), (nwt, .inr (9, [.ref nwtk, .ref nwtv, .ref nwte, .ref nwtd, .int 1])), (nwtk, .inl (y 0, 60, .inl (upd (fun _ => 0) 0 3))), (dw, .inr (2, [.int 0])), (ou, .inl (y 1, 1, .inr (.inl (fun _ => 0))))] s.heap := hP
  have hl := lv_entry ([.ref h0, .int a, .int n, .int i, .ref ou]) (n := 6) (Nat.le_of_ble_eq_true rfl)
  rw [lg_entry_eq]
  generalize (lg_sl ([.ref h0, .int a, .int n, .int i, .ref ou]) ++ List.replicate (6 - (lg_sl ([.ref h0, .int a, .int n, .int i, .ref ou])).length) Slot.unset).toArray = ls at hl ⊢
  have hl : lv_has ls 6 [(0, .ref h0), (1, .int a), (2, .int n), (3, .int i), (4, .ref ou)] := hl
  refine lv_aload hx hb dL_years_0 (lv_at hl 4 rfl) ?_
  refine lv_iconst (v := 0) hx hb dL_years_2 (by decide) ?_
  refine lv_aload_n hx hb dL_years_3 rfl (lv_at hl 0 rfl) ?_
  refine lv_iload_n hx hb dL_years_4 rfl (lv_at hl 1 rfl) ?_
  refine lv_iload_n hx hb dL_years_5 rfl (lv_at hl 2 rfl) ?_
  refine lv_iload_n hx hb dL_years_6 rfl (lv_at hl 3 rfl) ?_
  refine nq_xi (wr := [(ou, .inl (y 1, 1, .inr (.inl (fun _ => 0))))]) (vx_runV (As := [.int a, .int n, .int i]) (rest := [.int 0, .ref ou]) ⟨hx, hb, hml, hown, hts⟩ (x_years l hl0 G y s.heap.size h0 tp ps sp tk dr pr da nw im ac ke si tx an dw ac1 ac2 ac3 nwt nwb nwn nwi nwr nwtk nwtv nwte nwtd a n i) (cwV 3 hts gL_years_X10_years rfl rfl rfl (by decide +kernel) ⟨Nat.le_of_ble_eq_true rfl, Nat.le_of_ble_eq_true rfl⟩) (nq_PXV hK hP hD hS hA hXs [0, 1, 2, 3, 4, 5, 6] rfl rfl 0 rfl rfl) rfl rfl hl.1 rfl (lv_room (Nat.le_of_ble_eq_true rfl)) dL_years_7 ⟨Nat.le_of_ble_eq_true rfl, Nat.le_of_ble_eq_true rfl⟩) hP hD hS hA [0, 1, 2, 3, 4, 5, 6] [7] rfl rfl (by decide) (by decide) (fun E ce q9 H locs hB hS hP hD h1 h2 h3 => ?_) (fun r u H locs hw hP hD hS => ?_)
  · rcases hB with ⟨rfl, hc⟩ | ⟨rfl, hc⟩
    · have hP : va_P G vwCl [(ou, .inl (y 1, 1, .inr (.inl (fun _ => 0))))] H := hP
      have hD : va_D A [(ou, .inl (y 1, 1, .inr (.inl (fun _ => 0))))] := hD
      refine vx_catch (name := nq_NSE) hown [] (⟨0, 12, 15, 19⟩ : ExceptionTableEntry) [(⟨0, 12, 19, 13⟩ : ExceptionTableEntry)] htb (fun z hz => absurd hz (by simp)) (by decide) (by decide) (hts (.classLink RL 19 nq_NSE) (by decide +kernel)) (hXs.2.2.2.1.use) h1 h2 h3 ?_
      refine lv_astore (lv' := [(5, .ref q9), (0, .ref h0), (1, .int a), (2, .int n), (3, .int i), (4, .ref ou)]) hx hb dL_years_15 hl (by decide) rfl (fun ls hl => ?_)
      refine lv_iconst (v := 1) hx hb dL_years_17 (by decide) ?_
      have hP9 := hP.sub (ws' := [(ou, .inl (y 1, 1, .inr (.inl (fun _ => 0))))]) [0] rfl
      have hD9 := hD.sub (ws' := [(ou, .inl (y 1, 1, .inr (.inl (fun _ => 0))))]) [0] (by decide) rfl
      refine W.widen (k := 1) (n := 6) (Nat.le_of_ble_eq_true rfl) (Nat.le_of_ble_eq_true rfl) ?_
      exact W.iret (v := 1) hx hb hr (fun t ht hW => ⟨⟨1, (fun _ => 0), rfl, ⟨hc.symm, fun h => absurd h (by decide)⟩, by rw [ht]; exact hP9, by first | exact hD9 | (rw [hAe]; exact hD9)⟩, hS.F ht⟩) hS.2.2 dL_years_18
    · have hP : va_P G vwCl [(ou, .inl (y 1, 1, .inr (.inl (fun _ => 0))))] H := hP
      have hD : va_D A [(ou, .inl (y 1, 1, .inr (.inl (fun _ => 0))))] := hD
      refine vx_catch (name := nq_IAE) hown [(⟨0, 12, 15, 19⟩ : ExceptionTableEntry)] (⟨0, 12, 19, 13⟩ : ExceptionTableEntry) [] htb (fun z hz => by rw [List.mem_singleton.mp hz]; exact Or.inr ⟨by decide, nq_NSE, hts (.classLink RL 19 nq_NSE) (by decide +kernel), hXs.2.2.2.2.2.1⟩) (by decide) (by decide) (hts (.classLink RL 13 nq_IAE) (by decide +kernel)) (hXs.2.2.2.2.1.use) h1 h2 h3 ?_
      refine lv_astore (lv' := [(5, .ref q9), (0, .ref h0), (1, .int a), (2, .int n), (3, .int i), (4, .ref ou)]) hx hb dL_years_19 hl (by decide) rfl (fun ls hl => ?_)
      refine lv_iconst (v := 2) hx hb dL_years_21 (by decide) ?_
      have hP9 := hP.sub (ws' := [(ou, .inl (y 1, 1, .inr (.inl (fun _ => 0))))]) [0] rfl
      have hD9 := hD.sub (ws' := [(ou, .inl (y 1, 1, .inr (.inl (fun _ => 0))))]) [0] (by decide) rfl
      refine W.widen (k := 1) (n := 6) (Nat.le_of_ble_eq_true rfl) (Nat.le_of_ble_eq_true rfl) ?_
      exact W.iret (v := 2) hx hb hr (fun t ht hW => ⟨⟨2, (fun _ => 0), rfl, ⟨hc.symm, fun h => absurd h (by decide)⟩, by rw [ht]; exact hP9, by first | exact hD9 | (rw [hAe]; exact hD9)⟩, hS.F ht⟩) hS.2.2 dL_years_22
  · have hP : va_P G vwCl [(ou, .inl (y 1, 1, .inr (.inl (fun _ => 0))))] H := hP
    have hD : va_D A [(ou, .inl (y 1, 1, .inr (.inl (fun _ => 0))))] := hD
    refine lv_i2l (v := r.toInt64) hx hb dL_years_10 rfl ?_
    refine va_last hx hb hK.1 hP hD hS 0 1 rfl rfl (i := 0) (nq_in (by decide)) dL_years_11 (fun H locs hP hD hS => ?_)
    have hP : va_P G vwCl [(ou, .inl (y 1, 1, .inr (.inl (vp_updL (fun _ => 0) 0 r.toInt64))))] H := hP
    have hD : va_D A [(ou, .inl (y 1, 1, .inr (.inl (vp_updL (fun _ => 0) 0 r.toInt64))))] := hD
    refine lv_goto (tgt := 23) hx hb dL_years_12 (by decide) ?_
    refine lv_iconst (v := 0) hx hb dL_years_23 (by decide) ?_
    have hP9 := hP.sub (ws' := [(ou, .inl (y 1, 1, .inr (.inl (vp_updL (fun _ => 0) 0 r.toInt64))))]) [0] rfl
    have hD9 := hD.sub (ws' := [(ou, .inl (y 1, 1, .inr (.inl (vp_updL (fun _ => 0) 0 r.toInt64))))]) [0] (by decide) rfl
    refine W.widen (k := 1) (n := 6) (Nat.le_of_ble_eq_true rfl) (Nat.le_of_ble_eq_true rfl) ?_
    exact W.iret (v := 0) hx hb hr (fun t ht hW => ⟨⟨0, (vp_updL (fun _ => 0) 0 r.toInt64), rfl, ⟨hw.1.symm, fun _ => by rw [pk_uLs, hw.2]⟩, by rw [ht]; exact hP9, by first | exact hD9 | (rw [hAe]; exact hD9)⟩, hS.F ht⟩) hS.2.2 dL_years_24

set_option maxHeartbeats 400000 in
set_option maxRecDepth 100000 in
theorem m_thrown (l : Launch) (G : va_G) (y : Nat → ClassId) (sz : Nat) (h0 : Nat) (u : Int32 × List Value) (hk : u.2[0]? = some (.int u.1)) : Met l yX11_thrown wsX11_thrown ({ frames := 0, cells := 0, slots := 0, locals := 0 }) (nq_P G y sz [.ref h0] [(h0, .inr (11, u.2))]) (va_Qi (fun (r : Int32) (_ : Unit) => r = u.1) (fun _ _ => True) (va_A [] sz)) 0 0 (va_A [] sz) := by
  refine Met.ofW (cc := cX11_thrown) (maxL := 1) (ret := (some .int)) (by decide) rfl ?_
  intro p e s m args below meth c s₁ B hml hv
  obtain ⟨rfl, hsz, hP, hK, hD0⟩ := hv
  have hx := B.exec
  have hb := B.bytes
  have hr := B.returns
  have hts := atoms_spec (ws := wsX11_thrown) B.pre
  have hown : s.vm.findClass RX11 = some m.cls := findClass_of_methodNamed B.named
  have hlocks := B.notSynchronized
  subst hsz
  have hS : va_S (va_A [] s.heap.size) s.heap s.heap [] := va_S.rf
  have inX11 : ∀ w ∈ wsX110, w ∈ wsX11_thrown := by decide +kernel
  have hl := lv_entry ([.ref h0]) (n := 1) (Nat.le_of_ble_eq_true rfl)
  rw [lg_entry_eq]
  generalize (lg_sl ([.ref h0]) ++ List.replicate (1 - (lg_sl ([.ref h0])).length) Slot.unset).toArray = ls at hl ⊢
  have hl : lv_has ls 1 [(0, .ref h0)] := hl
  refine lv_aload_n hx hb dX11_thrown_0 rfl (lv_at hl 0 rfl) ?_
  refine va_get (D := G) (ci := 11) (v := .int u.1) (C := RX11) (T := TX11) (N := 66) hx hb hts inX11 hown hK.1 hP 0 rfl rfl 0 (by decide) (hts (.fieldLink RX11 111 "NestQueryModel" "code" "I") (by decide +kernel)) (fun _ h9 => h9) hk dX11_thrown_1 ?_
  exact W.iret (v := u.1) hx hb hr (fun t ht hW => ⟨⟨u.1, (), rfl, rfl, trivial⟩, hS.F ht⟩) hS.2.2 dX11_thrown_4
