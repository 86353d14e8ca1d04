set_option maxHeartbeats 400000 in
set_option maxRecDepth 100000 in
theorem w_tree (l : Launch) (hl0 : l.stackTraces = false) (G : va_G) (y : Nat → ClassId) (sz : Nat) (h0 : Nat) (tp : Nat) (ps : Nat) (sp : Nat) (tk : Nat) (dr : Nat) (pr : Nat) (da : Nat) (nw : Nat) (im : Nat) (ac : Nat) (ke : Nat) (si : Nat) (tx : Nat) (an : Nat) (dw : Nat) (tk1 : Nat) (tk2 : Nat) (tk3 : Nat) (tk4 : Nat) (dak : Nat) (dav : Nat) (dae : Nat) (dad : Nat) (nwt : Nat) (nwb : Nat) (nwn : Nat) (nwi : Nat) (nwr : Nat) (i : Int32) (ou : Nat) : Met l yL_tree wsL_tree ({ frames := 7, cells := 1, slots := 6, locals := 134 }) (nq_PX G y sz [.ref h0, .int i, .ref ou] [(h0, .inr (10, [.ref tp, .int 0, .int (-1), .ref ps, .ref sp, .ref tk, .ref dr, .ref pr, .ref da, .ref nw, .ref im, .int 0, .ref ac, .ref ke, .ref si, .ref tx, .ref an, .ref dw])), (dr, .inr (1, [.ref tk])), (tk, .inr (8, [.ref tk1, .ref tk2, .ref tk3, .ref tk4, .int 0, .int 0, .int 0, .int 0, .int (-1)])), (tk1, .inl (y 0, 401, .inl (fun _ => 0))), (tk2, .inl (y 0, 401, .inl (fun _ => 0))), (tk3, .inl (y 0, 401, .inl (fun _ => 0))), (tk4, .inl (y 0, 401, .inl (fun _ => 0))), (tp, .inl (y 0, 400, .inl (fun _ => 0))), (da, .inr (9, [.ref dak, .ref dav, .ref dae, .ref dad, .int 0])), (nw, .inr (6, [.ref nwt, .ref nwb, .int 0, .ref nwn, .ref nwi, .int 0, .ref nwr])), (nwr, .inl (y 0, 3, .inl (fun _ => 0))), (ou, .inl (y 1, 1, .inr (.inl (fun _ => 0))))]) (va_Qi (fun (r : Int32) (g9 : Nat → Int64) => r = (sp_tree i).1 ∧ (r = 0 → g9 0 = (sp_tree i).2.toInt64)) (fun (g9 : Nat → Int64) t9 => va_P G vwCl [(ou, .inl (y 1, 1, .inr (.inl g9)))] t9.heap ∧ va_D (va_A [(h0, .inr (10, [.ref tp, .int 0, .int (-1), .ref ps, .ref sp, .ref tk, .ref dr, .ref pr, .ref da, .ref nw, .ref im, .int 0, .ref ac, .ref ke, .ref si, .ref tx, .ref an, .ref dw])), (dr, .inr (1, [.ref tk])), (tk, .inr (8, [.ref tk1, .ref tk2, .ref tk3, .ref tk4, .int 0, .int 0, .int 0, .int 0, .int (-1)])), (tk1, .inl (y 0, 401, .inl (fun _ => 0))), (tk2, .inl (y 0, 401, .inl (fun _ => 0))), (tk3, .inl (y 0, 401, .inl (fun _ => 0))), (tk4, .inl (y 0, 401, .inl (fun _ => 0))), (tp, .inl (y 0, 400, .inl (fun _ => 0))), (da, .inr (9, [.ref dak, .ref dav, .ref dae, .ref dad, .int 0])), (nw, .inr (6, [.ref nwt, .ref nwb, .int 0, .ref nwn, .ref nwi, .int 0, .ref nwr])), (nwr, .inl (y 0, 3, .inl (fun _ => 0))), (ou, .inl (y 1, 1, .inr (.inl (fun _ => 0))))] sz) [(ou, .inl (y 1, 1, .inr (.inl g9)))]) (va_A [(h0, .inr (10, [.ref tp, .int 0, .int (-1), .ref ps, .ref sp, .ref tk, .ref dr, .ref pr, .ref da, .ref nw, .ref im, .int 0, .ref ac, .ref ke, .ref si, .ref tx, .ref an, .ref dw])), (dr, .inr (1, [.ref tk])), (tk, .inr (8, [.ref tk1, .ref tk2, .ref tk3, .ref tk4, .int 0, .int 0, .int 0, .int 0, .int (-1)])), (tk1, .inl (y 0, 401, .inl (fun _ => 0))), (tk2, .inl (y 0, 401, .inl (fun _ => 0))), (tk3, .inl (y 0, 401, .inl (fun _ => 0))), (tk4, .inl (y 0, 401, .inl (fun _ => 0))), (tp, .inl (y 0, 400, .inl (fun _ => 0))), (da, .inr (9, [.ref dak, .ref dav, .ref dae, .ref dad, .int 0])), (nw, .inr (6, [.ref nwt, .ref nwb, .int 0, .ref nwn, .ref nwi, .int 0, .ref nwr])), (nwr, .inl (y 0, 3, .inl (fun _ => 0))), (ou, .inl (y 1, 1, .inr (.inl (fun _ => 0))))] sz)) 1 6 (va_A [(h0, .inr (10, [.ref tp, .int 0, .int (-1), .ref ps, .ref sp, .ref tk, .ref dr, .ref pr, .ref da, .ref nw, .ref im, .int 0, .ref ac, .ref ke, .ref si, .ref tx, .ref an, .ref dw])), (dr, .inr (1, [.ref tk])), (tk, .inr (8, [.ref tk1, .ref tk2, .ref tk3, .ref tk4, .int 0, .int 0, .int 0, .int 0, .int (-1)])), (tk1, .inl (y 0, 401, .inl (fun _ => 0))), (tk2, .inl (y 0, 401, .inl (fun _ => 0))), (tk3, .inl (y 0, 401, .inl (fun _ => 0))), (tk4, .inl (y 0, 401, .inl (fun _ => 0))), (tp, .inl (y 0, 400, .inl (fun _ => 0))), (da, .inr (9, [.ref dak, .ref dav, .ref dae, .ref dad, .int 0])), (nw, .inr (6, [.ref nwt, .ref nwb, .int 0, .ref nwn, .ref nwi, .int 0, .ref nwr])), (nwr, .inl (y 0, 3, .inl (fun _ => 0))), (ou, .inl (y 1, 1, .inr (.inl (fun _ => 0))))] sz) := by
  refine va_MetW (cc := cL_tree) (maxL := 4) (ret := (some .int)) (hh := [(0, 9, 12, 13)]) (by decide) rfl ?_
  intro p e s m args below meth c s₁ B hml hv
  obtain ⟨rfl, hsz, hP, hK, hD0, hXs⟩ := hv
  have hx := B.exec
  have hb := B.bytes
  have hr := B.returns
  have hts := atoms_spec (ws := wsL_tree) B.pre
  have hown : s.vm.findClass RL = some m.cls := findClass_of_methodNamed B.named
  have hlocks := B.notSynchronized
  have htb := vx_table (x := objectInit) (hh := [(0, 9, 12, 13)]) B (hts _ List.mem_cons_self)
  subst hsz
  have hD := hD0.self (sz := s.heap.size)
  generalize hAe : va_A [(h0, .inr (10, [.ref tp, .int 0, .int (-1), .ref ps, .ref sp, .ref tk, .ref dr, .ref pr, .ref da, .ref nw, .ref im, .int 0, .ref ac, .ref ke, .ref si, .ref tx, .ref an, .ref dw])), (dr, .inr (1, [.ref tk])), (tk, .inr (8, [.ref tk1, .ref tk2, .ref tk3, .ref tk4, .int 0, .int 0, .int 0, .int 0, .int (-1)])), (tk1, .inl (y 0, 401, .inl (fun _ => 0))), (tk2, .inl (y 0, 401, .inl (fun _ => 0))), (tk3, .inl (y 0, 401, .inl (fun _ => 0))), (tk4, .inl (y 0, 401, .inl (fun _ => 0))), (tp, .inl (y 0, 400, .inl (fun _ => 0))), (da, .inr (9, [.ref dak, .ref dav, .ref dae, .ref dad, .int 0])), (nw, .inr (6, [.ref nwt, .ref nwb, .int 0, .ref nwn, .ref nwi, .int 0, .ref nwr])), (nwr, .inl (y 0, 3, .inl (fun _ => 0))), (ou, .inl (y 1, 1, .inr (.inl (fun _ => 0))))] s.heap.size = A at hD hXs ⊢
  have hA : ∀ q : Nat, s.heap.size ≤ q → A q := fun q h => by rw [← hAe]; exact Or.inr h
  have hS : va_S A s.heap s.heap [] := va_S.rf
  have hP : va_P G vwCl [(h0, .inr (10, [.ref tp, .int 0, .int (-1), .ref ps, .ref sp, .ref tk, .ref dr, .ref pr, .ref da, .ref nw, .ref im, .int 0, .ref ac, .ref ke, .ref si, .ref tx, .ref an, .ref dw])), (dr, .inr (1, [.ref tk])), (tk, .inr (8, [.ref tk1, .ref tk2, .ref tk3, .ref tk4, .int 0, .int 0, .int 0, .int 0, .int (-1)])), (tk1, .inl (y 0, 401, .inl (fun _ => 0))), (tk2, .inl (y 0, 401, .inl (fun _ => 0))), (tk3, .inl (y 0, 401, .inl (fun _ => 0))), (tk4, .inl (y 0, 401, .inl (fun _ => 0))), (tp, .inl (y 0, 400, .inl (fun _ => 0))), (da, .inr (9, [.ref dak, .ref dav, .ref dae, .ref dad, .int 0])), (nw, .inr (6, [.ref nwt, .ref nwb, .int 0, .ref nwn, .ref nwi, .int 0, .ref nwr])), (nwr, .inl (y 0, 3, .inl (fun _ => 0))), (ou, .inl (y 1, 1, .inr (.inl (fun _ => 0))))] s.heap := hP
  have hl := lv_entry ([.ref h0, .int i, .ref ou]) (n := 4) (Nat.le_of_ble_eq_true rfl)
  rw [lg_entry_eq]
  generalize (lg_sl ([.ref h0, .int i, .ref ou]) ++ List.replicate (4 - (lg_sl ([.ref h0, .int i, .ref ou])).length) Slot.unset).toArray = ls at hl ⊢
  have hl : lv_has ls 4 [(0, .ref h0), (1, .int i), (2, .ref ou)] := hl
  refine lv_aload_n hx hb dL_tree_0 rfl (lv_at hl 2 rfl) ?_
  refine lv_iconst (v := 0) hx hb dL_tree_1 (by decide) ?_
  refine lv_aload_n hx hb dL_tree_2 rfl (lv_at hl 0 rfl) ?_
  refine lv_iload_n hx hb dL_tree_3 rfl (lv_at hl 1 rfl) ?_
  refine nq_xi (wr := [(ou, .inl (y 1, 1, .inr (.inl (fun _ => 0))))]) (vx_runV (As := [.int i]) (rest := [.int 0, .ref ou]) ⟨hx, hb, hml, hown, hts⟩ (x_tree l hl0 G y s.heap.size h0 tp ps sp tk dr pr da nw im ac ke si tx an dw tk1 tk2 tk3 tk4 dak dav dae dad nwt nwb nwn nwi nwr i) (cwV 1 hts gL_tree_X10_tree rfl rfl rfl (by decide +kernel) ⟨Nat.le_of_ble_eq_true rfl, Nat.le_of_ble_eq_true rfl⟩) (nq_PXV hK hP hD hS hA hXs [0, 1, 2, 3, 4, 5, 6, 7, 8, 9, 10] rfl rfl 0 rfl rfl) rfl rfl hl.1 rfl (lv_room (Nat.le_of_ble_eq_true rfl)) dL_tree_4 ⟨Nat.le_of_ble_eq_true rfl, Nat.le_of_ble_eq_true rfl⟩) hP hD hS hA [0, 1, 2, 3, 4, 5, 6, 7, 8, 9, 10] [11] rfl rfl (by decide) (by decide) (fun E ce q9 H locs hB hS hP hD h1 h2 h3 => ?_) (fun r u H locs hw hP hD hS => ?_)
  · obtain ⟨rfl, hc⟩ := hB
    have hP : va_P G vwCl [(ou, .inl (y 1, 1, .inr (.inl (fun _ => 0))))] H := hP
    have hD : va_D A [(ou, .inl (y 1, 1, .inr (.inl (fun _ => 0))))] := hD
    refine vx_catch (name := nq_IAE) hown [] (⟨0, 9, 12, 13⟩ : ExceptionTableEntry) [] htb (fun z hz => absurd hz (by simp)) (by decide) (by decide) (hts (.classLink RL 13 nq_IAE) (by decide +kernel)) (hXs.2.2.2.2.1.use) h1 h2 h3 ?_
    refine lv_astore_n (lv' := [(3, .ref q9), (0, .ref h0), (1, .int i), (2, .ref ou)]) hx hb dL_tree_12 rfl hl (by decide) rfl (fun ls hl => ?_)
    refine lv_iconst (v := 1) hx hb dL_tree_13 (by decide) ?_
    have hP9 := hP.sub (ws' := [(ou, .inl (y 1, 1, .inr (.inl (fun _ => 0))))]) [0] rfl
    have hD9 := hD.sub (ws' := [(ou, .inl (y 1, 1, .inr (.inl (fun _ => 0))))]) [0] (by decide) rfl
    refine W.widen (k := 1) (n := 6) (Nat.le_of_ble_eq_true rfl) (Nat.le_of_ble_eq_true rfl) ?_
    exact W.iret (v := 1) hx hb hr (fun t ht hW => ⟨⟨1, (fun _ => 0), rfl, ⟨hc.symm, fun h => absurd h (by decide)⟩, by rw [ht]; exact hP9, by first | exact hD9 | (rw [hAe]; exact hD9)⟩, hS.F ht⟩) hS.2.2 dL_tree_14
  · have hP : va_P G vwCl [(ou, .inl (y 1, 1, .inr (.inl (fun _ => 0))))] H := hP
    have hD : va_D A [(ou, .inl (y 1, 1, .inr (.inl (fun _ => 0))))] := hD
    refine lv_i2l (v := r.toInt64) hx hb dL_tree_7 rfl ?_
    refine va_last hx hb hK.1 hP hD hS 0 1 rfl rfl (i := 0) (nq_in (by decide)) dL_tree_8 (fun H locs hP hD hS => ?_)
    have hP : va_P G vwCl [(ou, .inl (y 1, 1, .inr (.inl (vp_updL (fun _ => 0) 0 r.toInt64))))] H := hP
    have hD : va_D A [(ou, .inl (y 1, 1, .inr (.inl (vp_updL (fun _ => 0) 0 r.toInt64))))] := hD
    refine lv_goto (tgt := 15) hx hb dL_tree_9 (by decide) ?_
    refine lv_iconst (v := 0) hx hb dL_tree_15 (by decide) ?_
    have hP9 := hP.sub (ws' := [(ou, .inl (y 1, 1, .inr (.inl (vp_updL (fun _ => 0) 0 r.toInt64))))]) [0] rfl
    have hD9 := hD.sub (ws' := [(ou, .inl (y 1, 1, .inr (.inl (vp_updL (fun _ => 0) 0 r.toInt64))))]) [0] (by decide) rfl
    refine W.widen (k := 1) (n := 6) (Nat.le_of_ble_eq_true rfl) (Nat.le_of_ble_eq_true rfl) ?_
    exact W.iret (v := 0) hx hb hr (fun t ht hW => ⟨⟨0, (vp_updL (fun _ => 0) 0 r.toInt64), rfl, ⟨hw.1.symm, fun _ => by rw [pk_uLs, hw.2]⟩, by rw [ht]; exact hP9, by first | exact hD9 | (rw [hAe]; exact hD9)⟩, hS.F ht⟩) hS.2.2 dL_tree_16

set_option maxHeartbeats 400000 in
set_option maxRecDepth 100000 in
theorem w_path (l : Launch) (hl0 : l.stackTraces = false) (G : va_G) (y : Nat → ClassId) (sz : Nat) (h0 : Nat) (tp : Nat) (ps : Nat) (sp : Nat) (tk : Nat) (dr : Nat) (pr : Nat) (da : Nat) (nw : Nat) (im : Nat) (ac : Nat) (ke : Nat) (si : Nat) (tx : Nat) (an : Nat) (dw : Nat) (tk1 : Nat) (tk2 : Nat) (tk3 : Nat) (tk4 : Nat) (sp1 : Nat) (sp2 : Nat) (sp3 : Nat) (sp4 : Nat) (sp5 : Nat) (sp6 : Nat) (sp7 : Nat) (sp8 : Nat) (sp9 : Nat) (sp10 : Nat) (i : Int32) (j : Int32) (ou : Nat) : Met l yL_path wsL_path ({ frames := 7, cells := 11, slots := 614, locals := 124 }) (nq_PX G y sz [.ref h0, .int i, .int j, .ref ou] [(h0, .inr (10, [.ref tp, .int 0, .int (-1), .ref ps, .ref sp, .ref tk, .ref dr, .ref pr, .ref da, .ref nw, .ref im, .int 0, .ref ac, .ref ke, .ref si, .ref tx, .ref an, .ref dw])), (pr, .inr (5, [.ref tk])), (tk, .inr (8, [.ref tk1, .ref tk2, .ref tk3, .ref tk4, .int 0, .int 0, .int 0, .int 0, .int (-1)])), (tk1, .inl (y 0, 401, .inl (fun _ => 0))), (tk2, .inl (y 0, 401, .inl (fun _ => 0))), (tk3, .inl (y 0, 401, .inl (fun _ => 0))), (tk4, .inl (y 0, 401, .inl (fun _ => 0))), (tp, .inl (y 0, 400, .inl (fun _ => 0))), (sp, .inr (4, [.ref sp1, .ref sp2, .ref sp3, .int 0, .ref sp4, .int 0, .ref sp5, .ref sp6, .int 0, .ref sp7, .ref sp8, .ref sp9, .ref sp10, .int 0])), (ps, .inl (y 3, 4, .inr (.inr (.inr (.inr (fun _ => none)))))), (ou, .inl (y 1, 1, .inr (.inl (fun _ => 0))))]) (va_Qi (fun (r : Int32) (g9 : Nat → Int64) => r = (sp_path i j).1 ∧ (r = 0 → g9 0 = (sp_path i j).2.toInt64)) (fun (g9 : Nat → Int64) t9 => va_P G vwCl [(ou, .inl (y 1, 1, .inr (.inl g9)))] t9.heap ∧ va_D (va_A [(h0, .inr (10, [.ref tp, .int 0, .int (-1), .ref ps, .ref sp, .ref tk, .ref dr, .ref pr, .ref da, .ref nw, .ref im, .int 0, .ref ac, .ref ke, .ref si, .ref tx, .ref an, .ref dw])), (pr, .inr (5, [.ref tk])), (tk, .inr (8, [.ref tk1, .ref tk2, .ref tk3, .ref tk4, .int 0, .int 0, .int 0, .int 0, .int (-1)])), (tk1, .inl (y 0, 401, .inl (fun _ => 0))), (tk2, .inl (y 0, 401, .inl (fun _ => 0))), (tk3, .inl (y 0, 401, .inl (fun _ => 0))), (tk4, .inl (y 0, 401, .inl (fun _ => 0))), (tp, .inl (y 0, 400, .inl (fun _ => 0))), (sp, .inr (4, [.ref sp1, .ref sp2, .ref sp3, .int 0, .ref sp4, .int 0, .ref sp5, .ref sp6, .int 0, .ref sp7, .ref sp8, .ref sp9, .ref sp10, .int 0])), (ps, .inl (y 3, 4, .inr (.inr (.inr (.inr (fun _ => none)))))), (ou, .inl (y 1, 1, .inr (.inl (fun _ => 0))))] sz) [(ou, .inl (y 1, 1, .inr (.inl g9)))]) (va_A [(h0, .inr (10, [.ref tp, .int 0, .int (-1), .ref ps, .ref sp, .ref tk, .ref dr, .ref pr, .ref da, .ref nw, .ref im, .int 0, .ref ac, .ref ke, .ref si, .ref tx, .ref an, .ref dw])), (pr, .inr (5, [.ref tk])), (tk, .inr (8, [.ref tk1, .ref tk2, .ref tk3, .ref tk4, .int 0, .int 0, .int 0, .int 0, .int (-1)])), (tk1, .inl (y 0, 401, .inl (fun _ => 0))), (tk2, .inl (y 0, 401, .inl (fun _ => 0))), (tk3, .inl (y 0, 401, .inl (fun _ => 0))), (tk4, .inl (y 0, 401, .inl (fun _ => 0))), (tp, .inl (y 0, 400, .inl (fun _ => 0))), (sp, .inr (4, [.ref sp1, .ref sp2, .ref sp3, .int 0, .ref sp4, .int 0, .ref sp5, .ref sp6, .int 0, .ref sp7, .ref sp8, .ref sp9, .ref sp10, .int 0])), (ps, .inl (y 3, 4, .inr (.inr (.inr (.inr (fun _ => none)))))), (ou, .inl (y 1, 1, .inr (.inl (fun _ => 0))))] sz)) 11 614 (va_A [(h0, .inr (10, [.ref tp, .int 0, .int (-1), .ref ps, .ref sp, .ref tk, .ref dr, .ref pr, .ref da, .ref nw, .ref im, .int 0, .ref ac, .ref ke, .ref si, .ref tx, .ref an, .ref dw])), (pr, .inr (5, [.ref tk])), (tk, .inr (8, [.ref tk1, .ref tk2, .ref tk3, .ref tk4, .int 0, .int 0, .int 0, .int 0, .int (-1)])), (tk1, .inl (y 0, 401, .inl (fun _ => 0))), (tk2, .inl (y 0, 401, .inl (fun _ => 0))), (tk3, .inl (y 0, 401, .inl (fun _ => 0))), (tk4, .inl (y 0, 401, .inl (fun _ => 0))), (tp, .inl (y 0, 400, .inl (fun _ => 0))), (sp, .inr (4, [.ref sp1, .ref sp2, .ref sp3, .int 0, .ref sp4, .int 0, .ref sp5, .ref sp6, .int 0, .ref sp7, .ref sp8, .ref sp9, .ref sp10, .int 0])), (ps, .inl (y 3, 4, .inr (.inr (.inr (.inr (fun _ => none)))))), (ou, .inl (y 1, 1, .inr (.inl (fun _ => 0))))] sz) := by
  refine va_MetW (cc := cL_path) (maxL := 5) (ret := (some .int)) (hh := [(0, 10, 13, 19), (0, 10, 17, 13)]) (by decide) rfl ?_
  intro p e s m args below meth c s₁ B hml hv
  obtain ⟨rfl, hsz, hP, hK, hD0, hXs⟩ := hv
  have hx := B.exec
  have hb := B.bytes
  have hr := B.returns
  have hts := atoms_spec (ws := wsL_path) B.pre
  have hown : s.vm.findClass RL = some m.cls := findClass_of_methodNamed B.named
  have hlocks := B.notSynchronized
  have htb := vx_table (x := objectInit) (hh := [(0, 10, 13, 19), (0, 10, 17, 13)]) B (hts _ List.mem_cons_self)
  subst hsz
  have hD := hD0.self (sz := s.heap.size)
  generalize hAe : va_A [(h0, .inr (10, [.ref tp, .int 0, .int (-1), .ref ps, .ref sp, .ref tk, .ref dr, .ref pr, .ref da, .ref nw, .ref im, .int 0, .ref ac, .ref ke, .ref si, .ref tx, .ref an, .ref dw])), (pr, .inr (5, [.ref tk])), (tk, .inr (8, [.ref tk1, .ref tk2, .ref tk3, .ref tk4, .int 0, .int 0, .int 0, .int 0, .int (-1)])), (tk1, .inl (y 0, 401, .inl (fun _ => 0))), (tk2, .inl (y 0, 401, .inl (fun _ => 0))), (tk3, .inl (y 0, 401, .inl (fun _ => 0))), (tk4, .inl (y 0, 401, .inl (fun _ => 0))), (tp, .inl (y 0, 400, .inl (fun _ => 0))), (sp, .inr (4, [.ref sp1, .ref sp2, .ref sp3, .int 0, .ref sp4, .int 0, .ref sp5, .ref sp6, .int 0, .ref sp7, .ref sp8, .ref sp9, .ref sp10, .int 0])), (ps, .inl (y 3, 4, .inr (.inr (.inr (.inr (fun _ => none)))))), (ou, .inl (y 1, 1, .inr (.inl (fun _ => 0))))] s.heap.size = A at hD hXs ⊢
  have hA : ∀ q : Nat, s.heap.size ≤ q → A q := fun q h => by rw [← hAe]; exact Or.inr h
  have hS : va_S A s.heap s.heap [] := va_S.rf
  have hP : va_P G vwCl [(h0, .inr (10, [.ref tp, .int 0, .int (-1), .ref ps, .ref sp, .ref tk, .ref dr, .ref pr, .ref da, .ref nw, .ref im, .int 0, .ref ac, .ref ke, .ref si, .ref tx, .ref an, .ref dw])), (pr, .inr (5, [.ref tk])), (tk, .inr (8, [.ref tk1, .ref tk2, .ref tk3, .ref tk4, .int 0, .int 0, .int 0, .int 0, .int (-1)])), (tk1, .inl (y 0, 401, .inl (fun _ => 0))), (tk2, .inl (y 0, 401, .inl (fun _ => 0))), (tk3, .inl (y 0, 401, .inl (fun _ => 0))), (tk4, .inl (y 0, 401, .inl (fun _ => 0))), (tp, .inl (y 0, 400, .inl (fun _ => 0))), (sp, .inr (4, [.ref sp1, .ref sp2, .ref sp3, .int 0, .ref sp4, .int 0, .ref sp5, .ref sp6, .int 0, .ref sp7, .ref sp8, .ref sp9, .ref sp10, .int 0])), (ps, .inl (y 3, 4, .inr (.inr (.inr (.inr (fun _ => none)))))), (ou, .inl (y 1, 1, .inr (.inl (fun _ => 0))))] s.heap := hP
  have hl := lv_entry ([.ref h0, .int i, .int j, .ref ou]) (n := 5) (Nat.le_of_ble_eq_true rfl)
  rw [lg_entry_eq]
  generalize (lg_sl ([.ref h0, .int i, .int j, .ref ou]) ++ List.replicate (5 - (lg_sl ([.ref h0, .int i, .int j, .ref ou])).length) Slot.unset).toArray = ls at hl ⊢
  have hl : lv_has ls 5 [(0, .ref h0), (1, .int i), (2, .int j), (3, .ref ou)] := hl
  refine lv_aload_n hx hb dL_path_0 rfl (lv_at hl 3 rfl) ?_
  refine lv_iconst (v := 0) hx hb dL_path_1 (by decide) ?_
  refine lv_aload_n hx hb dL_path_2 rfl (lv_at hl 0 rfl) ?_
  refine lv_iload_n hx hb dL_path_3 rfl (lv_at hl 1 rfl) ?_
  refine lv_iload_n hx hb dL_path_4 rfl (lv_at hl 2 rfl) ?_
  refine nq_xi (wr := [(ou, .inl (y 1, 1, .inr (.inl (fun _ => 0))))]) (vx_runV (As := [.int i, .int j]) (rest := [.int 0, .ref ou]) ⟨hx, hb, hml, hown, hts⟩ (x_path l hl0 G y s.heap.size h0 tp ps sp tk dr pr da nw im ac ke si tx an dw tk1 tk2 tk3 tk4 sp1 sp2 sp3 sp4 sp5 sp6 sp7 sp8 sp9 sp10 i j) (cwV 2 hts gL_path_X10_path rfl rfl rfl (by decide +kernel) ⟨Nat.le_of_ble_eq_true rfl, Nat.le_of_ble_eq_true rfl⟩) (nq_PXV hK hP hD hS hA hXs [0, 1, 2, 3, 4, 5, 6, 7, 8, 9] rfl rfl 0 rfl rfl) rfl rfl hl.1 rfl (lv_room (Nat.le_of_ble_eq_true rfl)) dL_path_5 ⟨Nat.le_of_ble_eq_true rfl, Nat.le_of_ble_eq_true rfl⟩) hP hD hS hA [0, 1, 2, 3, 4, 5, 6, 7, 8, 9] [10] rfl rfl (by decide) (by decide) (fun E ce q9 H locs hB hS hP hD h1 h2 h3 => ?_) (fun r u H locs hw hP hD hS => ?_)
  · rcases hB with ⟨rfl, hc⟩ | ⟨rfl, hc⟩
    · have hP : va_P G vwCl [(ou, .inl (y 1, 1, .inr (.inl (fun _ => 0))))] H := hP
      have hD : va_D A [(ou, .inl (y 1, 1, .inr (.inl (fun _ => 0))))] := hD
      refine vx_catch (name := nq_NSE) hown [] (⟨0, 10, 13, 19⟩ : ExceptionTableEntry) [(⟨0, 10, 17, 13⟩ : ExceptionTableEntry)] htb (fun z hz => absurd hz (by simp)) (by decide) (by decide) (hts (.classLink RL 19 nq_NSE) (by decide +kernel)) (hXs.2.2.2.1.use) h1 h2 h3 ?_
      refine lv_astore (lv' := [(4, .ref q9), (0, .ref h0), (1, .int i), (2, .int j), (3, .ref ou)]) hx hb dL_path_13 hl (by decide) rfl (fun ls hl => ?_)
      refine lv_iconst (v := 1) hx hb dL_path_15 (by decide) ?_
      have hP9 := hP.sub (ws' := [(ou, .inl (y 1, 1, .inr (.inl (fun _ => 0))))]) [0] rfl
      have hD9 := hD.sub (ws' := [(ou, .inl (y 1, 1, .inr (.inl (fun _ => 0))))]) [0] (by decide) rfl
      refine W.widen (k := 11) (n := 614) (Nat.le_of_ble_eq_true rfl) (Nat.le_of_ble_eq_true rfl) ?_
      exact W.iret (v := 1) hx hb hr (fun t ht hW => ⟨⟨1, (fun _ => 0), rfl, ⟨hc.symm, fun h => absurd h (by decide)⟩, by rw [ht]; exact hP9, by first | exact hD9 | (rw [hAe]; exact hD9)⟩, hS.F ht⟩) hS.2.2 dL_path_16
    · have hP : va_P G vwCl [(ou, .inl (y 1, 1, .inr (.inl (fun _ => 0))))] H := hP
      have hD : va_D A [(ou, .inl (y 1, 1, .inr (.inl (fun _ => 0))))] := hD
      refine vx_catch (name := nq_IAE) hown [(⟨0, 10, 13, 19⟩ : ExceptionTableEntry)] (⟨0, 10, 17, 13⟩ : ExceptionTableEntry) [] htb (fun z hz => by rw [List.mem_singleton.mp hz]; exact Or.inr ⟨by decide, nq_NSE, hts (.classLink RL 19 nq_NSE) (by decide +kernel), hXs.2.2.2.2.2.1⟩) (by decide) (by decide) (hts (.classLink RL 13 nq_IAE) (by decide +kernel)) (hXs.2.2.2.2.1.use) h1 h2 h3 ?_
      refine lv_astore (lv' := [(4, .ref q9), (0, .ref h0), (1, .int i), (2, .int j), (3, .ref ou)]) hx hb dL_path_17 hl (by decide) rfl (fun ls hl => ?_)
      refine lv_iconst (v := 2) hx hb dL_path_19 (by decide) ?_
      have hP9 := hP.sub (ws' := [(ou, .inl (y 1, 1, .inr (.inl (fun _ => 0))))]) [0] rfl
      have hD9 := hD.sub (ws' := [(ou, .inl (y 1, 1, .inr (.inl (fun _ => 0))))]) [0] (by decide) rfl
      refine W.widen (k := 11) (n := 614) (Nat.le_of_ble_eq_true rfl) (Nat.le_of_ble_eq_true rfl) ?_
      exact W.iret (v := 2) hx hb hr (fun t ht hW => ⟨⟨2, (fun _ => 0), rfl, ⟨hc.symm, fun h => absurd h (by decide)⟩, by rw [ht]; exact hP9, by first | exact hD9 | (rw [hAe]; exact hD9)⟩, hS.F ht⟩) hS.2.2 dL_path_20
  · have hP : va_P G vwCl [(ou, .inl (y 1, 1, .inr (.inl (fun _ => 0))))] H := hP
    have hD : va_D A [(ou, .inl (y 1, 1, .inr (.inl (fun _ => 0))))] := hD
    refine lv_i2l (v := r.toInt64) hx hb dL_path_8 rfl ?_
    refine va_last hx hb hK.1 hP hD hS 0 1 rfl rfl (i := 0) (nq_in (by decide)) dL_path_9 (fun H locs hP hD hS => ?_)
    have hP : va_P G vwCl [(ou, .inl (y 1, 1, .inr (.inl (vp_updL (fun _ => 0) 0 r.toInt64))))] H := hP
    have hD : va_D A [(ou, .inl (y 1, 1, .inr (.inl (vp_updL (fun _ => 0) 0 r.toInt64))))] := hD
    refine lv_goto (tgt := 21) hx hb dL_path_10 (by decide) ?_
    refine lv_iconst (v := 0) hx hb dL_path_21 (by decide) ?_
    have hP9 := hP.sub (ws' := [(ou, .inl (y 1, 1, .inr (.inl (vp_updL (fun _ => 0) 0 r.toInt64))))]) [0] rfl
    have hD9 := hD.sub (ws' := [(ou, .inl (y 1, 1, .inr (.inl (vp_updL (fun _ => 0) 0 r.toInt64))))]) [0] (by decide) rfl
    refine W.widen (k := 11) (n := 614) (Nat.le_of_ble_eq_true rfl) (Nat.le_of_ble_eq_true rfl) ?_
    exact W.iret (v := 0) hx hb hr (fun t ht hW => ⟨⟨0, (vp_updL (fun _ => 0) 0 r.toInt64), rfl, ⟨hw.1.symm, fun _ => by rw [pk_uLs, hw.2]⟩, by rw [ht]; exact hP9, by first | exact hD9 | (rw [hAe]; exact hD9)⟩, hS.F ht⟩) hS.2.2 dL_path_22

set_option maxHeartbeats 400000 in
set_option maxRecDepth 100000 in
theorem w_count (l : Launch) (hl0 : l.stackTraces = false) (G : va_G) (y : Nat → ClassId) (sz : Nat) (h0 : Nat) (tp : Nat) (ps : Nat) (sp : Nat) (tk : Nat) (dr : Nat) (pr : Nat) (da : Nat) (nw : Nat) (im : Nat) (ac : Nat) (ke : Nat) (si : Nat) (tx : Nat) (an : Nat) (dw : Nat) (nwt : Nat) (nwb : Nat) (nwn : Nat) (nwi : Nat) (nwr : Nat) (nwtk : Nat) (nwtv : Nat) (nwte : Nat) (nwtd : Nat) (ke1 : Nat) (ke2 : Nat) (ke3 : Nat) (ke4 : Nat) (i : Int32) (ou : Nat) : Met l yL_count wsL_count ({ frames := 7, cells := 1, slots := 6, locals := 121 }) (nq_PX G y sz [.ref h0, .int i, .ref ou] [(h0, .inr (10, [.ref tp, .int 0, .int (-1), .ref ps, .ref sp, .ref tk, .ref dr, .ref pr, .ref da, .ref nw, .ref im, .int 0, .ref ac, .ref ke, .ref si, .ref tx, .ref an, .ref dw])), (nw, .inr (6, [.ref nwt, .ref nwb, .int 0, .ref nwn, .ref nwi, .int 0, .ref nwr])), (nwt, .inr (9, [.ref nwtk, .ref nwtv, .ref nwte, .ref nwtd, .int 1])), (nwtk, .inl (y 0, 60, .inl (upd (fun _ => 0) 0 3))), (nwtd, .inl (y 0, 60, .inl (upd (fun _ => 0) 0 0))), (ps, .inl (y 3, 4, .inr (.inr (.inr (.inr (fun _ => none)))))), (an, .inl (y 1, 4, .inr (.inl (fun _ => 0)))), (ke, .inr (3, [.ref ke1, .ref ke2, .ref ke3, .ref ke4, .int 0])), (nwr, .inl (y 0, 3, .inl (fun _ => 0))), (ou, .inl (y 1, 1, .inr (.inl (fun _ => 0))))]) (va_Qi (fun (r : Int32) (g9 : Nat → Int64) => r = (sp_count i).1 ∧ (r = 0 → g9 0 = (sp_count i).2.toInt64)) (fun (g9 : Nat → Int64) t9 => va_P G vwCl [(ou, .inl (y 1, 1, .inr (.inl g9)))] t9.heap ∧ va_D (va_A [(h0, .inr (10, [.ref tp, .int 0, .int (-1), .ref ps, .ref sp, .ref tk, .ref dr, .ref pr, .ref da, .ref nw, .ref im, .int 0, .ref ac, .ref ke, .ref si, .ref tx, .ref an, .ref dw])), (nw, .inr (6, [.ref nwt, .ref nwb, .int 0, .ref nwn, .ref nwi, .int 0, .ref nwr])), (nwt, .inr (9, [.ref nwtk, .ref nwtv, .ref nwte, .ref nwtd, .int 1])), (nwtk, .inl (y 0, 60, .inl (upd (fun _ => 0) 0 3))), (nwtd, .inl (y 0, 60, .inl (upd (fun _ => 0) 0 0))), (ps, .inl (y 3, 4, .inr (.inr (.inr (.inr (fun _ => none)))))), (an, .inl (y 1, 4, .inr (.inl (fun _ => 0)))), (ke, .inr (3, [.ref ke1, .ref ke2, .ref ke3, .ref ke4, .int 0])), (nwr, .inl (y 0, 3, .inl (fun _ => 0))), (ou, .inl (y 1, 1, .inr (.inl (fun _ => 0))))] sz) [(ou, .inl (y 1, 1, .inr (.inl g9)))]) (va_A [(h0, .inr (10, [.ref tp, .int 0, .int (-1), .ref ps, .ref sp, .ref tk, .ref dr, .ref pr, .ref da, .ref nw, .ref im, .int 0, .ref ac, .ref ke, .ref si, .ref tx, .ref an, .ref dw])), (nw, .inr (6, [.ref nwt, .ref nwb, .int 0, .ref nwn, .ref nwi, .int 0, .ref nwr])), (nwt, .inr (9, [.ref nwtk, .ref nwtv, .ref nwte, .ref nwtd, .int 1])), (nwtk, .inl (y 0, 60, .inl (upd (fun _ => 0) 0 3))), (nwtd, .inl (y 0, 60, .inl (upd (fun _ => 0) 0 0))), (ps, .inl (y 3, 4, .inr (.inr (.inr (.inr (fun _ => none)))))), (an, .inl (y 1, 4, .inr (.inl (fun _ => 0)))), (ke, .inr (3, [.ref ke1, .ref ke2, .ref ke3, .ref ke4, .int 0])), (nwr, .inl (y 0, 3, .inl (fun _ => 0))), (ou, .inl (y 1, 1, .inr (.inl (fun _ => 0))))] sz)) 1 6 (va_A [(h0, .inr (10, [.ref tp, .int 0, .int (-1), .ref ps, .ref sp, .ref tk, .ref dr, .ref pr, .ref da, .ref nw, .ref im, .int 0, .ref ac, .ref ke, .ref si, .ref tx, .ref an, .ref dw])), (nw, .inr (6, [.ref nwt, .ref nwb, .int 0, .ref nwn, .ref nwi, .int 0, .ref nwr])), (nwt, .inr (9, [.ref nwtk, .ref nwtv, .ref nwte, .ref nwtd, .int 1])), (nwtk, .inl (y 0, 60, .inl (upd (fun _ => 0) 0 3))), (nwtd, .inl (y 0, 60, .inl (upd (fun _ => 0) 0 0))), (ps, .inl (y 3, 4, .inr (.inr (.inr (.inr (fun _ => none)))))), (an, .inl (y 1, 4, .inr (.inl (fun _ => 0)))), (ke, .inr (3, [.ref ke1, .ref ke2, .ref ke3, .ref ke4, .int 0])), (nwr, .inl (y 0, 3, .inl (fun _ => 0))), (ou, .inl (y 1, 1, .inr (.inl (fun _ => 0))))] sz) := by
  refine va_MetW (cc := cL_count) (maxL := 4) (ret := (some .int)) (hh := [(0, 9, 12, 19)]) (by decide) rfl ?_
  intro p e s m args below meth c s₁ B hml hv
  obtain ⟨rfl, hsz, hP, hK, hD0, hXs⟩ := hv
  have hx := B.exec
  have hb := B.bytes
  have hr := B.returns
  have hts := atoms_spec (ws := wsL_count) B.pre
  have hown : s.vm.findClass RL = some m.cls := findClass_of_methodNamed B.named
  have hlocks := B.notSynchronized
  have htb := vx_table (x := objectInit) (hh := [(0, 9, 12, 19)]) B (hts _ List.mem_cons_self)
  subst hsz
  have hD := hD0.self (sz := s.heap.size)
  generalize hAe : va_A [(h0, .inr (10, [.ref tp, .int 0, .int (-1), .ref ps, .ref sp, .ref tk, .ref dr, .ref pr, .ref da, .ref nw, .ref im, .int 0, .ref ac, .ref ke, .ref si, .ref tx, .ref an, .ref dw])), (nw, .inr (6, [.ref nwt, .ref nwb, .int 0, .ref nwn, .ref nwi, .int 0, .ref nwr])), (nwt, .inr (9, [.ref nwtk, .ref nwtv, .ref nwte, .ref nwtd, .int 1])), (nwtk, .inl (y 0, 60, .inl (upd (fun _ => 0) 0 3))), (nwtd, .inl (y 0, 60, .inl (upd (fun _ => 0) 0 0))), (ps, .inl (y 3, 4, .inr (.inr (.inr (.inr (fun _ => none)))))), (an, .inl (y 1, 4, .inr (.inl (fun _ => 0)))), (ke, .inr (3, [.ref ke1, .ref ke2, .ref ke3, .ref ke4, .int 0])), (nwr, .inl (y 0, 3, .inl (fun _ => 0))), (ou, .inl (y 1, 1, .inr (.inl (fun _ => 0))))] s.heap.size = A at hD hXs ⊢
  have hA : ∀ q : Nat, s.heap.size ≤ q → A q := fun q h => by rw [← hAe]; exact Or.inr h
  have hS : va_S A s.heap s.heap [] := va_S.rf
  have hP : va_P G vwCl [(h0, .inr (10, [.ref tp, .int 0, .int (-1), .ref ps, .ref sp, .ref tk, .ref dr, .ref pr, .ref da, .ref nw, .ref im, .int 0, .ref ac, .ref ke, .ref si, .ref tx, .ref an, .ref dw])), (nw, .inr (6, [.ref nwt, .ref nwb, .int 0, .ref nwn, .ref nwi, .int 0, .ref nwr])), (nwt, .inr (9, [.ref nwtk, .ref nwtv, .ref nwte, .ref nwtd, .int 1])), (nwtk, .inl (y 0, 60, .inl (upd (fun _ => 0) 0 3))), (nwtd, .inl (y 0, 60, .inl (upd (fun _ => 0) 0 0))), (ps, .inl (y 3, 4, .inr (.inr (.inr (.inr (fun _ => none)))))), (an, .inl (y 1, 4, .inr (.inl (fun _ => 0)))), (ke, .inr (3, [.ref ke1, .ref ke2, .ref ke3, .ref ke4, .int 0])), (nwr, .inl (y 0, 3, .inl (fun _ => 0))), (ou, .inl (y 1, 1, .inr (.inl (fun _ => 0))))] s.heap := hP
  have hl := lv_entry ([.ref h0, .int i, .ref ou]) (n := 4) (Nat.le_of_ble_eq_true rfl)
  rw [lg_entry_eq]
  generalize (lg_sl ([.ref h0, .int i, .ref ou]) ++ List.replicate (4 - (lg_sl ([.ref h0, .int i, .ref ou])).length) Slot.unset).toArray = ls at hl ⊢
  have hl : lv_has ls 4 [(0, .ref h0), (1, .int i), (2, .ref ou)] := hl
  refine lv_aload_n hx hb dL_count_0 rfl (lv_at hl 2 rfl) ?_
  refine lv_iconst (v := 0) hx hb dL_count_1 (by decide) ?_
  refine lv_aload_n hx hb dL_count_2 rfl (lv_at hl 0 rfl) ?_
  refine lv_iload_n hx hb dL_count_3 rfl (lv_at hl 1 rfl) ?_
  refine nq_xi (wr := [(ou, .inl (y 1, 1, .inr (.inl (fun _ => 0))))]) (vx_runV (As := [.int i]) (rest := [.int 0, .ref ou]) ⟨hx, hb, hml, hown, hts⟩ (x_count l hl0 G y s.heap.size h0 tp ps sp tk dr pr da nw im ac ke si tx an dw nwt nwb nwn nwi nwr nwtk nwtv nwte nwtd ke1 ke2 ke3 ke4 i) (cwV 1 hts gL_count_X10_count rfl rfl rfl (by decide +kernel) ⟨Nat.le_of_ble_eq_true rfl, Nat.le_of_ble_eq_true rfl⟩) (nq_PXV hK hP hD hS hA hXs [0, 1, 2, 3, 4, 5, 6, 7, 8] rfl rfl 0 rfl rfl) rfl rfl hl.1 rfl (lv_room (Nat.le_of_ble_eq_true rfl)) dL_count_4 ⟨Nat.le_of_ble_eq_true rfl, Nat.le_of_ble_eq_true rfl⟩) hP hD hS hA [0, 1, 2, 3, 4, 5, 6, 7, 8] [9] rfl rfl (by decide) (by decide) (fun E ce q9 H locs hB hS hP hD h1 h2 h3 => ?_) (fun r u H locs hw hP hD hS => ?_)
  · obtain ⟨rfl, hc⟩ := hB
    have hP : va_P G vwCl [(ou, .inl (y 1, 1, .inr (.inl (fun _ => 0))))] H := hP
    have hD : va_D A [(ou, .inl (y 1, 1, .inr (.inl (fun _ => 0))))] := hD
    refine vx_catch (name := nq_NSE) hown [] (⟨0, 9, 12, 19⟩ : ExceptionTableEntry) [] htb (fun z hz => absurd hz (by simp)) (by decide) (by decide) (hts (.classLink RL 19 nq_NSE) (by decide +kernel)) (hXs.2.2.2.1.use) h1 h2 h3 ?_
    refine lv_astore_n (lv' := [(3, .ref q9), (0, .ref h0), (1, .int i), (2, .ref ou)]) hx hb dL_count_12 rfl hl (by decide) rfl (fun ls hl => ?_)
    refine lv_iconst (v := 1) hx hb dL_count_13 (by decide) ?_
    have hP9 := hP.sub (ws' := [(ou, .inl (y 1, 1, .inr (.inl (fun _ => 0))))]) [0] rfl
    have hD9 := hD.sub (ws' := [(ou, .inl (y 1, 1, .inr (.inl (fun _ => 0))))]) [0] (by decide) rfl
    refine W.widen (k := 1) (n := 6) (Nat.le_of_ble_eq_true rfl) (Nat.le_of_ble_eq_true rfl) ?_
    exact W.iret (v := 1) hx hb hr (fun t ht hW => ⟨⟨1, (fun _ => 0), rfl, ⟨hc.symm, fun h => absurd h (by decide)⟩, by rw [ht]; exact hP9, by first | exact hD9 | (rw [hAe]; exact hD9)⟩, hS.F ht⟩) hS.2.2 dL_count_14
  · have hP : va_P G vwCl [(ou, .inl (y 1, 1, .inr (.inl (fun _ => 0))))] H := hP
    have hD : va_D A [(ou, .inl (y 1, 1, .inr (.inl (fun _ => 0))))] := hD
    refine lv_i2l (v := r.toInt64) hx hb dL_count_7 rfl ?_
    refine va_last hx hb hK.1 hP hD hS 0 1 rfl rfl (i := 0) (nq_in (by decide)) dL_count_8 (fun H locs hP hD hS => ?_)
    have hP : va_P G vwCl [(ou, .inl (y 1, 1, .inr (.inl (vp_updL (fun _ => 0) 0 r.toInt64))))] H := hP
    have hD : va_D A [(ou, .inl (y 1, 1, .inr (.inl (vp_updL (fun _ => 0) 0 r.toInt64))))] := hD
    refine lv_goto (tgt := 15) hx hb dL_count_9 (by decide) ?_
    refine lv_iconst (v := 0) hx hb dL_count_15 (by decide) ?_
    have hP9 := hP.sub (ws' := [(ou, .inl (y 1, 1, .inr (.inl (vp_updL (fun _ => 0) 0 r.toInt64))))]) [0] rfl
    have hD9 := hD.sub (ws' := [(ou, .inl (y 1, 1, .inr (.inl (vp_updL (fun _ => 0) 0 r.toInt64))))]) [0] (by decide) rfl
    refine W.widen (k := 1) (n := 6) (Nat.le_of_ble_eq_true rfl) (Nat.le_of_ble_eq_true rfl) ?_
    exact W.iret (v := 0) hx hb hr (fun t ht hW => ⟨⟨0, (vp_updL (fun _ => 0) 0 r.toInt64), rfl, ⟨hw.1.symm, fun _ => by rw [pk_uLs, hw.2]⟩, by rw [ht]; exact hP9, by first | exact hD9 | (rw [hAe]; exact hD9)⟩, hS.F ht⟩) hS.2.2 dL_count_16

set_option maxHeartbeats 400000 in
set_option maxRecDepth 100000 in
theorem w_thing (l : Launch) (hl0 : l.stackTraces = false) (G : va_G) (y : Nat → ClassId) (sz : Nat) (h0 : Nat) (tp : Nat) (ps : Nat) (sp : Nat) (tk : Nat) (dr : Nat) (pr : Nat) (da : Nat) (nw : Nat) (im : Nat) (ac : Nat) (ke : Nat) (si : Nat) (tx : Nat) (an : Nat) (dw : Nat) (nwt : Nat) (nwb : Nat) (nwn : Nat) (nwi : Nat) (nwr : Nat) (nwtk : Nat) (nwtv : Nat) (nwte : Nat) (nwtd : Nat) (i : Int32) (j : Int32) (ou : Nat) : Met l yL_thing wsL_thing ({ frames := 8, cells := 2, slots := 12, locals := 143 }) (nq_PX G y sz [.ref h0, .int i, .int j, .ref ou] [(h0, .inr (10, [.ref tp, .int 0, .int (-1), .ref ps, .ref sp, .ref tk, .ref dr, .ref pr, .ref da, .ref nw, .ref im, .int 0, .ref ac, .ref ke, .ref si, .ref tx, .ref an, .ref dw])), (nw, .inr (6, [.ref nwt, .ref nwb, .int 0, .ref nwn, .ref nwi, .int 0, .ref nwr])), (nwt, .inr (9, [.ref nwtk, .ref nwtv, .ref nwte, .ref nwtd, .int 1])), (nwtk, .inl (y 0, 60, .inl (upd (fun _ => 0) 0 3))), (nwtd, .inl (y 0, 60, .inl (upd (fun _ => 0) 0 0))), (nwte, .inl (y 0, 60, .inl (upd (fun _ => 0) 0 0))), (ps, .inl (y 3, 4, .inr (.inr (.inr (.inr (fun _ => none)))))), (an, .inl (y 1, 4, .inr (.inl (fun _ => 0)))), (ou, .inl (y 1, 1, .inr (.inl (fun _ => 0))))]) (va_Qi (fun (r : Int32) (g9 : Nat → Int64) => r = (sp_thing i j).1 ∧ (r = 0 → g9 0 = (sp_thing i j).2.toInt64)) (fun (g9 : Nat → Int64) t9 => va_P G vwCl [(ou, .inl (y 1, 1, .inr (.inl g9)))] t9.heap ∧ va_D (va_A [(h0, .inr (10, [.ref tp, .int 0, .int (-1), .ref ps, .ref sp, .ref tk, .ref dr, .ref pr, .ref da, .ref nw, .ref im, .int 0, .ref ac, .ref ke, .ref si, .ref tx, .ref an, .ref dw])), (nw, .inr (6, [.ref nwt, .ref nwb, .int 0, .ref nwn, .ref nwi, .int 0, .ref nwr])), (nwt, .inr (9, [.ref nwtk, .ref nwtv, .ref nwte, .ref nwtd, .int 1])), (nwtk, .inl (y 0, 60, .inl (upd (fun _ => 0) 0 3))), (nwtd, .inl (y 0, 60, .inl (upd (fun _ => 0) 0 0))), (nwte, .inl (y 0, 60, .inl (upd (fun _ => 0) 0 0))), (ps, .inl (y 3, 4, .inr (.inr (.inr (.inr (fun _ => none)))))), (an, .inl (y 1, 4, .inr (.inl (fun _ => 0)))), (ou, .inl (y 1, 1, .inr (.inl (fun _ => 0))))] sz) [(ou, .inl (y 1, 1, .inr (.inl g9)))]) (va_A [(h0, .inr (10, [.ref tp, .int 0, .int (-1), .ref ps, .ref sp, .ref tk, .ref dr, .ref pr, .ref da, .ref nw, .ref im, .int 0, .ref ac, .ref ke, .ref si, .ref tx, .ref an, .ref dw])), (nw, .inr (6, [.ref nwt, .ref nwb, .int 0, .ref nwn, .ref nwi, .int 0, .ref nwr])), (nwt, .inr (9, [.ref nwtk, .ref nwtv, .ref nwte, .ref nwtd, .int 1])), (nwtk, .inl (y 0, 60, .inl (upd (fun _ => 0) 0 3))), (nwtd, .inl (y 0, 60, .inl (upd (fun _ => 0) 0 0))), (nwte, .inl (y 0, 60, .inl (upd (fun _ => 0) 0 0))), (ps, .inl (y 3, 4, .inr (.inr (.inr (.inr (fun _ => none)))))), (an, .inl (y 1, 4, .inr (.inl (fun _ => 0)))), (ou, .inl (y 1, 1, .inr (.inl (fun _ => 0))))] sz)) 2 12 (va_A [(h0, .inr (10, [.ref tp, .int 0, .int (-1), .ref ps, .ref sp, .ref tk, .ref dr, .ref pr, .ref da, .ref nw, .ref im, .int 0, .ref ac, .ref ke, .ref si, .ref tx, .ref an, .ref dw])), (nw, .inr (6, [.ref nwt, .ref nwb, .int 0, .ref nwn, .ref nwi, .int 0, .ref nwr])), (nwt, .inr (9, [.ref nwtk, .ref nwtv, .ref nwte, .ref nwtd, .int 1])), (nwtk, .inl (y 0, 60, .inl (upd (fun _ => 0) 0 3))), (nwtd, .inl (y 0, 60, .inl (upd (fun _ => 0) 0 0))), (nwte, .inl (y 0, 60, .inl (upd (fun _ => 0) 0 0))), (ps, .inl (y 3, 4, .inr (.inr (.inr (.inr (fun _ => none)))))), (an, .inl (y 1, 4, .inr (.inl (fun _ => 0)))), (ou, .inl (y 1, 1, .inr (.inl (fun _ => 0))))] sz) := by
  refine va_MetW (cc := cL_thing) (maxL := 5) (ret := (some .int)) (hh := [(0, 10, 13, 19)]) (by decide) rfl ?_
  intro p e s m args below meth c s₁ B hml hv
  obtain ⟨rfl, hsz, hP, hK, hD0, hXs⟩ := hv
  have hx := B.exec
  have hb := B.bytes
  have hr := B.returns
  have hts := atoms_spec (ws := wsL_thing) B.pre
  have hown : s.vm.findClass RL = some m.cls := findClass_of_methodNamed B.named
  have hlocks := B.notSynchronized
  have htb := vx_table (x := objectInit) (hh := [(0, 10, 13, 19)]) B (hts _ List.mem_cons_self)
  subst hsz
  have hD := hD0.self (sz := s.heap.size)
  generalize hAe : va_A [(h0, .inr (10, [.ref tp, .int 0, .int (-1), .ref ps, .ref sp, .ref tk, .ref dr, .ref pr, .ref da, .ref nw, .ref im, .int 0, .ref ac, .ref ke, .ref si, .ref tx, .ref an, .ref dw])), (nw, .inr (6, [.ref nwt, .ref nwb, .int 0, .ref nwn, .ref nwi, .int 0, .ref nwr])), (nwt, .inr (9, [.ref nwtk, .ref nwtv, .ref nwte, .ref nwtd, .int 1])), (nwtk, .inl (y 0, 60, .inl (upd (fun _ => 0) 0 3))), (nwtd, .inl (y 0, 60, .inl (upd (fun _ => 0) 0 0))), (nwte, .inl (y 0, 60, .inl (upd (fun _ => 0) 0 0))), (ps, .inl (y 3, 4, .inr (.inr (.inr (.inr (fun _ => none)))))), (an, .inl (y 1, 4, .inr (.inl (fun _ => 0)))), (ou, .inl (y 1, 1, .inr (.inl (fun _ => 0))))] s.heap.size = A at hD hXs ⊢
  have hA : ∀ q : Nat, s.heap.size ≤ q → A q := fun q h => by rw [← hAe]; exact Or.inr h
  have hS : va_S A s.heap s.heap [] := va_S.rf
  have hP : va_P G vwCl [(h0, .inr (10, [.ref tp, .int 0, .int (-1), .ref ps, .ref sp, .ref tk, .ref dr, .ref pr, .ref da, .ref nw, .ref im, .int 0, .ref ac, .ref ke, .ref si, .ref tx, .ref an, .ref dw])), (nw, .inr (6, [.ref nwt, .ref nwb, .int 0, .ref nwn, .ref nwi, .int 0, .ref nwr])), (nwt, .inr (9, [.ref nwtk, .ref nwtv, .ref nwte, .ref nwtd, .int 1])), (nwtk, .inl (y 0, 60, .inl (upd (fun _ => 0) 0 3))), (nwtd, .inl (y 0, 60, .inl (upd (fun _ => 0) 0 0))), (nwte, .inl (y 0, 60, .inl (upd (fun _ => 0) 0 0))), (ps, .inl (y 3, 4, .inr (.inr (.inr (.inr (fun _ => none)))))), (an, .inl (y 1, 4, .inr (.inl (fun _ => 0)))), (ou, .inl (y 1, 1, .inr (.inl (fun _ => 0))))] s.heap := hP
  have hl := lv_entry ([.ref h0, .int i, .int j, .ref ou]) (n := 5) (Nat.le_of_ble_eq_true rfl)
  rw [lg_entry_eq]
  generalize (lg_sl ([.ref h0, .int i, .int j, .ref ou]) ++ List.replicate (5 - (lg_sl ([.ref h0, .int i, .int j, .ref ou])).length) Slot.unset).toArray = ls at hl ⊢
  have hl : lv_has ls 5 [(0, .ref h0), (1, .int i), (2, .int j), (3, .ref ou)] := hl
  refine lv_aload_n hx hb dL_thing_0 rfl (lv_at hl 3 rfl) ?_
  refine lv_iconst (v := 0) hx hb dL_thing_1 (by decide) ?_
  refine lv_aload_n hx hb dL_thing_2 rfl (lv_at hl 0 rfl) ?_
  refine lv_iload_n hx hb dL_thing_3 rfl (lv_at hl 1 rfl) ?_
  refine lv_iload_n hx hb dL_thing_4 rfl (lv_at hl 2 rfl) ?_
  refine nq_xi (wr := [(ou, .inl (y 1, 1, .inr (.inl (fun _ => 0))))]) (vx_runV (As := [.int i, .int j]) (rest := [.int 0, .ref ou]) ⟨hx, hb, hml, hown, hts⟩ (x_thing l hl0 G y s.heap.size h0 tp ps sp tk dr pr da nw im ac ke si tx an dw nwt nwb nwn nwi nwr nwtk nwtv nwte nwtd i j) (cwV 2 hts gL_thing_X10_thing rfl rfl rfl (by decide +kernel) ⟨Nat.le_of_ble_eq_true rfl, Nat.le_of_ble_eq_true rfl⟩) (nq_PXV hK hP hD hS hA hXs [0, 1, 2, 3, 4, 5, 6, 7] rfl rfl 0 rfl rfl) rfl rfl hl.1 rfl (lv_room (Nat.le_of_ble_eq_true rfl)) dL_thing_5 ⟨Nat.le_of_ble_eq_true rfl, Nat.le_of_ble_eq_true rfl⟩) hP hD hS hA [0, 1, 2, 3, 4, 5, 6, 7] [8] rfl rfl (by decide) (by decide) (fun E ce q9 H locs hB hS hP hD h1 h2 h3 => ?_) (fun r u H locs hw hP hD hS => ?_)
  · obtain ⟨rfl, hc⟩ := hB
    have hP : va_P G vwCl [(ou, .inl (y 1, 1, .inr (.inl (fun _ => 0))))] H := hP
    have hD : va_D A [(ou, .inl (y 1, 1, .inr (.inl (fun _ => 0))))] := hD
    refine vx_catch (name := nq_NSE) hown [] (⟨0, 10, 13, 19⟩ : ExceptionTableEntry) [] htb (fun z hz => absurd hz (by simp)) (by decide) (by decide) (hts (.classLink RL 19 nq_NSE) (by decide +kernel)) (hXs.2.2.2.1.use) h1 h2 h3 ?_
    refine lv_astore (lv' := [(4, .ref q9), (0, .ref h0), (1, .int i), (2, .int j), (3, .ref ou)]) hx hb dL_thing_13 hl (by decide) rfl (fun ls hl => ?_)
    refine lv_iconst (v := 1) hx hb dL_thing_15 (by decide) ?_
    have hP9 := hP.sub (ws' := [(ou, .inl (y 1, 1, .inr (.inl (fun _ => 0))))]) [0] rfl
    have hD9 := hD.sub (ws' := [(ou, .inl (y 1, 1, .inr (.inl (fun _ => 0))))]) [0] (by decide) rfl
    refine W.widen (k := 2) (n := 12) (Nat.le_of_ble_eq_true rfl) (Nat.le_of_ble_eq_true rfl) ?_
    exact W.iret (v := 1) hx hb hr (fun t ht hW => ⟨⟨1, (fun _ => 0), rfl, ⟨hc.symm, fun h => absurd h (by decide)⟩, by rw [ht]; exact hP9, by first | exact hD9 | (rw [hAe]; exact hD9)⟩, hS.F ht⟩) hS.2.2 dL_thing_16
  · have hP : va_P G vwCl [(ou, .inl (y 1, 1, .inr (.inl (fun _ => 0))))] H := hP
    have hD : va_D A [(ou, .inl (y 1, 1, .inr (.inl (fun _ => 0))))] := hD
    refine lv_i2l (v := r.toInt64) hx hb dL_thing_8 rfl ?_
    refine va_last hx hb hK.1 hP hD hS 0 1 rfl rfl (i := 0) (nq_in (by decide)) dL_thing_9 (fun H locs hP hD hS => ?_)
    have hP : va_P G vwCl [(ou, .inl (y 1, 1, .inr (.inl (vp_updL (fun _ => 0) 0 r.toInt64))))] H := hP
    have hD : va_D A [(ou, .inl (y 1, 1, .inr (.inl (vp_updL (fun _ => 0) 0 r.toInt64))))] := hD
    refine lv_goto (tgt := 17) hx hb dL_thing_10 (by decide) ?_
    refine lv_iconst (v := 0) hx hb dL_thing_17 (by decide) ?_
    have hP9 := hP.sub (ws' := [(ou, .inl (y 1, 1, .inr (.inl (vp_updL (fun _ => 0) 0 r.toInt64))))]) [0] rfl
    have hD9 := hD.sub (ws' := [(ou, .inl (y 1, 1, .inr (.inl (vp_updL (fun _ => 0) 0 r.toInt64))))]) [0] (by decide) rfl
    refine W.widen (k := 2) (n := 12) (Nat.le_of_ble_eq_true rfl) (Nat.le_of_ble_eq_true rfl) ?_
    exact W.iret (v := 0) hx hb hr (fun t ht hW => ⟨⟨0, (vp_updL (fun _ => 0) 0 r.toInt64), rfl, ⟨hw.1.symm, fun _ => by rw [pk_uLs, hw.2]⟩, by rw [ht]; exact hP9, by first | exact hD9 | (rw [hAe]; exact hD9)⟩, hS.F ht⟩) hS.2.2 dL_thing_18

set_option maxHeartbeats 400000 in
set_option maxRecDepth 100000 in
theorem w_within (l : Launch) (hl0 : l.stackTraces = false) (G : va_G) (y : Nat → ClassId) (sz : Nat) (h0 : Nat) (tp : Nat) (ps : Nat) (sp : Nat) (tk : Nat) (dr : Nat) (pr : Nat) (da : Nat) (nw : Nat) (im : Nat) (ac : Nat) (ke : Nat) (si : Nat) (tx : Nat) (an : Nat) (dw : Nat) (nwt : Nat) (nwb : Nat) (nwn : Nat) (nwi : Nat) (nwr : Nat) (nwtk : Nat) (nwtv : Nat) (nwte : Nat) (nwtd : Nat) (i : Int32) (j : Int32) (ou : Nat) : Met l yL_within wsL_within ({ frames := 8, cells := 2, slots := 12, locals := 144 }) (nq_PX G y sz [.ref h0, .int i, .int j, .ref ou] [(h0, .inr (10, [.ref tp, .int 0, .int (-1), .ref ps, .ref sp, .ref tk, .ref dr, .ref pr, .ref da, .ref nw, .ref im, .int 0, .ref ac, .ref ke, .ref si, .ref tx, .ref an, .ref dw])), (nw, .inr (6, [.ref nwt, .ref nwb, .int 0, .ref nwn, .ref nwi, .int 0, .ref nwr])), (nwt, .inr (9, [.ref nwtk, .ref nwtv, .ref nwte, .ref nwtd, .int 1])), (nwtk, .inl (y 0, 60, .inl (upd (fun _ => 0) 0 3))), (ou, .inl (y 1, 1, .inr (.inl (fun _ => 0))))]) (va_Qi (fun (r : Int32) (g9 : Nat → Int64) => r = (sp_within i j).1 ∧ (r = 0 → g9 0 = (sp_within i j).2.toInt64)) (fun (g9 : Nat → Int64) t9 => va_P G vwCl [(ou, .inl (y 1, 1, .inr (.inl g9)))] t9.heap ∧ va_D (va_A [(h0, .inr (10, [.ref tp, .int 0, .int (-1), .ref ps, .ref sp, .ref tk, .ref dr, .ref pr, .ref da, .ref nw, .ref im, .int 0, .ref ac, .ref ke, .ref si, .ref tx, .ref an, .ref dw])), (nw, .inr (6, [.ref nwt, .ref nwb, .int 0, .ref nwn, .ref nwi, .int 0, .ref nwr])), (nwt, .inr (9, [.ref nwtk, .ref nwtv, .ref nwte, .ref nwtd, .int 1])), (nwtk, .inl (y 0, 60, .inl (upd (fun _ => 0) 0 3))), (ou, .inl (y 1, 1, .inr (.inl (fun _ => 0))))] sz) [(ou, .inl (y 1, 1, .inr (.inl g9)))]) (va_A [(h0, .inr (10, [.ref tp, .int 0, .int (-1), .ref ps, .ref sp, .ref tk, .ref dr, .ref pr, .ref da, .ref nw, .ref im, .int 0, .ref ac, .ref ke, .ref si, .ref tx, .ref an, .ref dw])), (nw, .inr (6, [.ref nwt, .ref nwb, .int 0, .ref nwn, .ref nwi, .int 0, .ref nwr])), (nwt, .inr (9, [.ref nwtk, .ref nwtv, .ref nwte, .ref nwtd, .int 1])), (nwtk, .inl (y 0, 60, .inl (upd (fun _ => 0) 0 3))), (ou, .inl (y 1, 1, .inr (.inl (fun _ => 0))))] sz)) 2 12 (va_A [(h0, .inr (10, [.ref tp, .int 0, .int (-1), .ref ps, .ref sp, .ref tk, .ref dr, .ref pr, .ref da, .ref nw, .ref im, .int 0, .ref ac, .ref ke, .ref si, .ref tx, .ref an, .ref dw])), (nw, .inr (6, [.ref nwt, .ref nwb, .int 0, .ref nwn, .ref nwi, .int 0, .ref nwr])), (nwt, .inr (9, [.ref nwtk, .ref nwtv, .ref nwte, .ref nwtd, .int 1])), (nwtk, .inl (y 0, 60, .inl (upd (fun _ => 0) 0 3))), (ou, .inl (y 1, 1, .inr (.inl (fun _ => 0))))] sz) := by
  refine va_MetW (cc := cL_within) (maxL := 5) (ret := (some .int)) (hh := [(0, 10, 13, 19)]) (by decide) rfl ?_
  intro p e s m args below meth c s₁ B hml hv
  obtain ⟨rfl, hsz, hP, hK, hD0, hXs⟩ := hv
  have hx := B.exec
  have hb := B.bytes
  have hr := B.returns
  have hts := atoms_spec (ws := wsL_within) B.pre
  have hown : s.vm.findClass RL = some m.cls := findClass_of_methodNamed B.named
  have hlocks := B.notSynchronized
  have htb := vx_table (x := objectInit) (hh := [(0, 10, 13, 19)]) B (hts _ List.mem_cons_self)
  subst hsz
  have hD := hD0.self (sz := s.heap.size)
  generalize hAe : va_A [(h0, .inr (10, [.ref tp, .int 0, .int (-1), .ref ps, .ref sp, .ref tk, .ref dr, .ref pr, .ref da, .ref nw, .ref im, .int 0, .ref ac, .ref ke, .ref si, .ref tx, .ref an, .ref dw])), (nw, .inr (6, [.ref nwt, .ref nwb, .int 0, .ref nwn, .ref nwi, .int 0, .ref nwr])), (nwt, .inr (9, [.ref nwtk, .ref nwtv, .ref nwte, .ref nwtd, .int 1])), (nwtk, .inl (y 0, 60, .inl (upd (fun _ => 0) 0 3))), (ou, .inl (y 1, 1, .inr (.inl (fun _ => 0))))] s.heap.size = A at hD hXs ⊢
  have hA : ∀ q : Nat, s.heap.size ≤ q → A q := fun q h => by rw [← hAe]; exact Or.inr h
  have hS : va_S A s.heap s.heap [] := va_S.rf
  have hP : va_P G vwCl [(h0, .inr (10, [.ref tp, .int 0, .int (-1), .ref ps, .ref sp, .ref tk, .ref dr, .ref pr, .ref da, .ref nw, .ref im, .int 0, .ref ac, .ref ke, .ref si, .ref tx, .ref an, .ref dw])), (nw, .inr (6, [.ref nwt, .ref nwb, .int 0, .ref nwn, .ref nwi, .int 0, .ref nwr])), (nwt, .inr (9, [.ref nwtk, .ref nwtv, .ref nwte, .ref nwtd, .int 1])), (nwtk, .inl (y 0, 60, .inl (upd (fun _ => 0) 0 3))), (ou, .inl (y 1, 1, .inr (.inl (fun _ => 0))))] s.heap := hP
  have hl := lv_entry ([.ref h0, .int i, .int j, .ref ou]) (n := 5) (Nat.le_of_ble_eq_true rfl)
  rw [lg_entry_eq]
  generalize (lg_sl ([.ref h0, .int i, .int j, .ref ou]) ++ List.replicate (5 - (lg_sl ([.ref h0, .int i, .int j, .ref ou])).length) Slot.unset).toArray = ls at hl ⊢
  have hl : lv_has ls 5 [(0, .ref h0), (1, .int i), (2, .int j), (3, .ref ou)] := hl
  refine lv_aload_n hx hb dL_within_0 rfl (lv_at hl 3 rfl) ?_
  refine lv_iconst (v := 0) hx hb dL_within_1 (by decide) ?_
  refine lv_aload_n hx hb dL_within_2 rfl (lv_at hl 0 rfl) ?_
  refine lv_iload_n hx hb dL_within_3 rfl (lv_at hl 1 rfl) ?_
  refine lv_iload_n hx hb dL_within_4 rfl (lv_at hl 2 rfl) ?_
  refine nq_xi (wr := [(ou, .inl (y 1, 1, .inr (.inl (fun _ => 0))))]) (vx_runV (As := [.int i, .int j]) (rest := [.int 0, .ref ou]) ⟨hx, hb, hml, hown, hts⟩ (x_within l hl0 G y s.heap.size h0 tp ps sp tk dr pr da nw im ac ke si tx an dw nwt nwb nwn nwi nwr nwtk nwtv nwte nwtd i j) (cwV 2 hts gL_within_X10_within rfl rfl rfl (by decide +kernel) ⟨Nat.le_of_ble_eq_true rfl, Nat.le_of_ble_eq_true rfl⟩) (nq_PXV hK hP hD hS hA hXs [0, 1, 2, 3] rfl rfl 0 rfl rfl) rfl rfl hl.1 rfl (lv_room (Nat.le_of_ble_eq_true rfl)) dL_within_5 ⟨Nat.le_of_ble_eq_true rfl, Nat.le_of_ble_eq_true rfl⟩) hP hD hS hA [0, 1, 2, 3] [4] rfl rfl (by decide) (by decide) (fun E ce q9 H locs hB hS hP hD h1 h2 h3 => ?_) (fun r u H locs hw hP hD hS => ?_)
  · obtain ⟨rfl, hc⟩ := hB
    have hP : va_P G vwCl [(ou, .inl (y 1, 1, .inr (.inl (fun _ => 0))))] H := hP
    have hD : va_D A [(ou, .inl (y 1, 1, .inr (.inl (fun _ => 0))))] := hD
    refine vx_catch (name := nq_NSE) hown [] (⟨0, 10, 13, 19⟩ : ExceptionTableEntry) [] htb (fun z hz => absurd hz (by simp)) (by decide) (by decide) (hts (.classLink RL 19 nq_NSE) (by decide +kernel)) (hXs.2.2.2.1.use) h1 h2 h3 ?_
    refine lv_astore (lv' := [(4, .ref q9), (0, .ref h0), (1, .int i), (2, .int j), (3, .ref ou)]) hx hb dL_within_13 hl (by decide) rfl (fun ls hl => ?_)
    refine lv_iconst (v := 1) hx hb dL_within_15 (by decide) ?_
    have hP9 := hP.sub (ws' := [(ou, .inl (y 1, 1, .inr (.inl (fun _ => 0))))]) [0] rfl
    have hD9 := hD.sub (ws' := [(ou, .inl (y 1, 1, .inr (.inl (fun _ => 0))))]) [0] (by decide) rfl
    refine W.widen (k := 2) (n := 12) (Nat.le_of_ble_eq_true rfl) (Nat.le_of_ble_eq_true rfl) ?_
    exact W.iret (v := 1) hx hb hr (fun t ht hW => ⟨⟨1, (fun _ => 0), rfl, ⟨hc.symm, fun h => absurd h (by decide)⟩, by rw [ht]; exact hP9, by first | exact hD9 | (rw [hAe]; exact hD9)⟩, hS.F ht⟩) hS.2.2 dL_within_16
  · have hP : va_P G vwCl [(ou, .inl (y 1, 1, .inr (.inl (fun _ => 0))))] H := hP
    have hD : va_D A [(ou, .inl (y 1, 1, .inr (.inl (fun _ => 0))))] := hD
    refine lv_i2l (v := r.toInt64) hx hb dL_within_8 rfl ?_
    refine va_last hx hb hK.1 hP hD hS 0 1 rfl rfl (i := 0) (nq_in (by decide)) dL_within_9 (fun H locs hP hD hS => ?_)
    have hP : va_P G vwCl [(ou, .inl (y 1, 1, .inr (.inl (vp_updL (fun _ => 0) 0 r.toInt64))))] H := hP
    have hD : va_D A [(ou, .inl (y 1, 1, .inr (.inl (vp_updL (fun _ => 0) 0 r.toInt64))))] := hD
    refine lv_goto (tgt := 17) hx hb dL_within_10 (by decide) ?_
    refine lv_iconst (v := 0) hx hb dL_within_17 (by decide) ?_
    have hP9 := hP.sub (ws' := [(ou, .inl (y 1, 1, .inr (.inl (vp_updL (fun _ => 0) 0 r.toInt64))))]) [0] rfl
    have hD9 := hD.sub (ws' := [(ou, .inl (y 1, 1, .inr (.inl (vp_updL (fun _ => 0) 0 r.toInt64))))]) [0] (by decide) rfl
    refine W.widen (k := 2) (n := 12) (Nat.le_of_ble_eq_true rfl) (Nat.le_of_ble_eq_true rfl) ?_
    exact W.iret (v := 0) hx hb hr (fun t ht hW => ⟨⟨0, (vp_updL (fun _ => 0) 0 r.toInt64), rfl, ⟨hw.1.symm, fun _ => by rw [pk_uLs, hw.2]⟩, by rw [ht]; exact hP9, by first | exact hD9 | (rw [hAe]; exact hD9)⟩, hS.F ht⟩) hS.2.2 dL_within_18

set_option maxHeartbeats 400000 in
set_option maxRecDepth 100000 in
theorem w_told (l : Launch) (hl0 : l.stackTraces = false) (G : va_G) (y : Nat → ClassId) (sz : Nat) (h0 : Nat) (tp : Nat) (ps : Nat) (sp : Nat) (tk : Nat) (dr : Nat) (pr : Nat) (da : Nat) (nw : Nat) (im : Nat) (ac : Nat) (ke : Nat) (si : Nat) (tx : Nat) (an : Nat) (dw : Nat) (nwt : Nat) (nwb : Nat) (nwn : Nat) (nwi : Nat) (nwr : Nat) (nwtk : Nat) (nwtv : Nat) (nwte : Nat) (nwtd : Nat) (txb : Nat) (i : Int32) (b : Int32) (j : Int32) (ou : Nat) : Met l yL_told wsL_told ({ frames := 8, cells := 2, slots := 12, locals := 144 }) (nq_PX G y sz [.ref h0, .int i, .int b, .int j, .ref ou] [(h0, .inr (10, [.ref tp, .int 0, .int (-1), .ref ps, .ref sp, .ref tk, .ref dr, .ref pr, .ref da, .ref nw, .ref im, .int 0, .ref ac, .ref ke, .ref si, .ref tx, .ref an, .ref dw])), (nw, .inr (6, [.ref nwt, .ref nwb, .int 0, .ref nwn, .ref nwi, .int 0, .ref nwr])), (nwt, .inr (9, [.ref nwtk, .ref nwtv, .ref nwte, .ref nwtd, .int 1])), (nwtk, .inl (y 0, 60, .inl (upd (fun _ => 0) 0 3))), (nwtd, .inl (y 0, 60, .inl (upd (fun _ => 0) 0 0))), (tx, .inr (7, [.ref txb, .int 0])), (txb, .inl (y 0, 1024, .inl (fun _ => 0))), (ou, .inl (y 1, 1, .inr (.inl (fun _ => 0))))]) (va_Qi (fun (r : Int32) (g9 : Nat → Int64) => r = (sp_told i b j).1 ∧ (r = 0 → g9 0 = (sp_told i b j).2.toInt64)) (fun (g9 : Nat → Int64) t9 => va_P G vwCl [(ou, .inl (y 1, 1, .inr (.inl g9)))] t9.heap ∧ va_D (va_A [(h0, .inr (10, [.ref tp, .int 0, .int (-1), .ref ps, .ref sp, .ref tk, .ref dr, .ref pr, .ref da, .ref nw, .ref im, .int 0, .ref ac, .ref ke, .ref si, .ref tx, .ref an, .ref dw])), (nw, .inr (6, [.ref nwt, .ref nwb, .int 0, .ref nwn, .ref nwi, .int 0, .ref nwr])), (nwt, .inr (9, [.ref nwtk, .ref nwtv, .ref nwte, .ref nwtd, .int 1])), (nwtk, .inl (y 0, 60, .inl (upd (fun _ => 0) 0 3))), (nwtd, .inl (y 0, 60, .inl (upd (fun _ => 0) 0 0))), (tx, .inr (7, [.ref txb, .int 0])), (txb, .inl (y 0, 1024, .inl (fun _ => 0))), (ou, .inl (y 1, 1, .inr (.inl (fun _ => 0))))] sz) [(ou, .inl (y 1, 1, .inr (.inl g9)))]) (va_A [(h0, .inr (10, [.ref tp, .int 0, .int (-1), .ref ps, .ref sp, .ref tk, .ref dr, .ref pr, .ref da, .ref nw, .ref im, .int 0, .ref ac, .ref ke, .ref si, .ref tx, .ref an, .ref dw])), (nw, .inr (6, [.ref nwt, .ref nwb, .int 0, .ref nwn, .ref nwi, .int 0, .ref nwr])), (nwt, .inr (9, [.ref nwtk, .ref nwtv, .ref nwte, .ref nwtd, .int 1])), (nwtk, .inl (y 0, 60, .inl (upd (fun _ => 0) 0 3))), (nwtd, .inl (y 0, 60, .inl (upd (fun _ => 0) 0 0))), (tx, .inr (7, [.ref txb, .int 0])), (txb, .inl (y 0, 1024, .inl (fun _ => 0))), (ou, .inl (y 1, 1, .inr (.inl (fun _ => 0))))] sz)) 2 12 (va_A [(h0, .inr (10, [.ref tp, .int 0, .int (-1), .ref ps, .ref sp, .ref tk, .ref dr, .ref pr, .ref da, .ref nw, .ref im, .int 0, .ref ac, .ref ke, .ref si, .ref tx, .ref an, .ref dw])), (nw, .inr (6, [.ref nwt, .ref nwb, .int 0, .ref nwn, .ref nwi, .int 0, .ref nwr])), (nwt, .inr (9, [.ref nwtk, .ref nwtv, .ref nwte, .ref nwtd, .int 1])), (nwtk, .inl (y 0, 60, .inl (upd (fun _ => 0) 0 3))), (nwtd, .inl (y 0, 60, .inl (upd (fun _ => 0) 0 0))), (tx, .inr (7, [.ref txb, .int 0])), (txb, .inl (y 0, 1024, .inl (fun _ => 0))), (ou, .inl (y 1, 1, .inr (.inl (fun _ => 0))))] sz) := by
  refine va_MetW (cc := cL_told) (maxL := 6) (ret := (some .int)) (hh := [(0, 12, 15, 19)]) (by decide) rfl ?_
  intro p e s m args below meth c s₁ B hml hv
  obtain ⟨rfl, hsz, hP, hK, hD0, hXs⟩ := hv
  have hx := B.exec
  have hb := B.bytes
  have hr := B.returns
  have hts := atoms_spec (ws := wsL_told) B.pre
  have hown : s.vm.findClass RL = some m.cls := findClass_of_methodNamed B.named
  have hlocks := B.notSynchronized
  have htb := vx_table (x := objectInit) (hh := [(0, 12, 15, 19)]) B (hts _ List.mem_cons_self)
  subst hsz
  have hD := hD0.self (sz := s.heap.size)
  generalize hAe : va_A [(h0, .inr (10, [.ref tp, .int 0, .int (-1), .ref ps, .ref sp, .ref tk, .ref dr, .ref pr, .ref da, .ref nw, .ref im, .int 0, .ref ac, .ref ke, .ref si, .ref tx, .ref an, .ref dw])), (nw, .inr (6, [.ref nwt, .ref nwb, .int 0, .ref nwn, .ref nwi, .int 0, .ref nwr])), (nwt, .inr (9, [.ref nwtk, .ref nwtv, .ref nwte, .ref nwtd, .int 1])), (nwtk, .inl (y 0, 60, .inl (upd (fun _ => 0) 0 3))), (nwtd, .inl (y 0, 60, .inl (upd (fun _ => 0) 0 0))), (tx, .inr (7, [.ref txb, .int 0])), (txb, .inl (y 0, 1024, .inl (fun _ => 0))), (ou, .inl (y 1, 1, .inr (.inl (fun _ => 0))))] s.heap.size = A at hD hXs ⊢
  have hA : ∀ q : Nat, s.heap.size ≤ q → A q := fun q h => by rw [← hAe]; exact Or.inr h
  have hS : va_S A s.heap s.heap [] := va_S.rf
  have hP : va_P G vwCl [(h0, .inr (10, [.ref tp, .int 0, .int (-1), .ref ps, .ref sp, .ref tk, .ref dr, .ref pr, .ref da, .ref nw, .ref im, .int 0, .ref ac, .ref ke, .ref si, .ref tx, .ref an, .ref dw])), (nw, .inr (6, [.ref nwt, .ref nwb, .int 0, .ref nwn, .ref nwi, .int 0, .ref nwr])), (nwt, .inr (9, [.ref nwtk, .ref nwtv, .ref nwte, .ref nwtd, .int 1])), (nwtk, .inl (y 0, 60, .inl (upd (fun _ => 0) 0 3))), (nwtd, .inl (y 0, 60, .inl (upd (fun _ => 0) 0 0))), (tx, .inr (7, [.ref txb, .int 0])), (txb, .inl (y 0, 1024, .inl (fun _ => 0))), (ou, .inl (y 1, 1, .inr (.inl (fun _ => 0))))] s.heap := hP
  have hl := lv_entry ([.ref h0, .int i, .int b, .int j, .ref ou]) (n := 6) (Nat.le_of_ble_eq_true rfl)
  rw [lg_entry_eq]
  generalize (lg_sl ([.ref h0, .int i, .int b, .int j, .ref ou]) ++ List.replicate (6 - (lg_sl ([.ref h0, .int i, .int b, .int j, .ref ou])).length) Slot.unset).toArray = ls at hl ⊢
  have hl : lv_has ls 6 [(0, .ref h0), (1, .int i), (2, .int b), (3, .int j), (4, .ref ou)] := hl
  refine lv_aload hx hb dL_told_0 (lv_at hl 4 rfl) ?_
  refine lv_iconst (v := 0) hx hb dL_told_2 (by decide) ?_
  refine lv_aload_n hx hb dL_told_3 rfl (lv_at hl 0 rfl) ?_
  refine lv_iload_n hx hb dL_told_4 rfl (lv_at hl 1 rfl) ?_
  refine lv_iload_n hx hb dL_told_5 rfl (lv_at hl 2 rfl) ?_
  refine lv_iload_n hx hb dL_told_6 rfl (lv_at hl 3 rfl) ?_
  refine nq_xi (wr := [(ou, .inl (y 1, 1, .inr (.inl (fun _ => 0))))]) (vx_runV (As := [.int i, .int b, .int j]) (rest := [.int 0, .ref ou]) ⟨hx, hb, hml, hown, hts⟩ (x_told l hl0 G y s.heap.size h0 tp ps sp tk dr pr da nw im ac ke si tx an dw nwt nwb nwn nwi nwr nwtk nwtv nwte nwtd txb i b j) (cwV 3 hts gL_told_X10_told rfl rfl rfl (by decide +kernel) ⟨Nat.le_of_ble_eq_true rfl, Nat.le_of_ble_eq_true rfl⟩) (nq_PXV hK hP hD hS hA hXs [0, 1, 2, 3, 4, 5, 6] rfl rfl 0 rfl rfl) rfl rfl hl.1 rfl (lv_room (Nat.le_of_ble_eq_true rfl)) dL_told_7 ⟨Nat.le_of_ble_eq_true rfl, Nat.le_of_ble_eq_true rfl⟩) hP hD hS hA [0, 1, 2, 3, 4, 5, 6] [7] rfl rfl (by decide) (by decide) (fun E ce q9 H locs hB hS hP hD h1 h2 h3 => ?_) (fun r u H locs hw hP hD hS => ?_)
  · obtain ⟨rfl, hc⟩ := hB
    have hP : va_P G vwCl [(ou, .inl (y 1, 1, .inr (.inl (fun _ => 0))))] H := hP
    have hD : va_D A [(ou, .inl (y 1, 1, .inr (.inl (fun _ => 0))))] := hD
    refine vx_catch (name := nq_NSE) hown [] (⟨0, 12, 15, 19⟩ : ExceptionTableEntry) [] htb (fun z hz => absurd hz (by simp)) (by decide) (by decide) (hts (.classLink RL 19 nq_NSE) (by decide +kernel)) (hXs.2.2.2.1.use) h1 h2 h3 ?_
    refine lv_astore (lv' := [(5, .ref q9), (0, .ref h0), (1, .int i), (2, .int b), (3, .int j), (4, .ref ou)]) hx hb dL_told_15 hl (by decide) rfl (fun ls hl => ?_)
    refine lv_iconst (v := 1) hx hb dL_told_17 (by decide) ?_
    have hP9 := hP.sub (ws' := [(ou, .inl (y 1, 1, .inr (.inl (fun _ => 0))))]) [0] rfl
    have hD9 := hD.sub (ws' := [(ou, .inl (y 1, 1, .inr (.inl (fun _ => 0))))]) [0] (by decide) rfl
    refine W.widen (k := 2) (n := 12) (Nat.le_of_ble_eq_true rfl) (Nat.le_of_ble_eq_true rfl) ?_
    exact W.iret (v := 1) hx hb hr (fun t ht hW => ⟨⟨1, (fun _ => 0), rfl, ⟨hc.symm, fun h => absurd h (by decide)⟩, by rw [ht]; exact hP9, by first | exact hD9 | (rw [hAe]; exact hD9)⟩, hS.F ht⟩) hS.2.2 dL_told_18
  · have hP : va_P G vwCl [(ou, .inl (y 1, 1, .inr (.inl (fun _ => 0))))] H := hP
    have hD : va_D A [(ou, .inl (y 1, 1, .inr (.inl (fun _ => 0))))] := hD
    refine lv_i2l (v := r.toInt64) hx hb dL_told_10 rfl ?_
    refine va_last hx hb hK.1 hP hD hS 0 1 rfl rfl (i := 0) (nq_in (by decide)) dL_told_11 (fun H locs hP hD hS => ?_)
    have hP : va_P G vwCl [(ou, .inl (y 1, 1, .inr (.inl (vp_updL (fun _ => 0) 0 r.toInt64))))] H := hP
    have hD : va_D A [(ou, .inl (y 1, 1, .inr (.inl (vp_updL (fun _ => 0) 0 r.toInt64))))] := hD
    refine lv_goto (tgt := 19) hx hb dL_told_12 (by decide) ?_
    refine lv_iconst (v := 0) hx hb dL_told_19 (by decide) ?_
    have hP9 := hP.sub (ws' := [(ou, .inl (y 1, 1, .inr (.inl (vp_updL (fun _ => 0) 0 r.toInt64))))]) [0] rfl
    have hD9 := hD.sub (ws' := [(ou, .inl (y 1, 1, .inr (.inl (vp_updL (fun _ => 0) 0 r.toInt64))))]) [0] (by decide) rfl
    refine W.widen (k := 2) (n := 12) (Nat.le_of_ble_eq_true rfl) (Nat.le_of_ble_eq_true rfl) ?_
    exact W.iret (v := 0) hx hb hr (fun t ht hW => ⟨⟨0, (vp_updL (fun _ => 0) 0 r.toInt64), rfl, ⟨hw.1.symm, fun _ => by rw [pk_uLs, hw.2]⟩, by rw [ht]; exact hP9, by first | exact hD9 | (rw [hAe]; exact hD9)⟩, hS.F ht⟩) hS.2.2 dL_told_20

