set_option maxHeartbeats 400000 in
set_option maxRecDepth 100000 in
theorem w_tree (l : Launch) (hl0 : l.stackTraces = false) (G : va_G) (y : Nat → ClassId) (sz : Nat) (h0 : Nat) (tp : Nat) (ps : Nat) (sp : Nat) (tk : Nat) (dr : Nat) (pr : Nat) (da : Nat) (nw : Nat) (im : Nat) (ac : Nat) (ke : Nat) (si : Nat) (tx : Nat) (an : Nat) (dw : Nat) (tk1 : Nat) (tk2 : Nat) (tk3 : Nat) (tk4 : Nat) (dak : Nat) (dav : Nat) (dae : Nat) (dad : Nat) (nwt : Nat) (nwb : Nat) (nwn : Nat) (nwi : Nat) (nwr : Nat) (i : Int32) (ou : Nat) : Met l yL_tree wsL_tree ({ frames := 7, cells := 1, slots := 6, locals := 134 }) (nq_PX G y sz [.ref h0, .int i, .ref ou] [(h0, .inr (10, [.ref tp, .int 0, .int (-1), .ref ps, .ref sp, .ref tk, .ref dr, .ref pr, .ref da, .ref nw, .ref im, .int 0, .ref ac, .ref ke, .ref si, .ref tx, .ref an, .ref dw])), (dr, .inr (1, [.ref tk])), (tk, .inr (8, [.ref tk1, .ref tk2, .ref tk3, .ref tk4, .int 0, .int 0, .int 0, .int 0, .int (-1)])), (tk1, .inl (y 0, 401, .inl (fun _ => 0))), (tk2, .inl (y 0, 401, .inl (fun _ => 0))), (tk3, .inl (y 0, 401, .inl (fun _ => 0))), (tk4, .inl (y 0, 401, .inl (fun _ => 0))), (tp, .inl (y 0, 400, .inl (fun _ => 0))), (da, .inr (9, [.ref dak, .ref dav, .ref dae, .ref dad, .int 0])), (nw, .inr (6, [.ref nwt, .ref nwb, .int 0, .ref nwn, .ref nwi, .int 0, .ref nwr])), (nwr, .inl (y 0, 3, .inl (fun _ => 0))), (ou, .inl (y 1, 1, .inr (.inl (fun _ => 0))))]) (va_Qi (fun (r : Int32) (g9 : Nat → Int64) => r = (sp_tree i).1 ∧ (r = 0 → g9 0 = (sp_tree i).2.toInt64)) (fun (g9 : Nat → Int64) t9 => va_P G vwCl [(ou, .inl (y 1, 1, .inr (.inl g9)))] t9.heap ∧ va_D (va_A [(h0, .inr (10, [.ref tp, .int 0, .int (-1), .ref ps, .ref sp, .ref tk, .ref dr, .ref pr, .ref da, .ref nw, .ref im, .int 0, .ref ac, .ref ke, .ref si, .ref tx, .ref an, .ref dw])), (dr, .inr (1, [.ref tk])), (tk, .inr (8, [.ref tk1, .ref tk2, .ref tk3, .ref tk4, .int 0, .int 0, .int 0, .int 0, .int (-1)])), (tk1, .inl (y 0, 401, .inl (fun _ => 0))), (tk2, .inl (y 0, 401, .inl (fun _ => 0))), (tk3, .inl (y 0, 401, .inl (fun _ => 0))), (tk4, .inl (y 0, 401, .inl (fun _ => 0))), (tp, .inl (y 0, 400, .inl (fun _ => 0))), (da, .inr (9, [.ref dak, .ref dav, .ref dae, .ref dad, .int 0])), (nw, .inr (6, [.ref nwt, .ref nwb, .int 0, .ref nwn, .ref nwi, .int 0, .ref nwr])), (nwr, .inl (y 0, 3, .inl (fun _ => 0))), (ou, .inl (y 1, 1, .inr (.inl (fun _ => 0))))] sz) [(ou, .inl (y 1, 1, .inr (.inl g9)))]) (va_A [(h0, .inr (10, [.ref tp, .int 0, .int (-1), .ref ps, .ref sp, .ref tk, .ref dr, .ref pr, .ref da, .ref nw, .ref im, .int 0, .ref ac, .ref ke, .ref si, .ref tx, .ref an, .ref dw])), (dr, .inr (1, [.ref tk])), (tk, .inr (8, [.ref tk1, .ref tk2, .ref tk3, .ref tk4, .int 0, .int 0, .int 0, .int 0, .int (-1)])), (tk1, .inl (y 0, 401, .inl (fun _ => 0))), (tk2, .inl (y 0, 401, .inl (fun _ => 0))), (tk3, .inl (y 0, 401, .inl (fun _ => 0))), (tk4, .inl (y 0, 401, .inl (fun _ => 0))), (tp, .inl (y 0, 400, .inl (fun _ => 0))), (da, .inr (9, [.ref dak, .ref dav, .ref dae, .ref dad, .int 0])), (nw, .inr (6, [.ref nwt, .ref nwb, .int 0, .ref nwn, .ref nwi, .int 0, .ref nwr])), (nwr, .inl (y 0, 3, .inl (fun _ => 0))), (ou, .inl (y 1, 1, .inr (.inl (fun _ => 0))))] sz)) 1 6 (va_A [(h0, .inr (10, [.ref tp, .int 0, .int (-1), .ref ps, .ref sp, .ref tk, .ref dr, .ref pr, .ref da, .ref nw, .ref im, .int 0, .ref ac, .ref ke, .ref si, .ref tx, .ref an, .ref dw])), (dr, .inr (1, [.ref tk])), (tk, .inr (8, [.ref tk1, .ref tk2, .ref tk3, .ref tk4, .int 0, .int 0, .int 0, .int 0, .int (-1)])), (tk1, .inl (y 0, 401, .inl (fun _ => 0))), (tk2, .inl (y 0, 401, .inl (fun _ => 0))), (tk3, .inl (y 0, 401, .inl (fun _ => 0))), (tk4, .inl (y 0, 401, .inl (fun _ => 0))), (tp, .inl (y 0, 400, .inl (fun _ => 0))), (da, .inr (9, [.ref dak, .ref dav, .ref dae, .ref dad, .int 0])), (nw, .inr (6, [.ref nwt, .ref nwb, .int 0, .ref nwn, .ref nwi, .int 0, .ref nwr])), (nwr, .inl (y 0, 3, .inl (fun _ => 0))), (ou, .inl (y 1, 1, .inr (.inl (fun _ => 0))))] sz) := by
  refine va_MetW (cc := cL_tree) (maxL := 4) (ret := (some .int)) (hh := [(0, 9, 12, 13)]) (by decide) rfl ?_
  intro p e s m args below meth c s₁ B hml hv
  obtain ⟨rfl, hsz, hP, hK, hD0, hXs⟩ := hv
  have hx := B.exec
  have hb := B.bytes
  have hr := B.returns
  have hts := atoms_spec (ws := wsL_tree) B.pre
  have hown : s.vm.findClass RL = some m.cls := findClass_of_methodNamed B.named
  have hlocks := B.notSynchronized
  have htb := vx_table (hh := [(0, 9, 12, 13)]) B (hts _ List.mem_cons_self)
  subst hsz
  have hD := hD0.self (sz := s.heap.size)
  generalize hAe : va_A [(h0, .inr (10, [.ref tp, .int 0, .int (-1), .ref ps, .ref sp, .ref tk, .ref dr, .ref pr, .ref da, .ref nw, .ref im, .int 0, .ref ac, .ref ke, .ref si, .ref tx, .ref an, .ref dw])), (dr, .inr (1, [.ref tk])), (tk, .inr (8, [.ref tk1, .ref tk2, .ref tk3, .ref tk4, .int 0, .int 0, .int 0, .int 0, .int (-1)])), (tk1, .inl (y 0, 401, .inl (fun _ => 0))), (tk2, .inl (y 0, 401, .inl (fun _ => 0))), (tk3, .inl (y 0, 401, .inl (fun _ => 0))), (tk4, .inl (y 0, 401, .inl (fun _ => 0))), (tp, .inl (y 0, 400, .inl (fun _ => 0))), (da, .inr (9, [.ref dak, .ref dav, .ref dae, .ref dad, .int 0])), (nw, .inr (6, [.ref nwt, .ref nwb, .int 0, .ref nwn, .ref nwi, .int 0, .ref nwr])), (nwr, .inl (y 0, 3, .inl (fun _ => 0))), (ou, .inl (y 1, 1, .inr (.inl (fun _ => 0))))] s.heap.size = A at hD hXs ⊢
  have hA : ∀ q : Nat, s.heap.size ≤ q → A q := fun q h => by rw [← hAe]; exact Or.inr h
  have hS : va_S A s.heap s.heap [] := va_S.rf
  have hP : va_P G vwCl [(h0, .inr (10, [.ref tp, .int 0, .int (-1), .ref ps, .ref sp, .ref tk, .ref dr, .ref pr, .ref da, .ref nw, .ref im, .int 0, .ref ac, .ref ke, .ref si, .ref tx, .ref an, .ref dw])), (dr, .inr (1, [.ref tk])), (tk, .inr (8, [.ref tk1, .ref tk2, .ref tk3, .ref tk4, .int 0, .int 0, .int 0, .int 0, .int (-1)])), (tk1, .inl (y 0, 401, .inl (fun _ => 0))), (tk2, .inl (y 0, 401, .inl (fun _ => 0))), (tk3, .inl (y 0, 401, .inl (fun _ => 0))), (tk4, .inl (y 0, 401, .inl (fun _ => 0))), (tp, .inl (y 0, 400, .inl (fun _ => 0))), (da, .inr (9, [.ref dak, .ref dav, .ref dae, .ref dad, .int 0])), (nw, .inr (6, [.ref nwt, .ref nwb, .int 0, .ref nwn, .ref nwi, .int 0, .ref nwr])), (nwr, .inl (y 0, 3, .inl (fun _ => 0))), (ou, .inl (y 1, 1, .inr (.inl (fun _ => 0))))] s.heap := hP
  have hl := lv_entry ([.ref h0, .int i, .ref ou]) (n := 4) (Nat.le_of_ble_eq_true rfl)
  rw [lg_entry_eq]
  generalize (lg_sl ([.ref h0, .int i, .ref ou]) ++ List.replicate (4 - (lg_sl ([.ref h0, .int i, .ref ou])).length) Slot.unset).toArray = ls at hl ⊢
  have hl : lv_has ls 4 [(0, .ref h0), (1, .int i), (2, .ref ou)] := hl
  refine lv_aload_n hx hb dL_tree_0 rfl (lv_at hl 2 rfl) ?_
  refine lv_iconst (v := 0) hx hb dL_tree_1 (by decide) ?_
  refine lv_aload_n hx hb dL_tree_2 rfl (lv_at hl 0 rfl) ?_
  refine lv_iload_n hx hb dL_tree_3 rfl (lv_at hl 1 rfl) ?_
  refine nq_xi (wr := [(ou, .inl (y 1, 1, .inr (.inl (fun _ => 0))))]) (vx_runV (As := [.int i]) (rest := [.int 0, .ref ou]) ⟨hx, hb, hml, hown, hts⟩ (x_tree l hl0 G y s.heap.size h0 tp ps sp tk dr pr da nw im ac ke si tx an dw tk1 tk2 tk3 tk4 dak dav dae dad nwt nwb nwn nwi nwr i) (cwV 1 hts gL_tree_X10_tree rfl rfl rfl (by decide +kernel) ⟨Nat.le_of_ble_eq_true rfl, Nat.le_of_ble_eq_true rfl⟩) (nq_PXV hK hP hD hS hA hXs [0, 1, 2, 3, 4, 5, 6, 7, 8, 9, 10] rfl rfl 0 rfl rfl) rfl rfl hl.1 rfl (lv_room (Nat.le_of_ble_eq_true rfl)) dL_tree_4 ⟨Nat.le_of_ble_eq_true rfl, Nat.le_of_ble_eq_true rfl⟩) hP hD hS hA [0, 1, 2, 3, 4, 5, 6, 7, 8, 9, 10] [11] rfl rfl (by decide) (by decide) (fun E ce q9 H locs hB hS hP hD h1 h2 h3 => ?_) (fun r u H locs hw hP hD hS => ?_)
  · obtain ⟨rfl, hc⟩ := hB
    have hP : va_P G vwCl [(ou, .inl (y 1, 1, .inr (.inl (fun _ => 0))))] H := hP
    have hD : va_D A [(ou, .inl (y 1, 1, .inr (.inl (fun _ => 0))))] := hD
    refine vx_catch (name := nq_IAE) hown [] (⟨0, 9, 12, 13⟩ : ExceptionTableEntry) [] htb (fun z hz => absurd hz (by simp)) (by decide) (by decide) (hts (.classLink RL 13 nq_IAE) (by decide +kernel)) (hXs.2.2.2.2.1.use) h1 h2 h3 ?_
    refine lv_astore_n (lv' := [(3, .ref q9), (0, .ref h0), (1, .int i), (2, .ref ou)]) hx hb dL_tree_12 rfl hl (by decide) rfl (fun ls hl => ?_)
    refine lv_iconst (v := 1) hx hb dL_tree_13 (by decide) ?_
    have hP9 := hP.sub (ws' := [(ou, .inl (y 1, 1, .inr (.inl (fun _ => 0))))]) [0] rfl
    have hD9 := hD.sub (ws' := [(ou, .inl (y 1, 1, .inr (.inl (fun _ => 0))))]) [0] (by decide) rfl
    refine W.widen (k := 1) (n := 6) (Nat.le_of_ble_eq_true rfl) (Nat.le_of_ble_eq_true rfl) ?_
    exact W.iret (v := 1) hx hb hr (fun t ht hW => ⟨⟨1, (fun _ => 0), rfl, ⟨hc.symm, fun h => absurd h (by decide)⟩, by rw [ht]; exact hP9, by first | exact hD9 | (rw [hAe]; exact hD9)⟩, hS.F ht⟩) hS.2.2 dL_tree_14
  · have hP : va_P G vwCl [(ou, .inl (y 1, 1, .inr (.inl (fun _ => 0))))] H := hP
    have hD : va_D A [(ou, .inl (y 1, 1, .inr (.inl (fun _ => 0))))] := hD
    refine lv_i2l (v := r.toInt64) hx hb dL_tree_7 rfl ?_
    refine va_last hx hb hK.1 hP hD hS 0 1 rfl rfl (i := 0) (nq_in (by decide)) dL_tree_8 (fun H locs hP hD hS => ?_)
    have hP : va_P G vwCl [(ou, .inl (y 1, 1, .inr (.inl (vp_updL (fun _ => 0) 0 r.toInt64))))] H := hP
    have hD : va_D A [(ou, .inl (y 1, 1, .inr (.inl (vp_updL (fun _ => 0) 0 r.toInt64))))] := hD
    refine lv_goto (tgt := 15) hx hb dL_tree_9 (by decide) ?_
    refine lv_iconst (v := 0) hx hb dL_tree_15 (by decide) ?_
    have hP9 := hP.sub (ws' := [(ou, .inl (y 1, 1, .inr (.inl (vp_updL (fun _ => 0) 0 r.toInt64))))]) [0] rfl
    have hD9 := hD.sub (ws' := [(ou, .inl (y 1, 1, .inr (.inl (vp_updL (fun _ => 0) 0 r.toInt64))))]) [0] (by decide) rfl
    refine W.widen (k := 1) (n := 6) (Nat.le_of_ble_eq_true rfl) (Nat.le_of_ble_eq_true rfl) ?_
    exact W.iret (v := 0) hx hb hr (fun t ht hW => ⟨⟨0, (vp_updL (fun _ => 0) 0 r.toInt64), rfl, ⟨hw.1.symm, fun _ => by rw [pk_uLs, hw.2]⟩, by rw [ht]; exact hP9, by first | exact hD9 | (rw [hAe]; exact hD9)⟩, hS.F ht⟩) hS.2.2 dL_tree_16

set_option maxHeartbeats 400000 in
set_option maxRecDepth 100000 in
theorem w_path (l : Launch) (hl0 : l.stackTraces = false) (G : va_G) (y : Nat → ClassId) (sz : Nat) (h0 : Nat) (tp : Nat) (ps : Nat) (sp : Nat) (tk : Nat) (dr : Nat) (pr : Nat) (da : Nat) (nw : Nat) (im : Nat) (ac : Nat) (ke : Nat) (si : Nat) (tx : Nat) (an : Nat) (dw : Nat) (tk1 : Nat) (tk2 : Nat) (tk3 : Nat) (tk4 : Nat) (sp1 : Nat) (sp2 : Nat) (sp3 : Nat) (sp4 : Nat) (sp5 : Nat) (sp6 : Nat) (sp7 : Nat) (sp8 : Nat) (sp9 : Nat) (sp10 : Nat) (i : Int32) (j : Int32) (ou : Nat) : Met l yL_path wsL_path ({ frames := 7, cells := 11, slots := 614, locals := 124 }) (nq_PX G y sz [.ref h0, .int i, .int j, .ref ou] [(h0, .inr (10, [.ref tp, .int 0, .int (-1), .ref ps, .ref sp, .ref tk, .ref dr, .ref pr, .ref da, .ref nw, .ref im, .int 0, .ref ac, .ref ke, .ref si, .ref tx, .ref an, .ref dw])), (pr, .inr (5, [.ref tk])), (tk, .inr (8, [.ref tk1, .ref tk2, .ref tk3, .ref tk4, .int 0, .int 0, .int 0, .int 0, .int (-1)])), (tk1, .inl (y 0, 401, .inl (fun _ => 0))), (tk2, .inl (y 0, 401, .inl (fun _ => 0))), (tk3, .inl (y 0, 401, .inl (fun _ => 0))), (tk4, .inl (y 0, 401, .inl (fun _ => 0))), (tp, .inl (y 0, 400, .inl (fun _ => 0))), (sp, .inr (4, [.ref sp1, .ref sp2, .ref sp3, .int 0, .ref sp4, .int 0, .ref sp5, .ref sp6, .int 0, .ref sp7, .ref sp8, .ref sp9, .ref sp10, .int 0])), (ps, .inl (y 3, 4, .inr (.inr (.inr (.inr (fun _ => none)))))), (ou, .inl (y 1, 1, .inr (.inl (fun _ => 0))))]) (va_Qi (fun (r : Int32) (g9 : Nat → Int64) => r = (sp_path i j).1 ∧ (r = 0 → g9 0 = (sp_path i j).2.toInt64)) (fun (g9 : Nat → Int64) t9 => va_P G vwCl [(ou, .inl (y 1, 1, .inr (.inl g9)))] t9.heap ∧ va_D (va_A [(h0, .inr (10, [.ref tp, .int 0, .int (-1), .ref ps, .ref sp, .ref tk, .ref dr, .ref pr, .ref da, .ref nw, .ref im, .int 0, .ref ac, .ref ke, .ref si, .ref tx, .ref an, .ref dw])), (pr, .inr (5, [.ref tk])), (tk, .inr (8, [.ref tk1, .ref tk2, .ref tk3, .ref tk4, .int 0, .int 0, .int 0, .int 0, .int (-1)])), (tk1, .inl (y 0, 401, .inl (fun _ => 0))), (tk2, .inl (y 0, 401, .inl (fun _ => 0))), (tk3, .inl (y 0, 401, .inl (fun _ => 0))), (tk4, .inl (y 0, 401, .inl (fun _ => 0))), (tp, .inl (y 0, 400, .inl (fun _ => 0))), (sp, .inr (4, [.ref sp1, .ref sp2, .ref sp3, .int 0, .ref sp4, .int 0, .ref sp5, .ref sp6, .int 0, .ref sp7, .ref sp8, .ref sp9, .ref sp10, .int 0])), (ps, .inl (y 3, 4, .inr (.inr (.inr (.inr (fun _ => none)))))), (ou, .inl (y 1, 1, .inr (.inl (fun _ => 0))))] sz) [(ou, .inl (y 1, 1, .inr (.inl g9)))]) (va_A [(h0, .inr (10, [.ref tp, .int 0, .int (-1), .ref ps, .ref sp, .ref tk, .ref dr, .ref pr, .ref da, .ref nw, .ref im, .int 0, .ref ac, .ref ke, .ref si, .ref tx, .ref an, .ref dw])), (pr, .inr (5, [.ref tk])), (tk, .inr (8, [.ref tk1, .ref tk2, .ref tk3, .ref tk4, .int 0, .int 0, .int 0, .int 0, .int (-1)])), (tk1, .inl (y 0, 401, .inl (fun _ => 0))), (tk2, .inl (y 0, 401, .inl (fun _ => 0))), (tk3, .inl (y 0, 401, .inl (fun _ => 0))), (tk4, .inl (y 0, 401, .inl (fun _ => 0))), (tp, .inl (y 0, 400, .inl (fun _ => 0))), (sp, .inr (4, [.ref sp1, .ref sp2, .ref sp3, .int 0, .ref sp4, .int 0, .ref sp5, .ref sp6, .int 0, .ref sp7, .ref sp8, .ref sp9, .ref sp10, .int 0])), (ps, .inl (y 3, 4, .inr (.inr (.inr (.inr (fun _ => none)))))), (ou, .inl (y 1, 1, .inr (.inl (fun _ => 0))))] sz)) 11 614 (va_A [(h0, .inr (10, [.ref tp, .int 0, .int (-1), .ref ps, .ref sp, .ref tk, .ref dr, .ref pr, .ref da, .ref nw, .ref im, .int 0, .ref ac, .ref ke, .ref si, .ref tx, .ref an, .ref dw])), (pr, .inr (5, [.ref tk])), (tk, .inr (8, [.ref tk1, .ref tk2, .ref tk3, .ref tk4, .int 0, .int 0, .int 0, .int 0, .int (-1)])), (tk1, .inl (y 0, 401, .inl (fun _ => 0))), (tk2, .inl (y 0, 401, .inl (fun _ => 0))), (tk3, .inl (y 0, 401, .inl (fun _ => 0))), (tk4, .inl (y 0, 401, .inl (fun _ => 0))), (tp, .inl (y 0, 400, .inl (fun _ => 0))), (sp, .inr (4, [.ref sp1, .ref sp2, .ref sp3, .int 0, .ref sp4, .int 0, .ref sp5, .ref sp6, .int 0, .ref sp7, .ref sp8, .ref sp9, .ref sp10, .int 0])), (ps, .inl (y 3, 4, .inr (.inr (.inr (.inr (fun _ => none)))))), (ou, .inl (y 1, 1, .inr (.inl (fun _ => 0))))] sz) := by
  refine va_MetW (cc := cL_path) (maxL := 5) (ret := (some .int)) (hh := [(0, 10, 13, 19), (0, 10, 17, 13)]) (by decide) rfl ?_
  intro p e s m args below meth c s₁ B hml hv
  obtain ⟨rfl, hsz, hP, hK, hD0, hXs⟩ := hv
  have hx := B.exec
  have hb := B.bytes
  have hr := B.returns
  have hts := atoms_spec (ws := wsL_path) B.pre
  have hown : s.vm.findClass RL = some m.cls := findClass_of_methodNamed B.named
  have hlocks := B.notSynchronized
  have htb := vx_table (hh := [(0, 10, 13, 19), (0, 10, 17, 13)]) B (hts _ List.mem_cons_self)
  subst hsz
  have hD := hD0.self (sz := s.heap.size)
  generalize hAe : va_A [(h0, .inr (10, [.ref tp, .int 0, .int (-1), .ref ps, .ref sp, .ref tk, .ref dr, .ref pr, .ref da, .ref nw, .ref im, .int 0, .ref ac, .ref ke, .ref si, .ref tx, .ref an, .ref dw])), (pr, .inr (5, [.ref tk])), (tk, .inr (8, [.ref tk1, .ref tk2, .ref tk3, .ref tk4, .int 0, .int 0, .int 0, .int 0, .int (-1)])), (tk1, .inl (y 0, 401, .inl (fun _ => 0))), (tk2, .inl (y 0, 401, .inl (fun _ => 0))), (tk3, .inl (y 0, 401, .inl (fun _ => 0))), (tk4, .inl (y 0, 401, .inl (fun _ => 0))), (tp, .inl (y 0, 400, .inl (fun _ => 0))), (sp, .inr (4, [.ref sp1, .ref sp2, .ref sp3, .int 0, .ref sp4, .int 0, .ref sp5, .ref sp6, .int 0, .ref sp7, .ref sp8, .ref sp9, .ref sp10, .int 0])), (ps, .inl (y 3, 4, .inr (.inr (.inr (.inr (fun _ => none)))))), (ou, .inl (y 1, 1, .inr (.inl (fun _ => 0))))] s.heap.size = A at hD hXs ⊢
  have hA : ∀ q : Nat, s.heap.size ≤ q → A q := fun q h => by rw [← hAe]; exact Or.inr h
  have hS : va_S A s.heap s.heap [] := va_S.rf
  have hP : va_P G vwCl [(h0, .inr (10, [.ref tp, .int 0, .int (-1), .ref ps, .ref sp, .ref tk, .ref dr, .ref pr, .ref da, .ref nw, .ref im, .int 0, .ref ac, .ref ke, .ref si, .ref tx, .ref an, .ref dw])), (pr, .inr (5, [.ref tk])), (tk, .inr (8, [.ref tk1, .ref tk2, .ref tk3, .ref tk4, .int 0, .int 0, .int 0, .int 0, .int (-1)])), (tk1, .inl (y 0, 401, .inl (fun _ => 0))), (tk2, .inl (y 0, 401, .inl (fun _ => 0))), (tk3, .inl (y 0, 401, .inl (fun _ => 0))), (tk4, .inl (y 0, 401, .inl (fun _ => 0))), (tp, .inl (y 0, 400, .inl (fun _ => 0))), (sp, .inr (4, [.ref sp1, .ref sp2, .ref sp3, .int 0, .ref sp4, .int 0, .ref sp5, .ref sp6, .int 0, .ref sp7, .ref sp8, .ref sp9, .ref sp10, .int 0])), (ps, .inl (y 3, 4, .inr (.inr (.inr (.inr (fun _ => none)))))), (ou, .inl (y 1, 1, .inr (.inl (fun _ => 0))))] s.heap := hP
  have hl := lv_entry ([.ref h0, .int i, .int j, .ref ou]) (n := 5) (Nat.le_of_ble_eq_true rfl)
  rw [lg_entry_eq]
  generalize (lg_sl ([.ref h0, .int i, .int j, .ref ou]) ++ List.replicate (5 - (lg_sl ([.ref h0, .int i, .int j, .ref ou])).length) Slot.unset).toArray = ls at hl ⊢
  have hl : lv_has ls 5 [(0, .ref h0), (1, .int i), (2, .int j), (3, .ref ou)] := hl
  refine lv_aload_n hx hb dL_path_0 rfl (lv_at hl 3 rfl) ?_
  refine lv_iconst (v := 0) hx hb dL_path_1 (by decide) ?_
  refine lv_aload_n hx hb dL_path_2 rfl (lv_at hl 0 rfl) ?_
  refine lv_iload_n hx hb dL_path_3 rfl (lv_at hl 1 rfl) ?_
  refine lv_iload_n hx hb dL_path_4 rfl (lv_at hl 2 rfl) ?_
  refine nq_xi (wr := [(ou, .inl (y 1, 1, .inr (.inl (fun _ => 0))))]) (vx_runV (As := [.int i, .int j]) (rest := [.int 0, .ref ou]) ⟨hx, hb, hml, hown, hts⟩ (x_path l hl0 G y s.heap.size h0 tp ps sp tk dr pr da nw im ac ke si tx an dw tk1 tk2 tk3 tk4 sp1 sp2 sp3 sp4 sp5 sp6 sp7 sp8 sp9 sp10 i j) (cwV 2 hts gL_path_X10_path rfl rfl rfl (by decide +kernel) ⟨Nat.le_of_ble_eq_true rfl, Nat.le_of_ble_eq_true rfl⟩) (nq_PXV hK hP hD hS hA hXs [0, 1, 2, 3, 4, 5, 6, 7, 8, 9] rfl rfl 0 rfl rfl) rfl rfl hl.1 rfl (lv_room (Nat.le_of_ble_eq_true rfl)) dL_path_5 ⟨Nat.le_of_ble_eq_true rfl, Nat.le_of_ble_eq_true rfl⟩) hP hD hS hA [0, 1, 2, 3, 4, 5, 6, 7, 8, 9] [10] rfl rfl (by decide) (by decide) (fun E ce q9 H locs hB hS hP hD h1 h2 h3 => ?_) (fun r u H locs hw hP hD hS => ?_)
  · rcases hB with ⟨rfl, hc⟩ | ⟨rfl, hc⟩
    · have hP : va_P G vwCl [(ou, .inl (y 1, 1, .inr (.inl (fun _ => 0))))] H := hP
      have hD : va_D A [(ou, .inl (y 1, 1, .inr (.inl (fun _ => 0))))] := hD
      refine vx_catch (name := nq_NSE) hown [] (⟨0, 10, 13, 19⟩ : ExceptionTableEntry) [(⟨0, 10, 17, 13⟩ : ExceptionTableEntry)] htb (fun z hz => absurd hz (by simp)) (by decide) (by decide) (hts (.classLink RL 19 nq_NSE) (by decide +kernel)) (hXs.2.2.2.1.use) h1 h2 h3 ?_
      refine lv_astore (lv' := [(4, .ref q9), (0, .ref h0), (1, .int i), (2, .int j), (3, .ref ou)]) hx hb dL_path_13 hl (by decide) rfl (fun ls hl => ?_)
      refine lv_iconst (v := 1) hx hb dL_path_15 (by decide) ?_
      have hP9 := hP.sub (ws' := [(ou, .inl (y 1, 1, .inr (.inl (fun _ => 0))))]) [0] rfl
      have hD9 := hD.sub (ws' := [(ou, .inl (y 1, 1, .inr (.inl (fun _ => 0))))]) [0] (by decide) rfl
      refine W.widen (k := 11) (n := 614) (Nat.le_of_ble_eq_true rfl) (Nat.le_of_ble_eq_true rfl) ?_
      exact W.iret (v := 1) hx hb hr (fun t ht hW => ⟨⟨1, (fun _ => 0), rfl, ⟨hc.symm, fun h => absurd h (by decide)⟩, by rw [ht]; exact hP9, by first | exact hD9 | (rw [hAe]; exact hD9)⟩, hS.F ht⟩) hS.2.2 dL_path_16
    · have hP : va_P G vwCl [(ou, .inl (y 1, 1, .inr (.inl (fun _ => 0))))] H := hP
      have hD : va_D A [(ou, .inl (y 1, 1, .inr (.inl (fun _ => 0))))] := hD
      refine vx_catch (name := nq_IAE) hown [(⟨0, 10, 13, 19⟩ : ExceptionTableEntry)] (⟨0, 10, 17, 13⟩ : ExceptionTableEntry) [] htb (fun z hz => by rw [List.mem_singleton.mp hz]; exact Or.inr ⟨by decide, nq_NSE, hts (.classLink RL 19 nq_NSE) (by decide +kernel), hXs.2.2.2.2.2.1⟩) (by decide) (by decide) (hts (.classLink RL 13 nq_IAE) (by decide +kernel)) (hXs.2.2.2.2.1.use) h1 h2 h3 ?_
      refine lv_astore (lv' := [(4, .ref q9), (0, .ref h0), (1, .int i), (2, .int j), (3, .ref ou)]) hx hb dL_path_17 hl (by decide) rfl (fun ls hl => ?_)
      refine lv_iconst (v := 2) hx hb dL_path_19 (by decide) ?_
      have hP9 := hP.sub (ws' := [(ou, .inl (y 1, 1, .inr (.inl (fun _ => 0))))]) [0] rfl
      have hD9 := hD.sub (ws' := [(ou, .inl (y 1, 1, .inr (.inl (fun _ => 0))))]) [0] (by decide) rfl
      refine W.widen (k := 11) (n := 614) (Nat.le_of_ble_eq_true rfl) (Nat.le_of_ble_eq_true rfl) ?_
      exact W.iret (v := 2) hx hb hr (fun t ht hW => ⟨⟨2, (fun _ => 0), rfl, ⟨hc.symm, fun h => absurd h (by decide)⟩, by rw [ht]; exact hP9, by first | exact hD9 | (rw [hAe]; exact hD9)⟩, hS.F ht⟩) hS.2.2 dL_path_20
  · have hP : va_P G vwCl [(ou, .inl (y 1, 1, .inr (.inl (fun _ => 0))))] H := hP
    have hD : va_D A [(ou, .inl (y 1, 1, .inr (.inl (fun _ => 0))))] := hD
    refine lv_i2l (v := r.toInt64) hx hb dL_path_8 rfl ?_
    refine va_last hx hb hK.1 hP hD hS 0 1 rfl rfl (i := 0) (nq_in (by decide)) dL_path_9 (fun H locs hP hD hS => ?_)
    have hP : va_P G vwCl [(ou, .inl (y 1, 1, .inr (.inl (vp_updL (fun _ => 0) 0 r.toInt64))))] H := hP
    have hD : va_D A [(ou, .inl (y 1, 1, .inr (.inl (vp_updL (fun _ => 0) 0 r.toInt64))))] := hD
    refine lv_goto (tgt := 21) hx hb dL_path_10 (by decide) ?_
    refine lv_iconst (v := 0) hx hb dL_path_21 (by decide) ?_
    have hP9 := hP.sub (ws' := [(ou, .inl (y 1, 1, .inr (.inl (vp_updL (fun _ => 0) 0 r.toInt64))))]) [0] rfl
    have hD9 := hD.sub (ws' := [(ou, .inl (y 1, 1, .inr (.inl (vp_updL (fun _ => 0) 0 r.toInt64))))]) [0] (by decide) rfl
    refine W.widen (k := 11) (n := 614) (Nat.le_of_ble_eq_true rfl) (Nat.le_of_ble_eq_true rfl) ?_
    exact W.iret (v := 0) hx hb hr (fun t ht hW => ⟨⟨0, (vp_updL (fun _ => 0) 0 r.toInt64), rfl, ⟨hw.1.symm, fun _ => by rw [pk_uLs, hw.2]⟩, by rw [ht]; exact hP9, by first | exact hD9 | (rw [hAe]; exact hD9)⟩, hS.F ht⟩) hS.2.2 dL_path_22

set_option maxHeartbeats 400000 in
set_option maxRecDepth 100000 in
theorem w_count (l : Launch) (hl0 : l.stackTraces = false) (G : va_G) (y : Nat → ClassId) (sz : Nat) (h0 : Nat) (tp : Nat) (ps : Nat) (sp : Nat) (tk : Nat) (dr : Nat) (pr : Nat) (da : Nat) (nw : Nat) (im : Nat) (ac : Nat) (ke : Nat) (si : Nat) (tx : Nat) (an : Nat) (dw : Nat) (nwt : Nat) (nwb : Nat) (nwn : Nat) (nwi : Nat) (nwr : Nat) (nwtk : Nat) (nwtv : Nat) (nwte : Nat) (nwtd : Nat) (ke1 : Nat) (ke2 : Nat) (ke3 : Nat) (ke4 : Nat) (i : Int32) (ou : Nat) : Met l yL_count wsL_count ({ frames := 7, cells := 1, slots := 6, locals := 121 }) (nq_PX G y sz [.ref h0, .int i, .ref ou] [(h0, .inr (10, [.ref tp, .int 0, .int (-1), .ref ps, .ref sp, .ref tk, .ref dr, .ref pr, .ref da, .ref nw, .ref im, .int 0, .ref ac, .ref ke, .ref si, .ref tx, .ref an, .ref dw])), (nw, .inr (6, [.ref nwt, .ref nwb, .int 0, .ref nwn, .ref nwi, .int 0, .ref nwr])), (nwt, .inr (9, [.ref nwtk, .ref nwtv, .ref nwte, .ref nwtd, .int 1])), (nwtk, .inl (y 0, 60, .inl (upd (fun _ => 0) 0 3))), (nwtd, .inl (y 0, 60, .inl (upd (fun _ => 0) 0 0))), (ps, .inl (y 3, 4, .inr (.inr (.inr (.inr (fun _ => none)))))), (an, .inl (y 1, 4, .inr (.inl (fun _ => 0)))), (ke, .inr (3, [.ref ke1, .ref ke2, .ref ke3, .ref ke4, .int 0])), (nwr, .inl (y 0, 3, .inl (fun _ => 0))), (ou, .inl (y 1, 1, .inr (.inl (fun _ => 0))))]) (va_Qi (fun (r : Int32) (g9 : Nat → Int64) => r = (sp_count i).1 ∧ (r = 0 → g9 0 = (sp_count i).2.toInt64)) (fun (g9 : Nat → Int64) t9 => va_P G vwCl [(ou, .inl (y 1, 1, .inr (.inl g9)))] t9.heap ∧ va_D (va_A [(h0, .inr (10, [.ref tp, .int 0, .int (-1), .ref ps, .ref sp, .ref tk, .ref dr, .ref pr, .ref da, .ref nw, .ref im, .int 0, .ref ac, .ref ke, .ref si, .ref tx, .ref an, .ref dw])), (nw, .inr (6, [.ref nwt, .ref nwb, .int 0, .ref nwn, .ref nwi, .int 0, .ref nwr])), (nwt, .inr (9, [.ref nwtk, .ref nwtv, .ref nwte, .ref nwtd, .int 1])), (nwtk, .inl (y 0, 60, .inl (upd (fun _ => 0) 0 3))), (nwtd, .inl (y 0, 60, .inl (upd (fun _ => 0) 0 0))), (ps, .inl (y 3, 4, .inr (.inr (.inr (.inr (fun _ => none)))))), (an, .inl (y 1, 4, .inr (.inl (fun _ => 0)))), (ke, .inr (3, [.ref ke1, .ref ke2, .ref ke3, .ref ke4, .int 0])), (nwr, .inl (y 0, 3, .inl (fun _ => 0))), (ou, .inl (y 1, 1, .inr (.inl (fun _ => 0))))] sz) [(ou, .inl (y 1, 1, .inr (.inl g9)))]) (va_A [(h0, .inr (10, [.ref tp, .int 0, .int (-1), .ref ps, .ref sp, .ref tk, .ref dr, .ref pr, .ref da, .ref nw, .ref im, .int 0, .ref ac, .ref ke, .ref si, .ref tx, .ref an, .ref dw])), (nw, .inr (6, [.ref nwt, .ref nwb, .int 0, .ref nwn, .ref nwi, .int 0, .ref nwr])), (nwt, .inr (9, [.ref nwtk, .ref nwtv, .ref nwte, .ref nwtd, .int 1])), (nwtk, .inl (y 0, 60, .inl (upd (fun _ => 0) 0 3))), (nwtd, .inl (y 0, 60, .inl (upd (fun _ => 0) 0 0))), (ps, .inl (y 3, 4, .inr (.inr (.inr (.inr (fun _ => none)))))), (an, .inl (y 1, 4, .inr (.inl (fun _ => 0)))), (ke, .inr (3, [.ref ke1, .ref ke2, .ref ke3, .ref ke4, .int 0])), (nwr, .inl (y 0, 3, .inl (fun _ => 0))), (ou, .inl (y 1, 1, .inr (.inl (fun _ => 0))))] sz)) 1 6 (va_A [(h0, .inr (10, [.ref tp, .int 0, .int (-1), .ref ps, .ref sp, .ref tk, .ref dr, .ref pr, .ref da, .ref nw, .ref im, .int 0, .ref ac, .ref ke, .ref si, .ref tx, .ref an, .ref dw])), (nw, .inr (6, [.ref nwt, .ref nwb, .int 0, .ref nwn, .ref nwi, .int 0, .ref nwr])), (nwt, .inr (9, [.ref nwtk, .ref nwtv, .ref nwte, .ref nwtd, .int 1])), (nwtk, .inl (y 0, 60, .inl (upd (fun _ => 0) 0 3))), (nwtd, .inl (y 0, 60, .inl (upd (fun _ => 0) 0 0))), (ps, .inl (y 3, 4, .inr (.inr (.inr (.inr (fun _ => none)))))), (an, .inl (y 1, 4, .inr (.inl (fun _ => 0)))), (ke, .inr (3, [.ref ke1, .ref ke2, .ref ke3, .ref ke4, .int 0])), (nwr, .inl (y 0, 3, .inl (fun _ => 0))), (ou, .inl (y 1, 1, .inr (.inl (fun _ => 0))))] sz) := by
  refine va_MetW (cc := cL_count) (maxL := 4) (ret := (some .int)) (hh := [(0, 9, 12, 19)]) (by decide) rfl ?_
  intro p e s m args below meth c s₁ B hml hv
  obtain ⟨rfl, hsz, hP, hK, hD0, hXs⟩ := hv
  have hx := B.exec
  have hb := B.bytes
  have hr := B.returns
  have hts := atoms_spec (ws := wsL_count) B.pre
  have hown : s.vm.findClass RL = some m.cls := findClass_of_methodNamed B.named
  have hlocks := B.notSynchronized
  have htb := vx_table (hh := [(0, 9, 12, 19)]) B (hts _ List.mem_cons_self)
  subst hsz
  have hD := hD0.self (sz := s.heap.size)
  generalize hAe : va_A [(h0, .inr (10, [.ref tp, .int 0, .int (-1), .ref ps, .ref sp, .ref tk, .ref dr, .ref pr, .ref da, .ref nw, .ref im, .int 0, .ref ac, .ref ke, .ref si, .ref tx, .ref an, .ref dw])), (nw, .inr (6, [.ref nwt, .ref nwb, .int 0, .ref nwn, .ref nwi, .int 0, .ref nwr])), (nwt, .inr (9, [.ref nwtk, .ref nwtv, .ref nwte, .ref nwtd, .int 1])), (nwtk, .inl (y 0, 60, .inl (upd (fun _ => 0) 0 3))), (nwtd, .inl (y 0, 60, .inl (upd (fun _ => 0) 0 0))), (ps, .inl (y 3, 4, .inr (.inr (.inr (.inr (fun _ => none)))))), (an, .inl (y 1, 4, .inr (.inl (fun _ => 0)))), (ke, .inr (3, [.ref ke1, .ref ke2, .ref ke3, .ref ke4, .int 0])), (nwr, .inl (y 0, 3, .inl (fun _ => 0))), (ou, .inl (y 1, 1, .inr (.inl (fun _ => 0))))] s.heap.size = A at hD hXs ⊢
  have hA : ∀ q : Nat, s.heap.size ≤ q → A q := fun q h => by rw [← hAe]; exact Or.inr h
  have hS : va_S A s.heap s.heap [] := va_S.rf
  have hP : va_P G vwCl [(h0, .inr (10, [.ref tp, .int 0, .int (-1), .ref ps, .ref sp, .ref tk, .ref dr, .ref pr, .ref da, .ref nw, .ref im, .int 0, .ref ac, .ref ke, .ref si, .ref tx, .ref an, .ref dw])), (nw, .inr (6, [.ref nwt, .ref nwb, .int 0, .ref nwn, .ref nwi, .int 0, .ref nwr])), (nwt, .inr (9, [.ref nwtk, .ref nwtv, .ref nwte, .ref nwtd, .int 1])), (nwtk, .inl (y 0, 60, .inl (upd (fun _ => 0) 0 3))), (nwtd, .inl (y 0, 60, .inl (upd (fun _ => 0) 0 0))), (ps, .inl (y 3, 4, .inr (.inr (.inr (.inr (fun _ => none)))))), (an, .inl (y 1, 4, .inr (.inl (fun _ => 0)))), (ke, .inr (3, [.ref ke1, .ref ke2, .ref ke3, .ref ke4, .int 0])), (nwr, .inl (y 0, 3, .inl (fun _ => 0))), (ou, .inl (y 1, 1, .inr (.inl (fun _ => 0))))] s.heap := hP
  have hl := lv_entry ([.ref h0, .int i, .ref ou]) (n := 4) (Nat.le_of_ble_eq_true rfl)
  rw [lg_entry_eq]
  generalize (lg_sl ([.ref h0, .int i, .ref ou]) ++ List.replicate (4 - (lg_sl ([.ref h0, .int i, .ref ou])).length) Slot.unset).toArray = ls at hl ⊢
  have hl : lv_has ls 4 [(0, .ref h0), (1, .int i), (2, .ref ou)] := hl
  refine lv_aload_n hx hb dL_count_0 rfl (lv_at hl 2 rfl) ?_
  refine lv_iconst (v := 0) hx hb dL_count_1 (by decide) ?_
  refine lv_aload_n hx hb dL_count_2 rfl (lv_at hl 0 rfl) ?_
  refine lv_iload_n hx hb dL_count_3 rfl (lv_at hl 1 rfl) ?_
  refine nq_xi (wr := [(ou, .inl (y 1, 1, .inr (.inl (fun _ => 0))))]) (vx_runV (As := [.int i]) (rest := [.int 0, .ref ou]) ⟨hx, hb, hml, hown, hts⟩ (x_count l hl0 G y s.heap.size h0 tp ps sp tk dr pr da nw im ac ke si tx an dw nwt nwb nwn nwi nwr nwtk nwtv nwte nwtd ke1 ke2 ke3 ke4 i) (cwV 1 hts gL_count_X10_count rfl rfl rfl (by decide +kernel) ⟨Nat.le_of_ble_eq_true rfl, Nat.le_of_ble_eq_true rfl⟩) (nq_PXV hK hP hD hS hA hXs [0, 1, 2, 3, 4, 5, 6, 7, 8] rfl rfl 0 rfl rfl) rfl rfl hl.1 rfl (lv_room (Nat.le_of_ble_eq_true rfl)) dL_count_4 ⟨Nat.le_of_ble_eq_true rfl, Nat.le_of_ble_eq_true rfl⟩) hP hD hS hA [0, 1, 2, 3, 4, 5, 6, 7, 8] [9] rfl rfl (by decide) (by decide) (fun E ce q9 H locs hB hS hP hD h1 h2 h3 => ?_) (fun r u H locs hw hP hD hS => ?_)
  · obtain ⟨rfl, hc⟩ := hB
    have hP : va_P G vwCl [(ou, .inl (y 1, 1, .inr (.inl (fun _ => 0))))] H := hP
    have hD : va_D A [(ou, .inl (y 1, 1, .inr (.inl (fun _ => 0))))] := hD
    refine vx_catch (name := nq_NSE) hown [] (⟨0, 9, 12, 19⟩ : ExceptionTableEntry) [] htb (fun z hz => absurd hz (by simp)) (by decide) (by decide) (hts (.classLink RL 19 nq_NSE) (by decide +kernel)) (hXs.2.2.2.1.use) h1 h2 h3 ?_
    refine lv_astore_n (lv' := [(3, .ref q9), (0, .ref h0), (1, .int i), (2, .ref ou)]) hx hb dL_count_12 rfl hl (by decide) rfl (fun ls hl => ?_)
    refine lv_iconst (v := 1) hx hb dL_count_13 (by decide) ?_
    have hP9 := hP.sub (ws' := [(ou, .inl (y 1, 1, .inr (.inl (fun _ => 0))))]) [0] rfl
    have hD9 := hD.sub (ws' := [(ou, .inl (y 1, 1, .inr (.inl (fun _ => 0))))]) [0] (by decide) rfl
    refine W.widen (k := 1) (n := 6) (Nat.le_of_ble_eq_true rfl) (Nat.le_of_ble_eq_true rfl) ?_
    exact W.iret (v := 1) hx hb hr (fun t ht hW => ⟨⟨1, (fun _ => 0), rfl, ⟨hc.symm, fun h => absurd h (by decide)⟩, by rw [ht]; exact hP9, by first | exact hD9 | (rw [hAe]; exact hD9)⟩, hS.F ht⟩) hS.2.2 dL_count_14
  · have hP : va_P G vwCl [(ou, .inl (y 1, 1, .inr (.inl (fun _ => 0))))] H := hP
    have hD : va_D A [(ou, .inl (y 1, 1, .inr (.inl (fun _ => 0))))] := hD
    refine lv_i2l (v := r.toInt64) hx hb dL_count_7 rfl ?_
    refine va_last hx hb hK.1 hP hD hS 0 1 rfl rfl (i := 0) (nq_in (by decide)) dL_count_8 (fun H locs hP hD hS => ?_)
    have hP : va_P G vwCl [(ou, .inl (y 1, 1, .inr (.inl (vp_updL (fun _ => 0) 0 r.toInt64))))] H := hP
    have hD : va_D A [(ou, .inl (y 1, 1, .inr (.inl (vp_updL (fun _ => 0) 0 r.toInt64))))] := hD
    refine lv_goto (tgt := 15) hx hb dL_count_9 (by decide) ?_
    refine lv_iconst (v := 0) hx hb dL_count_15 (by decide) ?_
    have hP9 := hP.sub (ws' := [(ou, .inl (y 1, 1, .inr (.inl (vp_updL (fun _ => 0) 0 r.toInt64))))]) [0] rfl
    have hD9 := hD.sub (ws' := [(ou, .inl (y 1, 1, .inr (.inl (vp_updL (fun _ => 0) 0 r.toInt64))))]) [0] (by decide) rfl
    refine W.widen (k := 1) (n := 6) (Nat.le_of_ble_eq_true rfl) (Nat.le_of_ble_eq_true rfl) ?_
    exact W.iret (v := 0) hx hb hr (fun t ht hW => ⟨⟨0, (vp_updL (fun _ => 0) 0 r.toInt64), rfl, ⟨hw.1.symm, fun _ => by rw [pk_uLs, hw.2]⟩, by rw [ht]; exact hP9, by first | exact hD9 | (rw [hAe]; exact hD9)⟩, hS.F ht⟩) hS.2.2 dL_count_16

set_option maxHeartbeats 400000 in
set_option maxRecDepth 100000 in
theorem w_thing (l : Launch) (hl0 : l.stackTraces = false) (G : va_G) (y : Nat → ClassId) (sz : Nat) (h0 : Nat) (tp : Nat) (ps : Nat) (sp : Nat) (tk : Nat) (dr : Nat) (pr : Nat) (da : Nat) (nw : Nat) (im : Nat) (ac : Nat) (ke : Nat) (si : Nat) (tx : Nat) (an : Nat) (dw : Nat) (nwt : Nat) (nwb : Nat) (nwn : Nat) (nwi : Nat) (nwr : Nat) (nwtk : Nat) (nwtv : Nat) (nwte : Nat) (nwtd : Nat) (i : Int32) (j : Int32) (ou : Nat) : Met l yL_thing wsL_thing ({ frames := 8, cells := 2, slots := 12, locals := 143 }) (nq_PX G y sz [.ref h0, .int i, .int j, .ref ou] [(h0, .inr (10, [.ref tp, .int 0, .int (-1), .ref ps, .ref sp, .ref tk, .ref dr, .ref pr, .ref da, .ref nw, .ref im, .int 0, .ref ac, .ref ke, .ref si, .ref tx, .ref an, .ref dw])), (nw, .inr (6, [.ref nwt, .ref nwb, .int 0, .ref nwn, .ref nwi, .int 0, .ref nwr])), (nwt, .inr (9, [.ref nwtk, .ref nwtv, .ref nwte, .ref nwtd, .int 1])), (nwtk, .inl (y 0, 60, .inl (upd (fun _ => 0) 0 3))), (nwtd, .inl (y 0, 60, .inl (upd (fun _ => 0) 0 0))), (nwte, .inl (y 0, 60, .inl (upd (fun _ => 0) 0 0))), (ps, .inl (y 3, 4, .inr (.inr (.inr (.inr (fun _ => none)))))), (an, .inl (y 1, 4, .inr (.inl (fun _ => 0)))), (ou, .inl (y 1, 1, .inr (.inl (fun _ => 0))))]) (va_Qi (fun (r : Int32) (g9 : Nat → Int64) => r = (sp_thing i j).1 ∧ (r = 0 → g9 0 = (sp_thing i j).2.toInt64)) (fun (g9 : Nat → Int64) t9 => va_P G vwCl [(ou, .inl (y 1, 1, .inr (.inl g9)))] t9.heap ∧ va_D (va_A [(h0, .inr (10, [.ref tp, .int 0, .int (-1), .ref ps, .ref sp, .ref tk, .ref dr, .ref pr, .ref da, .ref nw, .ref im, .int 0, .ref ac, .ref ke, .ref si, .ref tx, .ref an, .ref dw])), (nw, .inr (6, [.ref nwt, .ref nwb, .int 0, .ref nwn, .ref nwi, .int 0, .ref nwr])), (nwt, .inr (9, [.ref nwtk, .ref nwtv, .ref nwte, .ref nwtd, .int 1])), (nwtk, .inl (y 0, 60, .inl (upd (fun _ => 0) 0 3))), (nwtd, .inl (y 0, 60, .inl (upd (fun _ => 0) 0 0))), (nwte, .inl (y 0, 60, .inl (upd (fun _ => 0) 0 0))), (ps, .inl (y 3, 4, .inr (.inr (.inr (.inr (fun _ => none)))))), (an, .inl (y 1, 4, .inr (.inl (fun _ => 0)))), (ou, .inl (y 1, 1, .inr (.inl (fun _ => 0))))] sz) [(ou, .inl (y 1, 1, .inr (.inl g9)))]) (va_A [(h0, .inr (10, [.ref tp, .int 0, .int (-1), .ref ps, .ref sp, .ref tk, .ref dr, .ref pr, .ref da, .ref nw, .ref im, .int 0, .ref ac, .ref ke, .ref si, .ref tx, .ref an, .ref dw])), (nw, .inr (6, [.ref nwt, .ref nwb, .int 0, .ref nwn, .ref nwi, .int 0, .ref nwr])), (nwt, .inr (9, [.ref nwtk, .ref nwtv, .ref nwte, .ref nwtd, .int 1])), (nwtk, .inl (y 0, 60, .inl (upd (fun _ => 0) 0 3))), (nwtd, .inl (y 0, 60, .inl (upd (fun _ => 0) 0 0))), (nwte, .inl (y 0, 60, .inl (upd (fun _ => 0) 0 0))), (ps, .inl (y 3, 4, .inr (.inr (.inr (.inr (fun _ => none)))))), (an, .inl (y 1, 4, .inr (.inl (fun _ => 0)))), (ou, .inl (y 1, 1, .inr (.inl (fun _ => 0))))] sz)) 2 12 (va_A [(h0, .inr (10, [.ref tp, .int 0, .int (-1), .ref ps, .ref sp, .ref tk, .ref dr, .ref pr, .ref da, .ref nw, .ref im, .int 0, .ref ac, .ref ke, .ref si, .ref tx, .ref an, .ref dw])), (nw, .inr (6, [.ref nwt, .ref nwb, .int 0, .ref nwn, .ref nwi, .int 0, .ref nwr])), (nwt, .inr (9, [.ref nwtk, .ref nwtv, .ref nwte, .ref nwtd, .int 1])), (nwtk, .inl (y 0, 60, .inl (upd (fun _ => 0) 0 3))), (nwtd, .inl (y 0, 60, .inl (upd (fun _ => 0) 0 0))), (nwte, .inl (y 0, 60, .inl (upd (fun _ => 0) 0 0))), (ps, .inl (y 3, 4, .inr (.inr (.inr (.inr (fun _ => none)))))), (an, .inl (y 1, 4, .inr (.inl (fun _ => 0)))), (ou, .inl (y 1, 1, .inr (.inl (fun _ => 0))))] sz) := by
  refine va_MetW (cc := cL_thing) (maxL := 5) (ret := (some .int)) (hh := [(0, 10, 13, 19)]) (by decide) rfl ?_
  intro p e s m args below meth c s₁ B hml hv
  obtain ⟨rfl, hsz, hP, hK, hD0, hXs⟩ := hv
  have hx := B.exec
  have hb := B.bytes
  have hr := B.returns
  have hts := atoms_spec (ws := wsL_thing) B.pre
  have hown : s.vm.findClass RL = some m.cls := findClass_of_methodNamed B.named
  have hlocks := B.notSynchronized
  have htb := vx_table (hh := [(0, 10, 13, 19)]) B (hts _ List.mem_cons_self)
  subst hsz
  have hD := hD0.self (sz := s.heap.size)
  generalize hAe : va_A [(h0, .inr (10, [.ref tp, .int 0, .int (-1), .ref ps, .ref sp, .ref tk, .ref dr, .ref pr, .ref da, .ref nw, .ref im, .int 0, .ref ac, .ref ke, .ref si, .ref tx, .ref an, .ref dw])), (nw, .inr (6, [.ref nwt, .ref nwb, .int 0, .ref nwn, .ref nwi, .int 0, .ref nwr])), (nwt, .inr (9, [.ref nwtk, .ref nwtv, .ref nwte, .ref nwtd, .int 1])), (nwtk, .inl (y 0, 60, .inl (upd (fun _ => 0) 0 3))), (nwtd, .inl (y 0, 60, .inl (upd (fun _ => 0) 0 0))), (nwte, .inl (y 0, 60, .inl (upd (fun _ => 0) 0 0))), (ps, .inl (y 3, 4, .inr (.inr (.inr (.inr (fun _ => none)))))), (an, .inl (y 1, 4, .inr (.inl (fun _ => 0)))), (ou, .inl (y 1, 1, .inr (.inl (fun _ => 0))))] s.heap.size = A at hD hXs ⊢
  have hA : ∀ q : Nat, s.heap.size ≤ q → A q := fun q h => by rw [← hAe]; exact Or.inr h
  have hS : va_S A s.heap s.heap [] := va_S.rf
  have hP : va_P G vwCl [(h0, .inr (10, [.ref tp, .int 0, .int (-1), .ref ps, .ref sp, .ref tk, .ref dr, .ref pr, .ref da, .ref nw, .ref im, .int 0, .ref ac, .ref ke, .ref si, .ref tx, .ref an, .ref dw])), (nw, .inr (6, [.ref nwt, .ref nwb, .int 0, .ref nwn, .ref nwi, .int 0, .ref nwr])), (nwt, .inr (9, [.ref nwtk, .ref nwtv, .ref nwte, .ref nwtd, .int 1])), (nwtk, .inl (y 0, 60, .inl (upd (fun _ => 0) 0 3))), (nwtd, .inl (y 0, 60, .inl (upd (fun _ => 0) 0 0))), (nwte, .inl (y 0, 60, .inl (upd (fun _ => 0) 0 0))), (ps, .inl (y 3, 4, .inr (.inr (.inr (.inr (fun _ => none)))))), (an, .inl (y 1, 4, .inr (.inl (fun _ => 0)))), (ou, .inl (y 1, 1, .inr (.inl (fun _ => 0))))] s.heap := hP
  have hl := lv_entry ([.ref h0, .int i, .int j, .ref ou]) (n := 5) (Nat.le_of_ble_eq_true rfl)
  rw [lg_entry_eq]
  generalize (lg_sl ([.ref h0, .int i, .int j, .ref ou]) ++ List.replicate (5 - (lg_sl ([.ref h0, .int i, .int j, .ref ou])).length) Slot.unset).toArray = ls at hl ⊢
  have hl : lv_has ls 5 [(0, .ref h0), (1, .int i), (2, .int j), (3, .ref ou)] := hl
  refine lv_aload_n hx hb dL_thing_0 rfl (lv_at hl 3 rfl) ?_
  refine lv_iconst (v := 0) hx hb dL_thing_1 (by decide) ?_
  refine lv_aload_n hx hb dL_thing_2 rfl (lv_at hl 0 rfl) ?_
  refine lv_iload_n hx hb dL_thing_3 rfl (lv_at hl 1 rfl) ?_
  refine lv_iload_n hx hb dL_thing_4 rfl (lv_at hl 2 rfl) ?_
  refine nq_xi (wr := [(ou, .inl (y 1, 1, .inr (.inl (fun _ => 0))))]) (vx_runV (As := [.int i, .int j]) (rest := [.int 0, .ref ou]) ⟨hx, hb, hml, hown, hts⟩ (x_thing l hl0 G y s.heap.size h0 tp ps sp tk dr pr da nw im ac ke si tx an dw nwt nwb nwn nwi nwr nwtk nwtv nwte nwtd i j) (cwV 2 hts gL_thing_X10_thing rfl rfl rfl (by decide +kernel) ⟨Nat.le_of_ble_eq_true rfl, Nat.le_of_ble_eq_true rfl⟩) (nq_PXV hK hP hD hS hA hXs [0, 1, 2, 3, 4, 5, 6, 7] rfl rfl 0 rfl rfl) rfl rfl hl.1 rfl (lv_room (Nat.le_of_ble_eq_true rfl)) dL_thing_5 ⟨Nat.le_of_ble_eq_true rfl, Nat.le_of_ble_eq_true rfl⟩) hP hD hS hA [0, 1, 2, 3, 4, 5, 6, 7] [8] rfl rfl (by decide) (by decide) (fun E ce q9 H locs hB hS hP hD h1 h2 h3 => ?_) (fun r u H locs hw hP hD hS => ?_)
  · obtain ⟨rfl, hc⟩ := hB
    have hP : va_P G vwCl [(ou, .inl (y 1, 1, .inr (.inl (fun _ => 0))))] H := hP
    have hD : va_D A [(ou, .inl (y 1, 1, .inr (.inl (fun _ => 0))))] := hD
    refine vx_catch (name := nq_NSE) hown [] (⟨0, 10, 13, 19⟩ : ExceptionTableEntry) [] htb (fun z hz => absurd hz (by simp)) (by decide) (by decide) (hts (.classLink RL 19 nq_NSE) (by decide +kernel)) (hXs.2.2.2.1.use) h1 h2 h3 ?_
    refine lv_astore (lv' := [(4, .ref q9), (0, .ref h0), (1, .int i), (2, .int j), (3, .ref ou)]) hx hb dL_thing_13 hl (by decide) rfl (fun ls hl => ?_)
    refine lv_iconst (v := 1) hx hb dL_thing_15 (by decide) ?_
    have hP9 := hP.sub (ws' := [(ou, .inl (y 1, 1, .inr (.inl (fun _ => 0))))]) [0] rfl
    have hD9 := hD.sub (ws' := [(ou, .inl (y 1, 1, .inr (.inl (fun _ => 0))))]) [0] (by decide) rfl
    refine W.widen (k := 2) (n := 12) (Nat.le_of_ble_eq_true rfl) (Nat.le_of_ble_eq_true rfl) ?_
    exact W.iret (v := 1) hx hb hr (fun t ht hW => ⟨⟨1, (fun _ => 0), rfl, ⟨hc.symm, fun h => absurd h (by decide)⟩, by rw [ht]; exact hP9, by first | exact hD9 | (rw [hAe]; exact hD9)⟩, hS.F ht⟩) hS.2.2 dL_thing_16
  · have hP : va_P G vwCl [(ou, .inl (y 1, 1, .inr (.inl (fun _ => 0))))] H := hP
    have hD : va_D A [(ou, .inl (y 1, 1, .inr (.inl (fun _ => 0))))] := hD
    refine lv_i2l (v := r.toInt64) hx hb dL_thing_8 rfl ?_
    refine va_last hx hb hK.1 hP hD hS 0 1 rfl rfl (i := 0) (nq_in (by decide)) dL_thing_9 (fun H locs hP hD hS => ?_)
    have hP : va_P G vwCl [(ou, .inl (y 1, 1, .inr (.inl (vp_updL (fun _ => 0) 0 r.toInt64))))] H := hP
    have hD : va_D A [(ou, .inl (y 1, 1, .inr (.inl (vp_updL (fun _ => 0) 0 r.toInt64))))] := hD
    refine lv_goto (tgt := 17) hx hb dL_thing_10 (by decide) ?_
    refine lv_iconst (v := 0) hx hb dL_thing_17 (by decide) ?_
    have hP9 := hP.sub (ws' := [(ou, .inl (y 1, 1, .inr (.inl (vp_updL (fun _ => 0) 0 r.toInt64))))]) [0] rfl
    have hD9 := hD.sub (ws' := [(ou, .inl (y 1, 1, .inr (.inl (vp_updL (fun _ => 0) 0 r.toInt64))))]) [0] (by decide) rfl
    refine W.widen (k := 2) (n := 12) (Nat.le_of_ble_eq_true rfl) (Nat.le_of_ble_eq_true rfl) ?_
    exact W.iret (v := 0) hx hb hr (fun t ht hW => ⟨⟨0, (vp_updL (fun _ => 0) 0 r.toInt64), rfl, ⟨hw.1.symm, fun _ => by rw [pk_uLs, hw.2]⟩, by rw [ht]; exact hP9, by first | exact hD9 | (rw [hAe]; exact hD9)⟩, hS.F ht⟩) hS.2.2 dL_thing_18

set_option maxHeartbeats 400000 in
set_option maxRecDepth 100000 in
theorem w_within (l : Launch) (hl0 : l.stackTraces = false) (G : va_G) (y : Nat → ClassId) (sz : Nat) (h0 : Nat) (tp : Nat) (ps : Nat) (sp : Nat) (tk : Nat) (dr : Nat) (pr : Nat) (da : Nat) (nw : Nat) (im : Nat) (ac : Nat) (ke : Nat) (si : Nat) (tx : Nat) (an : Nat) (dw : Nat) (nwt : Nat) (nwb : Nat) (nwn : Nat) (nwi : Nat) (nwr : Nat) (nwtk : Nat) (nwtv : Nat) (nwte : Nat) (nwtd : Nat) (i : Int32) (j : Int32) (ou : Nat) : Met l yL_within wsL_within ({ frames := 8, cells := 2, slots := 12, locals := 144 }) (nq_PX G y sz [.ref h0, .int i, .int j, .ref ou] [(h0, .inr (10, [.ref tp, .int 0, .int (-1), .ref ps, .ref sp, .ref tk, .ref dr, .ref pr, .ref da, .ref nw, .ref im, .int 0, .ref ac, .ref ke, .ref si, .ref tx, .ref an, .ref dw])), (nw, .inr (6, [.ref nwt, .ref nwb, .int 0, .ref nwn, .ref nwi, .int 0, .ref nwr])), (nwt, .inr (9, [.ref nwtk, .ref nwtv, .ref nwte, .ref nwtd, .int 1])), (nwtk, .inl (y 0, 60, .inl (upd (fun _ => 0) 0 3))), (ou, .inl (y 1, 1, .inr (.inl (fun _ => 0))))]) (va_Qi (fun (r : Int32) (g9 : Nat → Int64) => r = (sp_within i j).1 ∧ (r = 0 → g9 0 = (sp_within i j).2.toInt64)) (fun (g9 : Nat → Int64) t9 => va_P G vwCl [(ou, .inl (y 1, 1, .inr (.inl g9)))] t9.heap ∧ va_D (va_A [(h0, .inr (10, [.ref tp, .int 0, .int (-1), .ref ps, .ref sp, .ref tk, .ref dr, .ref pr, .ref da, .ref nw, .ref im, .int 0, .ref ac, .ref ke, .ref si, .ref tx, .ref an, .ref dw])), (nw, .inr (6, [.ref nwt, .ref nwb, .int 0, .ref nwn, .ref nwi, .int 0, .ref nwr])), (nwt, .inr (9, [.ref nwtk, .ref nwtv, .ref nwte, .ref nwtd, .int 1])), (nwtk, .inl (y 0, 60, .inl (upd (fun _ => 0) 0 3))), (ou, .inl (y 1, 1, .inr (.inl (fun _ => 0))))] sz) [(ou, .inl (y 1, 1, .inr (.inl g9)))]) (va_A [(h0, .inr (10, [.ref tp, .int 0, .int (-1), .ref ps, .ref sp, .ref tk, .ref dr, .ref pr, .ref da, .ref nw, .ref im, .int 0, .ref ac, .ref ke, .ref si, .ref tx, .ref an, .ref dw])), (nw, .inr (6, [.ref nwt, .ref nwb, .int 0, .ref nwn, .ref nwi, .int 0, .ref nwr])), (nwt, .inr (9, [.ref nwtk, .ref nwtv, .ref nwte, .ref nwtd, .int 1])), (nwtk, .inl (y 0, 60, .inl (upd (fun _ => 0) 0 3))), (ou, .inl (y 1, 1, .inr (.inl (fun _ => 0))))] sz)) 2 12 (va_A [(h0, .inr (10, [.ref tp, .int 0, .int (-1), .ref ps, .ref sp, .ref tk, .ref dr, .ref pr, .ref da, .ref nw, .ref im, .int 0, .ref ac, .ref ke, .ref si, .ref tx, .ref an, .ref dw])), (nw, .inr (6, [.ref nwt, .ref nwb, .int 0, .ref nwn, .ref nwi, .int 0, .ref nwr])), (nwt, .inr (9, [.ref nwtk, .ref nwtv, .ref nwte, .ref nwtd, .int 1])), (nwtk, .inl (y 0, 60, .inl (upd (fun _ => 0) 0 3))), (ou, .inl (y 1, 1, .inr (.inl (fun _ => 0))))] sz) := by
  refine va_MetW (cc := cL_within) (maxL := 5) (ret := (some .int)) (hh := [(0, 10, 13, 19)]) (by decide) rfl ?_
  intro p e s m args below meth c s₁ B hml hv
  obtain ⟨rfl, hsz, hP, hK, hD0, hXs⟩ := hv
  have hx := B.exec
  have hb := B.bytes
  have hr := B.returns
  have hts := atoms_spec (ws := wsL_within) B.pre
  have hown : s.vm.findClass RL = some m.cls := findClass_of_methodNamed B.named
  have hlocks := B.notSynchronized
  have htb := vx_table (hh := [(0, 10, 13, 19)]) B (hts _ List.mem_cons_self)
  subst hsz
  have hD := hD0.self (sz := s.heap.size)
  generalize hAe : va_A [(h0, .inr (10, [.ref tp, .int 0, .int (-1), .ref ps, .ref sp, .ref tk, .ref dr, .ref pr, .ref da, .ref nw, .ref im, .int 0, .ref ac, .ref ke, .ref si, .ref tx, .ref an, .ref dw])), (nw, .inr (6, [.ref nwt, .ref nwb, .int 0, .ref nwn, .ref nwi, .int 0, .ref nwr])), (nwt, .inr (9, [.ref nwtk, .ref nwtv, .ref nwte, .ref nwtd, .int 1])), (nwtk, .inl (y 0, 60, .inl (upd (fun _ => 0) 0 3))), (ou, .inl (y 1, 1, .inr (.inl (fun _ => 0))))] s.heap.size = A at hD hXs ⊢
  have hA : ∀ q : Nat, s.heap.size ≤ q → A q := fun q h => by rw [← hAe]; exact Or.inr h
  have hS : va_S A s.heap s.heap [] := va_S.rf
  have hP : va_P G vwCl [(h0, .inr (10, [.ref tp, .int 0, .int (-1), .ref ps, .ref sp, .ref tk, .ref dr, .ref pr, .ref da, .ref nw, .ref im, .int 0, .ref ac, .ref ke, .ref si, .ref tx, .ref an, .ref dw])), (nw, .inr (6, [.ref nwt, .ref nwb, .int 0, .ref nwn, .ref nwi, .int 0, .ref nwr])), (nwt, .inr (9, [.ref nwtk, .ref nwtv, .ref nwte, .ref nwtd, .int 1])), (nwtk, .inl (y 0, 60, .inl (upd (fun _ => 0) 0 3))), (ou, .inl (y 1, 1, .inr (.inl (fun _ => 0))))] s.heap := hP
  have hl := lv_entry ([.ref h0, .int i, .int j, .ref ou]) (n := 5) (Nat.le_of_ble_eq_true rfl)
  rw [lg_entry_eq]
  generalize (lg_sl ([.ref h0, .int i, .int j, .ref ou]) ++ List.replicate (5 - (lg_sl ([.ref h0, .int i, .int j, .ref ou])).length) Slot.unset).toArray = ls at hl ⊢
  have hl : lv_has ls 5 [(0, .ref h0), (1, .int i), (2, .int j), (3, .ref ou)] := hl
  refine lv_aload_n hx hb dL_within_0 rfl (lv_at hl 3 rfl) ?_
  refine lv_iconst (v := 0) hx hb dL_within_1 (by decide) ?_
  refine lv_aload_n hx hb dL_within_2 rfl (lv_at hl 0 rfl) ?_
  refine lv_iload_n hx hb dL_within_3 rfl (lv_at hl 1 rfl) ?_
  refine lv_iload_n hx hb dL_within_4 rfl (lv_at hl 2 rfl) ?_
  refine nq_xi (wr := [(ou, .inl (y 1, 1, .inr (.inl (fun _ => 0))))]) (vx_runV (As := [.int i, .int j]) (rest := [.int 0, .ref ou]) ⟨hx, hb, hml, hown, hts⟩ (x_within l hl0 G y s.heap.size h0 tp ps sp tk dr pr da nw im ac ke si tx an dw nwt nwb nwn nwi nwr nwtk nwtv nwte nwtd i j) (cwV 2 hts gL_within_X10_within rfl rfl rfl (by decide +kernel) ⟨Nat.le_of_ble_eq_true rfl, Nat.le_of_ble_eq_true rfl⟩) (nq_PXV hK hP hD hS hA hXs [0, 1, 2, 3] rfl rfl 0 rfl rfl) rfl rfl hl.1 rfl (lv_room (Nat.le_of_ble_eq_true rfl)) dL_within_5 ⟨Nat.le_of_ble_eq_true rfl, Nat.le_of_ble_eq_true rfl⟩) hP hD hS hA [0, 1, 2, 3] [4] rfl rfl (by decide) (by decide) (fun E ce q9 H locs hB hS hP hD h1 h2 h3 => ?_) (fun r u H locs hw hP hD hS => ?_)
  · obtain ⟨rfl, hc⟩ := hB
    have hP : va_P G vwCl [(ou, .inl (y 1, 1, .inr (.inl (fun _ => 0))))] H := hP
    have hD : va_D A [(ou, .inl (y 1, 1, .inr (.inl (fun _ => 0))))] := hD
    refine vx_catch (name := nq_NSE) hown [] (⟨0, 10, 13, 19⟩ : ExceptionTableEntry) [] htb (fun z hz => absurd hz (by simp)) (by decide) (by decide) (hts (.classLink RL 19 nq_NSE) (by decide +kernel)) (hXs.2.2.2.1.use) h1 h2 h3 ?_
    refine lv_astore (lv' := [(4, .ref q9), (0, .ref h0), (1, .int i), (2, .int j), (3, .ref ou)]) hx hb dL_within_13 hl (by decide) rfl (fun ls hl => ?_)
    refine lv_iconst (v := 1) hx hb dL_within_15 (by decide) ?_
    have hP9 := hP.sub (ws' := [(ou, .inl (y 1, 1, .inr (.inl (fun _ => 0))))]) [0] rfl
    have hD9 := hD.sub (ws' := [(ou, .inl (y 1, 1, .inr (.inl (fun _ => 0))))]) [0] (by decide) rfl
    refine W.widen (k := 2) (n := 12) (Nat.le_of_ble_eq_true rfl) (Nat.le_of_ble_eq_true rfl) ?_
    exact W.iret (v := 1) hx hb hr (fun t ht hW => ⟨⟨1, (fun _ => 0), rfl, ⟨hc.symm, fun h => absurd h (by decide)⟩, by rw [ht]; exact hP9, by first | exact hD9 | (rw [hAe]; exact hD9)⟩, hS.F ht⟩) hS.2.2 dL_within_16
  · have hP : va_P G vwCl [(ou, .inl (y 1, 1, .inr (.inl (fun _ => 0))))] H := hP
    have hD : va_D A [(ou, .inl (y 1, 1, .inr (.inl (fun _ => 0))))] := hD
    refine lv_i2l (v := r.toInt64) hx hb dL_within_8 rfl ?_
    refine va_last hx hb hK.1 hP hD hS 0 1 rfl rfl (i := 0) (nq_in (by decide)) dL_within_9 (fun H locs hP hD hS => ?_)
    have hP : va_P G vwCl [(ou, .inl (y 1, 1, .inr (.inl (vp_updL (fun _ => 0) 0 r.toInt64))))] H := hP
    have hD : va_D A [(ou, .inl (y 1, 1, .inr (.inl (vp_updL (fun _ => 0) 0 r.toInt64))))] := hD
    refine lv_goto (tgt := 17) hx hb dL_within_10 (by decide) ?_
    refine lv_iconst (v := 0) hx hb dL_within_17 (by decide) ?_
    have hP9 := hP.sub (ws' := [(ou, .inl (y 1, 1, .inr (.inl (vp_updL (fun _ => 0) 0 r.toInt64))))]) [0] rfl
    have hD9 := hD.sub (ws' := [(ou, .inl (y 1, 1, .inr (.inl (vp_updL (fun _ => 0) 0 r.toInt64))))]) [0] (by decide) rfl
    refine W.widen (k := 2) (n := 12) (Nat.le_of_ble_eq_true rfl) (Nat.le_of_ble_eq_true rfl) ?_
    exact W.iret (v := 0) hx hb hr (fun t ht hW => ⟨⟨0, (vp_updL (fun _ => 0) 0 r.toInt64), rfl, ⟨hw.1.symm, fun _ => by rw [pk_uLs, hw.2]⟩, by rw [ht]; exact hP9, by first | exact hD9 | (rw [hAe]; exact hD9)⟩, hS.F ht⟩) hS.2.2 dL_within_18

set_option maxHeartbeats 400000 in
set_option maxRecDepth 100000 in
theorem w_told (l : Launch) (hl0 : l.stackTraces = false) (G : va_G) (y : Nat → ClassId) (sz : Nat) (h0 : Nat) (tp : Nat) (ps : Nat) (sp : Nat) (tk : Nat) (dr : Nat) (pr : Nat) (da : Nat) (nw : Nat) (im : Nat) (ac : Nat) (ke : Nat) (si : Nat) (tx : Nat) (an : Nat) (dw : Nat) (nwt : Nat) (nwb : Nat) (nwn : Nat) (nwi : Nat) (nwr : Nat) (nwtk : Nat) (nwtv : Nat) (nwte : Nat) (nwtd : Nat) (txb : Nat) (i : Int32) (b : Int32) (j : Int32) (ou : Nat) : Met l yL_told wsL_told ({ frames := 8, cells := 2, slots := 12, locals := 144 }) (nq_PX G y sz [.ref h0, .int i, .int b, .int j, .ref ou] [(h0, .inr (10, [.ref tp, .int 0, .int (-1), .ref ps, .ref sp, .ref tk, .ref dr, .ref pr, .ref da, .ref nw, .ref im, .int 0, .ref ac, .ref ke, .ref si, .ref tx, .ref an, .ref dw])), (nw, .inr (6, [.ref nwt, .ref nwb, .int 0, .ref nwn, .ref nwi, .int 0, .ref nwr])), (nwt, .inr (9, [.ref nwtk, .ref nwtv, .ref nwte, .ref nwtd, .int 1])), (nwtk, .inl (y 0, 60, .inl (upd (fun _ => 0) 0 3))), (nwtd, .inl (y 0, 60, .inl (upd (fun _ => 0) 0 0))), (tx, .inr (7, [.ref txb, .int 0])), (txb, .inl (y 0, 1024, .inl (fun _ => 0))), (ou, .inl (y 1, 1, .inr (.inl (fun _ => 0))))]) (va_Qi (fun (r : Int32) (g9 : Nat → Int64) => r = (sp_told i b j).1 ∧ (r = 0 → g9 0 = (sp_told i b j).2.toInt64)) (fun (g9 : Nat → Int64) t9 => va_P G vwCl [(ou, .inl (y 1, 1, .inr (.inl g9)))] t9.heap ∧ va_D (va_A [(h0, .inr (10, [.ref tp, .int 0, .int (-1), .ref ps, .ref sp, .ref tk, .ref dr, .ref pr, .ref da, .ref nw, .ref im, .int 0, .ref ac, .ref ke, .ref si, .ref tx, .ref an, .ref dw])), (nw, .inr (6, [.ref nwt, .ref nwb, .int 0, .ref nwn, .ref nwi, .int 0, .ref nwr])), (nwt, .inr (9, [.ref nwtk, .ref nwtv, .ref nwte, .ref nwtd, .int 1])), (nwtk, .inl (y 0, 60, .inl (upd (fun _ => 0) 0 3))), (nwtd, .inl (y 0, 60, .inl (upd (fun _ => 0) 0 0))), (tx, .inr (7, [.ref txb, .int 0])), (txb, .inl (y 0, 1024, .inl (fun _ => 0))), (ou, .inl (y 1, 1, .inr (.inl (fun _ => 0))))] sz) [(ou, .inl (y 1, 1, .inr (.inl g9)))]) (va_A [(h0, .inr (10, [.ref tp, .int 0, .int (-1), .ref ps, .ref sp, .ref tk, .ref dr, .ref pr, .ref da, .ref nw, .ref im, .int 0, .ref ac, .ref ke, .ref si, .ref tx, .ref an, .ref dw])), (nw, .inr (6, [.ref nwt, .ref nwb, .int 0, .ref nwn, .ref nwi, .int 0, .ref nwr])), (nwt, .inr (9, [.ref nwtk, .ref nwtv, .ref nwte, .ref nwtd, .int 1])), (nwtk, .inl (y 0, 60, .inl (upd (fun _ => 0) 0 3))), (nwtd, .inl (y 0, 60, .inl (upd (fun _ => 0) 0 0))), (tx, .inr (7, [.ref txb, .int 0])), (txb, .inl (y 0, 1024, .inl (fun _ => 0))), (ou, .inl (y 1, 1, .inr (.inl (fun _ => 0))))] sz)) 2 12 (va_A [(h0, .inr (10, [.ref tp, .int 0, .int (-1), .ref ps, .ref sp, .ref tk, .ref dr, .ref pr, .ref da, .ref nw, .ref im, .int 0, .ref ac, .ref ke, .ref si, .ref tx, .ref an, .ref dw])), (nw, .inr (6, [.ref nwt, .ref nwb, .int 0, .ref nwn, .ref nwi, .int 0, .ref nwr])), (nwt, .inr (9, [.ref nwtk, .ref nwtv, .ref nwte, .ref nwtd, .int 1])), (nwtk, .inl (y 0, 60, .inl (upd (fun _ => 0) 0 3))), (nwtd, .inl (y 0, 60, .inl (upd (fun _ => 0) 0 0))), (tx, .inr (7, [.ref txb, .int 0])), (txb, .inl (y 0, 1024, .inl (fun _ => 0))), (ou, .inl (y 1, 1, .inr (.inl (fun _ => 0))))] sz) := by
  refine va_MetW (cc := cL_told) (maxL := 6) (ret := (some .int)) (hh := [(0, 12, 15, 19)]) (by decide) rfl ?_
  intro p e s m args below meth c s₁ B hml hv
  obtain ⟨rfl, hsz, hP, hK, hD0, hXs⟩ := hv
  have hx := B.exec
  have hb := B.bytes
  have hr := B.returns
  have hts := atoms_spec (ws := wsL_told) B.pre
  have hown : s.vm.findClass RL = some m.cls := findClass_of_methodNamed B.named
  have hlocks := B.notSynchronized
  have htb := vx_table (hh := [(0, 12, 15, 19)]) B (hts _ List.mem_cons_self)
  subst hsz
  have hD := hD0.self (sz := s.heap.size)
  generalize hAe : va_A [(h0, .inr (10, [.ref tp, .int 0, .int (-1), .ref ps, .ref sp, .ref tk, .ref dr, .ref pr, .ref da, .ref nw, .ref im, .int 0, .ref ac, .ref ke, .ref si, .ref tx, .ref an, .ref dw])), (nw, .inr (6, [.ref nwt, .ref nwb, .int 0, .ref nwn, .ref nwi, .int 0, .ref nwr])), (nwt, .inr (9, [.ref nwtk, .ref nwtv, .ref nwte, .ref nwtd, .int 1])), (nwtk, .inl (y 0, 60, .inl (upd (fun _ => 0) 0 3))), (nwtd, .inl (y 0, 60, .inl (upd (fun _ => 0) 0 0))), (tx, .inr (7, [.ref txb, .int 0])), (txb, .inl (y 0, 1024, .inl (fun _ => 0))), (ou, .inl (y 1, 1, .inr (.inl (fun _ => 0))))] s.heap.size = A at hD hXs ⊢
  have hA : ∀ q : Nat, s.heap.size ≤ q → A q := fun q h => by rw [← hAe]; exact Or.inr h
  have hS : va_S A s.heap s.heap [] := va_S.rf
  have hP : va_P G vwCl [(h0, .inr (10, [.ref tp, .int 0, .int (-1), .ref ps, .ref sp, .ref tk, .ref dr, .ref pr, .ref da, .ref nw, .ref im, .int 0, .ref ac, .ref ke, .ref si, .ref tx, .ref an, .ref dw])), (nw, .inr (6, [.ref nwt, .ref nwb, .int 0, .ref nwn, .ref nwi, .int 0, .ref nwr])), (nwt, .inr (9, [.ref nwtk, .ref nwtv, .ref nwte, .ref nwtd, .int 1])), (nwtk, .inl (y 0, 60, .inl (upd (fun _ => 0) 0 3))), (nwtd, .inl (y 0, 60, .inl (upd (fun _ => 0) 0 0))), (tx, .inr (7, [.ref txb, .int 0])), (txb, .inl (y 0, 1024, .inl (fun _ => 0))), (ou, .inl (y 1, 1, .inr (.inl (fun _ => 0))))] s.heap := hP
  have hl := lv_entry ([.ref h0, .int i, .int b, .int j, .ref ou]) (n := 6) (Nat.le_of_ble_eq_true rfl)
  rw [lg_entry_eq]
  generalize (lg_sl ([.ref h0, .int i, .int b, .int j, .ref ou]) ++ List.replicate (6 - (lg_sl ([.ref h0, .int i, .int b, .int j, .ref ou])).length) Slot.unset).toArray = ls at hl ⊢
  have hl : lv_has ls 6 [(0, .ref h0), (1, .int i), (2, .int b), (3, .int j), (4, .ref ou)] := hl
  refine lv_aload hx hb dL_told_0 (lv_at hl 4 rfl) ?_
  refine lv_iconst (v := 0) hx hb dL_told_2 (by decide) ?_
  refine lv_aload_n hx hb dL_told_3 rfl (lv_at hl 0 rfl) ?_
  refine lv_iload_n hx hb dL_told_4 rfl (lv_at hl 1 rfl) ?_
  refine lv_iload_n hx hb dL_told_5 rfl (lv_at hl 2 rfl) ?_
  refine lv_iload_n hx hb dL_told_6 rfl (lv_at hl 3 rfl) ?_
  refine nq_xi (wr := [(ou, .inl (y 1, 1, .inr (.inl (fun _ => 0))))]) (vx_runV (As := [.int i, .int b, .int j]) (rest := [.int 0, .ref ou]) ⟨hx, hb, hml, hown, hts⟩ (x_told l hl0 G y s.heap.size h0 tp ps sp tk dr pr da nw im ac ke si tx an dw nwt nwb nwn nwi nwr nwtk nwtv nwte nwtd txb i b j) (cwV 3 hts gL_told_X10_told rfl rfl rfl (by decide +kernel) ⟨Nat.le_of_ble_eq_true rfl, Nat.le_of_ble_eq_true rfl⟩) (nq_PXV hK hP hD hS hA hXs [0, 1, 2, 3, 4, 5, 6] rfl rfl 0 rfl rfl) rfl rfl hl.1 rfl (lv_room (Nat.le_of_ble_eq_true rfl)) dL_told_7 ⟨Nat.le_of_ble_eq_true rfl, Nat.le_of_ble_eq_true rfl⟩) hP hD hS hA [0, 1, 2, 3, 4, 5, 6] [7] rfl rfl (by decide) (by decide) (fun E ce q9 H locs hB hS hP hD h1 h2 h3 => ?_) (fun r u H locs hw hP hD hS => ?_)
  · obtain ⟨rfl, hc⟩ := hB
    have hP : va_P G vwCl [(ou, .inl (y 1, 1, .inr (.inl (fun _ => 0))))] H := hP
    have hD : va_D A [(ou, .inl (y 1, 1, .inr (.inl (fun _ => 0))))] := hD
    refine vx_catch (name := nq_NSE) hown [] (⟨0, 12, 15, 19⟩ : ExceptionTableEntry) [] htb (fun z hz => absurd hz (by simp)) (by decide) (by decide) (hts (.classLink RL 19 nq_NSE) (by decide +kernel)) (hXs.2.2.2.1.use) h1 h2 h3 ?_
    refine lv_astore (lv' := [(5, .ref q9), (0, .ref h0), (1, .int i), (2, .int b), (3, .int j), (4, .ref ou)]) hx hb dL_told_15 hl (by decide) rfl (fun ls hl => ?_)
    refine lv_iconst (v := 1) hx hb dL_told_17 (by decide) ?_
    have hP9 := hP.sub (ws' := [(ou, .inl (y 1, 1, .inr (.inl (fun _ => 0))))]) [0] rfl
    have hD9 := hD.sub (ws' := [(ou, .inl (y 1, 1, .inr (.inl (fun _ => 0))))]) [0] (by decide) rfl
    refine W.widen (k := 2) (n := 12) (Nat.le_of_ble_eq_true rfl) (Nat.le_of_ble_eq_true rfl) ?_
    exact W.iret (v := 1) hx hb hr (fun t ht hW => ⟨⟨1, (fun _ => 0), rfl, ⟨hc.symm, fun h => absurd h (by decide)⟩, by rw [ht]; exact hP9, by first | exact hD9 | (rw [hAe]; exact hD9)⟩, hS.F ht⟩) hS.2.2 dL_told_18
  · have hP : va_P G vwCl [(ou, .inl (y 1, 1, .inr (.inl (fun _ => 0))))] H := hP
    have hD : va_D A [(ou, .inl (y 1, 1, .inr (.inl (fun _ => 0))))] := hD
    refine lv_i2l (v := r.toInt64) hx hb dL_told_10 rfl ?_
    refine va_last hx hb hK.1 hP hD hS 0 1 rfl rfl (i := 0) (nq_in (by decide)) dL_told_11 (fun H locs hP hD hS => ?_)
    have hP : va_P G vwCl [(ou, .inl (y 1, 1, .inr (.inl (vp_updL (fun _ => 0) 0 r.toInt64))))] H := hP
    have hD : va_D A [(ou, .inl (y 1, 1, .inr (.inl (vp_updL (fun _ => 0) 0 r.toInt64))))] := hD
    refine lv_goto (tgt := 19) hx hb dL_told_12 (by decide) ?_
    refine lv_iconst (v := 0) hx hb dL_told_19 (by decide) ?_
    have hP9 := hP.sub (ws' := [(ou, .inl (y 1, 1, .inr (.inl (vp_updL (fun _ => 0) 0 r.toInt64))))]) [0] rfl
    have hD9 := hD.sub (ws' := [(ou, .inl (y 1, 1, .inr (.inl (vp_updL (fun _ => 0) 0 r.toInt64))))]) [0] (by decide) rfl
    refine W.widen (k := 2) (n := 12) (Nat.le_of_ble_eq_true rfl) (Nat.le_of_ble_eq_true rfl) ?_
    exact W.iret (v := 0) hx hb hr (fun t ht hW => ⟨⟨0, (vp_updL (fun _ => 0) 0 r.toInt64), rfl, ⟨hw.1.symm, fun _ => by rw [pk_uLs, hw.2]⟩, by rw [ht]; exact hP9, by first | exact hD9 | (rw [hAe]; exact hD9)⟩, hS.F ht⟩) hS.2.2 dL_told_20

set_option maxHeartbeats 400000 in
set_option maxRecDepth 100000 in
theorem w_alike (l : Launch) (hl0 : l.stackTraces = false) (G : va_G) (y : Nat → ClassId) (sz : Nat) (h0 : Nat) (tp : Nat) (ps : Nat) (sp : Nat) (tk : Nat) (dr : Nat) (pr : Nat) (da : Nat) (nw : Nat) (im : Nat) (ac : Nat) (ke : Nat) (si : Nat) (tx : Nat) (an : Nat) (dw : Nat) (nwt : Nat) (nwb : Nat) (nwn : Nat) (nwi : Nat) (nwr : Nat) (nwtk : Nat) (nwtv : Nat) (nwte : Nat) (nwtd : Nat) (i : Int32) (j : Int32) (ou : Nat) : Met l yL_alike wsL_alike ({ frames := 8, cells := 2, slots := 12, locals := 143 }) (nq_PX G y sz [.ref h0, .int i, .int j, .ref ou] [(h0, .inr (10, [.ref tp, .int 0, .int (-1), .ref ps, .ref sp, .ref tk, .ref dr, .ref pr, .ref da, .ref nw, .ref im, .int 0, .ref ac, .ref ke, .ref si, .ref tx, .ref an, .ref dw])), (nw, .inr (6, [.ref nwt, .ref nwb, .int 0, .ref nwn, .ref nwi, .int 0, .ref nwr])), (nwt, .inr (9, [.ref nwtk, .ref nwtv, .ref nwte, .ref nwtd, .int 1])), (nwtk, .inl (y 0, 60, .inl (upd (fun _ => 0) 0 3))), (ou, .inl (y 1, 1, .inr (.inl (fun _ => 0))))]) (va_Qi (fun (r : Int32) (g9 : Nat → Int64) => r = (sp_alike i j).1 ∧ (r = 0 → g9 0 = (sp_alike i j).2.toInt64)) (fun (g9 : Nat → Int64) t9 => va_P G vwCl [(ou, .inl (y 1, 1, .inr (.inl g9)))] t9.heap ∧ va_D (va_A [(h0, .inr (10, [.ref tp, .int 0, .int (-1), .ref ps, .ref sp, .ref tk, .ref dr, .ref pr, .ref da, .ref nw, .ref im, .int 0, .ref ac, .ref ke, .ref si, .ref tx, .ref an, .ref dw])), (nw, .inr (6, [.ref nwt, .ref nwb, .int 0, .ref nwn, .ref nwi, .int 0, .ref nwr])), (nwt, .inr (9, [.ref nwtk, .ref nwtv, .ref nwte, .ref nwtd, .int 1])), (nwtk, .inl (y 0, 60, .inl (upd (fun _ => 0) 0 3))), (ou, .inl (y 1, 1, .inr (.inl (fun _ => 0))))] sz) [(ou, .inl (y 1, 1, .inr (.inl g9)))]) (va_A [(h0, .inr (10, [.ref tp, .int 0, .int (-1), .ref ps, .ref sp, .ref tk, .ref dr, .ref pr, .ref da, .ref nw, .ref im, .int 0, .ref ac, .ref ke, .ref si, .ref tx, .ref an, .ref dw])), (nw, .inr (6, [.ref nwt, .ref nwb, .int 0, .ref nwn, .ref nwi, .int 0, .ref nwr])), (nwt, .inr (9, [.ref nwtk, .ref nwtv, .ref nwte, .ref nwtd, .int 1])), (nwtk, .inl (y 0, 60, .inl (upd (fun _ => 0) 0 3))), (ou, .inl (y 1, 1, .inr (.inl (fun _ => 0))))] sz)) 2 12 (va_A [(h0, .inr (10, [.ref tp, .int 0, .int (-1), .ref ps, .ref sp, .ref tk, .ref dr, .ref pr, .ref da, .ref nw, .ref im, .int 0, .ref ac, .ref ke, .ref si, .ref tx, .ref an, .ref dw])), (nw, .inr (6, [.ref nwt, .ref nwb, .int 0, .ref nwn, .ref nwi, .int 0, .ref nwr])), (nwt, .inr (9, [.ref nwtk, .ref nwtv, .ref nwte, .ref nwtd, .int 1])), (nwtk, .inl (y 0, 60, .inl (upd (fun _ => 0) 0 3))), (ou, .inl (y 1, 1, .inr (.inl (fun _ => 0))))] sz) := by
  refine va_MetW (cc := cL_alike) (maxL := 5) (ret := (some .int)) (hh := [(0, 10, 13, 19)]) (by decide) rfl ?_
  intro p e s m args below meth c s₁ B hml hv
  obtain ⟨rfl, hsz, hP, hK, hD0, hXs⟩ := hv
  have hx := B.exec
  have hb := B.bytes
  have hr := B.returns
  have hts := atoms_spec (ws := wsL_alike) B.pre
  have hown : s.vm.findClass RL = some m.cls := findClass_of_methodNamed B.named
  have hlocks := B.notSynchronized
  have htb := vx_table (hh := [(0, 10, 13, 19)]) B (hts _ List.mem_cons_self)
  subst hsz
  have hD := hD0.self (sz := s.heap.size)
  generalize hAe : va_A [(h0, .inr (10, [.ref tp, .int 0, .int (-1), .ref ps, .ref sp, .ref tk, .ref dr, .ref pr, .ref da, .ref nw, .ref im, .int 0, .ref ac, .ref ke, .ref si, .ref tx, .ref an, .ref dw])), (nw, .inr (6, [.ref nwt, .ref nwb, .int 0, .ref nwn, .ref nwi, .int 0, .ref nwr])), (nwt, .inr (9, [.ref nwtk, .ref nwtv, .ref nwte, .ref nwtd, .int 1])), (nwtk, .inl (y 0, 60, .inl (upd (fun _ => 0) 0 3))), (ou, .inl (y 1, 1, .inr (.inl (fun _ => 0))))] s.heap.size = A at hD hXs ⊢
  have hA : ∀ q : Nat, s.heap.size ≤ q → A q := fun q h => by rw [← hAe]; exact Or.inr h
  have hS : va_S A s.heap s.heap [] := va_S.rf
  have hP : va_P G vwCl [(h0, .inr (10, [.ref tp, .int 0, .int (-1), .ref ps, .ref sp, .ref tk, .ref dr, .ref pr, .ref da, .ref nw, .ref im, .int 0, .ref ac, .ref ke, .ref si, .ref tx, .ref an, .ref dw])), (nw, .inr (6, [.ref nwt, .ref nwb, .int 0, .ref nwn, .ref nwi, .int 0, .ref nwr])), (nwt, .inr (9, [.ref nwtk, .ref nwtv, .ref nwte, .ref nwtd, .int 1])), (nwtk, .inl (y 0, 60, .inl (upd (fun _ => 0) 0 3))), (ou, .inl (y 1, 1, .inr (.inl (fun _ => 0))))] s.heap := hP
  have hl := lv_entry ([.ref h0, .int i, .int j, .ref ou]) (n := 5) (Nat.le_of_ble_eq_true rfl)
  rw [lg_entry_eq]
  generalize (lg_sl ([.ref h0, .int i, .int j, .ref ou]) ++ List.replicate (5 - (lg_sl ([.ref h0, .int i, .int j, .ref ou])).length) Slot.unset).toArray = ls at hl ⊢
  have hl : lv_has ls 5 [(0, .ref h0), (1, .int i), (2, .int j), (3, .ref ou)] := hl
  refine lv_aload_n hx hb dL_alike_0 rfl (lv_at hl 3 rfl) ?_
  refine lv_iconst (v := 0) hx hb dL_alike_1 (by decide) ?_
  refine lv_aload_n hx hb dL_alike_2 rfl (lv_at hl 0 rfl) ?_
  refine lv_iload_n hx hb dL_alike_3 rfl (lv_at hl 1 rfl) ?_
  refine lv_iload_n hx hb dL_alike_4 rfl (lv_at hl 2 rfl) ?_
  refine nq_xi (wr := [(ou, .inl (y 1, 1, .inr (.inl (fun _ => 0))))]) (vx_runV (As := [.int i, .int j]) (rest := [.int 0, .ref ou]) ⟨hx, hb, hml, hown, hts⟩ (x_alike l hl0 G y s.heap.size h0 tp ps sp tk dr pr da nw im ac ke si tx an dw nwt nwb nwn nwi nwr nwtk nwtv nwte nwtd i j) (cwV 2 hts gL_alike_X10_alike rfl rfl rfl (by decide +kernel) ⟨Nat.le_of_ble_eq_true rfl, Nat.le_of_ble_eq_true rfl⟩) (nq_PXV hK hP hD hS hA hXs [0, 1, 2, 3] rfl rfl 0 rfl rfl) rfl rfl hl.1 rfl (lv_room (Nat.le_of_ble_eq_true rfl)) dL_alike_5 ⟨Nat.le_of_ble_eq_true rfl, Nat.le_of_ble_eq_true rfl⟩) hP hD hS hA [0, 1, 2, 3] [4] rfl rfl (by decide) (by decide) (fun E ce q9 H locs hB hS hP hD h1 h2 h3 => ?_) (fun r u H locs hw hP hD hS => ?_)
  · obtain ⟨rfl, hc⟩ := hB
    have hP : va_P G vwCl [(ou, .inl (y 1, 1, .inr (.inl (fun _ => 0))))] H := hP
    have hD : va_D A [(ou, .inl (y 1, 1, .inr (.inl (fun _ => 0))))] := hD
    refine vx_catch (name := nq_NSE) hown [] (⟨0, 10, 13, 19⟩ : ExceptionTableEntry) [] htb (fun z hz => absurd hz (by simp)) (by decide) (by decide) (hts (.classLink RL 19 nq_NSE) (by decide +kernel)) (hXs.2.2.2.1.use) h1 h2 h3 ?_
    refine lv_astore (lv' := [(4, .ref q9), (0, .ref h0), (1, .int i), (2, .int j), (3, .ref ou)]) hx hb dL_alike_13 hl (by decide) rfl (fun ls hl => ?_)
    refine lv_iconst (v := 1) hx hb dL_alike_15 (by decide) ?_
    have hP9 := hP.sub (ws' := [(ou, .inl (y 1, 1, .inr (.inl (fun _ => 0))))]) [0] rfl
    have hD9 := hD.sub (ws' := [(ou, .inl (y 1, 1, .inr (.inl (fun _ => 0))))]) [0] (by decide) rfl
    refine W.widen (k := 2) (n := 12) (Nat.le_of_ble_eq_true rfl) (Nat.le_of_ble_eq_true rfl) ?_
    exact W.iret (v := 1) hx hb hr (fun t ht hW => ⟨⟨1, (fun _ => 0), rfl, ⟨hc.symm, fun h => absurd h (by decide)⟩, by rw [ht]; exact hP9, by first | exact hD9 | (rw [hAe]; exact hD9)⟩, hS.F ht⟩) hS.2.2 dL_alike_16
  · have hP : va_P G vwCl [(ou, .inl (y 1, 1, .inr (.inl (fun _ => 0))))] H := hP
    have hD : va_D A [(ou, .inl (y 1, 1, .inr (.inl (fun _ => 0))))] := hD
    refine lv_i2l (v := r.toInt64) hx hb dL_alike_8 rfl ?_
    refine va_last hx hb hK.1 hP hD hS 0 1 rfl rfl (i := 0) (nq_in (by decide)) dL_alike_9 (fun H locs hP hD hS => ?_)
    have hP : va_P G vwCl [(ou, .inl (y 1, 1, .inr (.inl (vp_updL (fun _ => 0) 0 r.toInt64))))] H := hP
    have hD : va_D A [(ou, .inl (y 1, 1, .inr (.inl (vp_updL (fun _ => 0) 0 r.toInt64))))] := hD
    refine lv_goto (tgt := 17) hx hb dL_alike_10 (by decide) ?_
    refine lv_iconst (v := 0) hx hb dL_alike_17 (by decide) ?_
    have hP9 := hP.sub (ws' := [(ou, .inl (y 1, 1, .inr (.inl (vp_updL (fun _ => 0) 0 r.toInt64))))]) [0] rfl
    have hD9 := hD.sub (ws' := [(ou, .inl (y 1, 1, .inr (.inl (vp_updL (fun _ => 0) 0 r.toInt64))))]) [0] (by decide) rfl
    refine W.widen (k := 2) (n := 12) (Nat.le_of_ble_eq_true rfl) (Nat.le_of_ble_eq_true rfl) ?_
    exact W.iret (v := 0) hx hb hr (fun t ht hW => ⟨⟨0, (vp_updL (fun _ => 0) 0 r.toInt64), rfl, ⟨hw.1.symm, fun _ => by rw [pk_uLs, hw.2]⟩, by rw [ht]; exact hP9, by first | exact hD9 | (rw [hAe]; exact hD9)⟩, hS.F ht⟩) hS.2.2 dL_alike_18

set_option maxHeartbeats 400000 in
set_option maxRecDepth 100000 in
theorem w_answer (l : Launch) (hl0 : l.stackTraces = false) (G : va_G) (y : Nat → ClassId) (sz : Nat) (h0 : Nat) (tp : Nat) (ps : Nat) (sp : Nat) (tk : Nat) (dr : Nat) (pr : Nat) (da : Nat) (nw : Nat) (im : Nat) (ac : Nat) (ke : Nat) (si : Nat) (tx : Nat) (an : Nat) (dw : Nat) (i : Int32) (j : Int32) (ou : Nat) : Met l yL_answer wsL_answer ({ frames := 7, cells := 1, slots := 6, locals := 126 }) (nq_PX G y sz [.ref h0, .int i, .int j, .ref ou] [(h0, .inr (10, [.ref tp, .int 0, .int (-1), .ref ps, .ref sp, .ref tk, .ref dr, .ref pr, .ref da, .ref nw, .ref im, .int 0, .ref ac, .ref ke, .ref si, .ref tx, .ref an, .ref dw])), (ps, .inl (y 3, 4, .inr (.inr (.inr (.inr (fun _ => none)))))), (ou, .inl (y 1, 1, .inr (.inl (fun _ => 0))))]) (va_Qi (fun (r : Int32) (g9 : Nat → Int64) => r = (sp_one i j).1 ∧ (r = 0 → g9 0 = (sp_one i j).2.toInt64)) (fun (g9 : Nat → Int64) t9 => va_P G vwCl [(ou, .inl (y 1, 1, .inr (.inl g9)))] t9.heap ∧ va_D (va_A [(h0, .inr (10, [.ref tp, .int 0, .int (-1), .ref ps, .ref sp, .ref tk, .ref dr, .ref pr, .ref da, .ref nw, .ref im, .int 0, .ref ac, .ref ke, .ref si, .ref tx, .ref an, .ref dw])), (ps, .inl (y 3, 4, .inr (.inr (.inr (.inr (fun _ => none)))))), (ou, .inl (y 1, 1, .inr (.inl (fun _ => 0))))] sz) [(ou, .inl (y 1, 1, .inr (.inl g9)))]) (va_A [(h0, .inr (10, [.ref tp, .int 0, .int (-1), .ref ps, .ref sp, .ref tk, .ref dr, .ref pr, .ref da, .ref nw, .ref im, .int 0, .ref ac, .ref ke, .ref si, .ref tx, .ref an, .ref dw])), (ps, .inl (y 3, 4, .inr (.inr (.inr (.inr (fun _ => none)))))), (ou, .inl (y 1, 1, .inr (.inl (fun _ => 0))))] sz)) 1 6 (va_A [(h0, .inr (10, [.ref tp, .int 0, .int (-1), .ref ps, .ref sp, .ref tk, .ref dr, .ref pr, .ref da, .ref nw, .ref im, .int 0, .ref ac, .ref ke, .ref si, .ref tx, .ref an, .ref dw])), (ps, .inl (y 3, 4, .inr (.inr (.inr (.inr (fun _ => none)))))), (ou, .inl (y 1, 1, .inr (.inl (fun _ => 0))))] sz) := by
  refine va_MetW (cc := cL_answer) (maxL := 5) (ret := (some .int)) (hh := [(0, 10, 13, 19)]) (by decide) rfl ?_
  intro p e s m args below meth c s₁ B hml hv
  obtain ⟨rfl, hsz, hP, hK, hD0, hXs⟩ := hv
  have hx := B.exec
  have hb := B.bytes
  have hr := B.returns
  have hts := atoms_spec (ws := wsL_answer) B.pre
  have hown : s.vm.findClass RL = some m.cls := findClass_of_methodNamed B.named
  have hlocks := B.notSynchronized
  have htb := vx_table (hh := [(0, 10, 13, 19)]) B (hts _ List.mem_cons_self)
  subst hsz
  have hD := hD0.self (sz := s.heap.size)
  generalize hAe : va_A [(h0, .inr (10, [.ref tp, .int 0, .int (-1), .ref ps, .ref sp, .ref tk, .ref dr, .ref pr, .ref da, .ref nw, .ref im, .int 0, .ref ac, .ref ke, .ref si, .ref tx, .ref an, .ref dw])), (ps, .inl (y 3, 4, .inr (.inr (.inr (.inr (fun _ => none)))))), (ou, .inl (y 1, 1, .inr (.inl (fun _ => 0))))] s.heap.size = A at hD hXs ⊢
  have hA : ∀ q : Nat, s.heap.size ≤ q → A q := fun q h => by rw [← hAe]; exact Or.inr h
  have hS : va_S A s.heap s.heap [] := va_S.rf
  have hP : va_P G vwCl [(h0, .inr (10, [.ref tp, .int 0, .int (-1), .ref ps, .ref sp, .ref tk, .ref dr, .ref pr, .ref da, .ref nw, .ref im, .int 0, .ref ac, .ref ke, .ref si, .ref tx, .ref an, .ref dw])), (ps, .inl (y 3, 4, .inr (.inr (.inr (.inr (fun _ => none)))))), (ou, .inl (y 1, 1, .inr (.inl (fun _ => 0))))] s.heap := hP
  have hl := lv_entry ([.ref h0, .int i, .int j, .ref ou]) (n := 5) (Nat.le_of_ble_eq_true rfl)
  rw [lg_entry_eq]
  generalize (lg_sl ([.ref h0, .int i, .int j, .ref ou]) ++ List.replicate (5 - (lg_sl ([.ref h0, .int i, .int j, .ref ou])).length) Slot.unset).toArray = ls at hl ⊢
  have hl : lv_has ls 5 [(0, .ref h0), (1, .int i), (2, .int j), (3, .ref ou)] := hl
  refine lv_aload_n hx hb dL_answer_0 rfl (lv_at hl 3 rfl) ?_
  refine lv_iconst (v := 0) hx hb dL_answer_1 (by decide) ?_
  refine lv_aload_n hx hb dL_answer_2 rfl (lv_at hl 0 rfl) ?_
  refine lv_iload_n hx hb dL_answer_3 rfl (lv_at hl 1 rfl) ?_
  refine lv_iload_n hx hb dL_answer_4 rfl (lv_at hl 2 rfl) ?_
  refine nq_xi (wr := [(ou, .inl (y 1, 1, .inr (.inl (fun _ => 0))))]) (vx_runV (As := [.int i, .int j]) (rest := [.int 0, .ref ou]) ⟨hx, hb, hml, hown, hts⟩ (x_answer l hl0 G y s.heap.size h0 tp ps sp tk dr pr da nw im ac ke si tx an dw i j) (cwV 2 hts gL_answer_X10_answer rfl rfl rfl (by decide +kernel) ⟨Nat.le_of_ble_eq_true rfl, Nat.le_of_ble_eq_true rfl⟩) (nq_PXV hK hP hD hS hA hXs [0, 1] rfl rfl 0 rfl rfl) rfl rfl hl.1 rfl (lv_room (Nat.le_of_ble_eq_true rfl)) dL_answer_5 ⟨Nat.le_of_ble_eq_true rfl, Nat.le_of_ble_eq_true rfl⟩) hP hD hS hA [0, 1] [2] rfl rfl (by decide) (by decide) (fun E ce q9 H locs hB hS hP hD h1 h2 h3 => ?_) (fun r u H locs hw hP hD hS => ?_)
  · obtain ⟨rfl, hc⟩ := hB
    have hP : va_P G vwCl [(ou, .inl (y 1, 1, .inr (.inl (fun _ => 0))))] H := hP
    have hD : va_D A [(ou, .inl (y 1, 1, .inr (.inl (fun _ => 0))))] := hD
    refine vx_catch (name := nq_NSE) hown [] (⟨0, 10, 13, 19⟩ : ExceptionTableEntry) [] htb (fun z hz => absurd hz (by simp)) (by decide) (by decide) (hts (.classLink RL 19 nq_NSE) (by decide +kernel)) (hXs.2.2.2.1.use) h1 h2 h3 ?_
    refine lv_astore (lv' := [(4, .ref q9), (0, .ref h0), (1, .int i), (2, .int j), (3, .ref ou)]) hx hb dL_answer_13 hl (by decide) rfl (fun ls hl => ?_)
    refine lv_iconst (v := 1) hx hb dL_answer_15 (by decide) ?_
    have hP9 := hP.sub (ws' := [(ou, .inl (y 1, 1, .inr (.inl (fun _ => 0))))]) [0] rfl
    have hD9 := hD.sub (ws' := [(ou, .inl (y 1, 1, .inr (.inl (fun _ => 0))))]) [0] (by decide) rfl
    refine W.widen (k := 1) (n := 6) (Nat.le_of_ble_eq_true rfl) (Nat.le_of_ble_eq_true rfl) ?_
    exact W.iret (v := 1) hx hb hr (fun t ht hW => ⟨⟨1, (fun _ => 0), rfl, ⟨hc.symm, fun h => absurd h (by decide)⟩, by rw [ht]; exact hP9, by first | exact hD9 | (rw [hAe]; exact hD9)⟩, hS.F ht⟩) hS.2.2 dL_answer_16
  · have hP : va_P G vwCl [(ou, .inl (y 1, 1, .inr (.inl (fun _ => 0))))] H := hP
    have hD : va_D A [(ou, .inl (y 1, 1, .inr (.inl (fun _ => 0))))] := hD
    refine lv_i2l (v := r.toInt64) hx hb dL_answer_8 rfl ?_
    refine va_last hx hb hK.1 hP hD hS 0 1 rfl rfl (i := 0) (nq_in (by decide)) dL_answer_9 (fun H locs hP hD hS => ?_)
    have hP : va_P G vwCl [(ou, .inl (y 1, 1, .inr (.inl (vp_updL (fun _ => 0) 0 r.toInt64))))] H := hP
    have hD : va_D A [(ou, .inl (y 1, 1, .inr (.inl (vp_updL (fun _ => 0) 0 r.toInt64))))] := hD
    refine lv_goto (tgt := 17) hx hb dL_answer_10 (by decide) ?_
    refine lv_iconst (v := 0) hx hb dL_answer_17 (by decide) ?_
    have hP9 := hP.sub (ws' := [(ou, .inl (y 1, 1, .inr (.inl (vp_updL (fun _ => 0) 0 r.toInt64))))]) [0] rfl
    have hD9 := hD.sub (ws' := [(ou, .inl (y 1, 1, .inr (.inl (vp_updL (fun _ => 0) 0 r.toInt64))))]) [0] (by decide) rfl
    refine W.widen (k := 1) (n := 6) (Nat.le_of_ble_eq_true rfl) (Nat.le_of_ble_eq_true rfl) ?_
    exact W.iret (v := 0) hx hb hr (fun t ht hW => ⟨⟨0, (vp_updL (fun _ => 0) 0 r.toInt64), rfl, ⟨hw.1.symm, fun _ => by rw [pk_uLs, hw.2]⟩, by rw [ht]; exact hP9, by first | exact hD9 | (rw [hAe]; exact hD9)⟩, hS.F ht⟩) hS.2.2 dL_answer_18

set_option maxHeartbeats 400000 in
set_option maxRecDepth 100000 in
theorem w_steps (l : Launch) (hl0 : l.stackTraces = false) (G : va_G) (y : Nat → ClassId) (sz : Nat) (h0 : Nat) (tp : Nat) (ps : Nat) (sp : Nat) (tk : Nat) (dr : Nat) (pr : Nat) (da : Nat) (nw : Nat) (im : Nat) (ac : Nat) (ke : Nat) (si : Nat) (tx : Nat) (an : Nat) (dw : Nat) (i : Int32) (j : Int32) (ou : Nat) : Met l yL_steps wsL_steps ({ frames := 7, cells := 1, slots := 6, locals := 123 }) (nq_PX G y sz [.ref h0, .int i, .int j, .ref ou] [(h0, .inr (10, [.ref tp, .int 0, .int (-1), .ref ps, .ref sp, .ref tk, .ref dr, .ref pr, .ref da, .ref nw, .ref im, .int 0, .ref ac, .ref ke, .ref si, .ref tx, .ref an, .ref dw])), (ps, .inl (y 3, 4, .inr (.inr (.inr (.inr (fun _ => none)))))), (ou, .inl (y 1, 1, .inr (.inl (fun _ => 0))))]) (va_Qi (fun (r : Int32) (g9 : Nat → Int64) => r = (sp_one i j).1 ∧ (r = 0 → g9 0 = (sp_one i j).2.toInt64)) (fun (g9 : Nat → Int64) t9 => va_P G vwCl [(ou, .inl (y 1, 1, .inr (.inl g9)))] t9.heap ∧ va_D (va_A [(h0, .inr (10, [.ref tp, .int 0, .int (-1), .ref ps, .ref sp, .ref tk, .ref dr, .ref pr, .ref da, .ref nw, .ref im, .int 0, .ref ac, .ref ke, .ref si, .ref tx, .ref an, .ref dw])), (ps, .inl (y 3, 4, .inr (.inr (.inr (.inr (fun _ => none)))))), (ou, .inl (y 1, 1, .inr (.inl (fun _ => 0))))] sz) [(ou, .inl (y 1, 1, .inr (.inl g9)))]) (va_A [(h0, .inr (10, [.ref tp, .int 0, .int (-1), .ref ps, .ref sp, .ref tk, .ref dr, .ref pr, .ref da, .ref nw, .ref im, .int 0, .ref ac, .ref ke, .ref si, .ref tx, .ref an, .ref dw])), (ps, .inl (y 3, 4, .inr (.inr (.inr (.inr (fun _ => none)))))), (ou, .inl (y 1, 1, .inr (.inl (fun _ => 0))))] sz)) 1 6 (va_A [(h0, .inr (10, [.ref tp, .int 0, .int (-1), .ref ps, .ref sp, .ref tk, .ref dr, .ref pr, .ref da, .ref nw, .ref im, .int 0, .ref ac, .ref ke, .ref si, .ref tx, .ref an, .ref dw])), (ps, .inl (y 3, 4, .inr (.inr (.inr (.inr (fun _ => none)))))), (ou, .inl (y 1, 1, .inr (.inl (fun _ => 0))))] sz) := by
  refine va_MetW (cc := cL_steps) (maxL := 5) (ret := (some .int)) (hh := [(0, 10, 13, 19)]) (by decide) rfl ?_
  intro p e s m args below meth c s₁ B hml hv
  obtain ⟨rfl, hsz, hP, hK, hD0, hXs⟩ := hv
  have hx := B.exec
  have hb := B.bytes
  have hr := B.returns
  have hts := atoms_spec (ws := wsL_steps) B.pre
  have hown : s.vm.findClass RL = some m.cls := findClass_of_methodNamed B.named
  have hlocks := B.notSynchronized
  have htb := vx_table (hh := [(0, 10, 13, 19)]) B (hts _ List.mem_cons_self)
  subst hsz
  have hD := hD0.self (sz := s.heap.size)
  generalize hAe : va_A [(h0, .inr (10, [.ref tp, .int 0, .int (-1), .ref ps, .ref sp, .ref tk, .ref dr, .ref pr, .ref da, .ref nw, .ref im, .int 0, .ref ac, .ref ke, .ref si, .ref tx, .ref an, .ref dw])), (ps, .inl (y 3, 4, .inr (.inr (.inr (.inr (fun _ => none)))))), (ou, .inl (y 1, 1, .inr (.inl (fun _ => 0))))] s.heap.size = A at hD hXs ⊢
  have hA : ∀ q : Nat, s.heap.size ≤ q → A q := fun q h => by rw [← hAe]; exact Or.inr h
  have hS : va_S A s.heap s.heap [] := va_S.rf
  have hP : va_P G vwCl [(h0, .inr (10, [.ref tp, .int 0, .int (-1), .ref ps, .ref sp, .ref tk, .ref dr, .ref pr, .ref da, .ref nw, .ref im, .int 0, .ref ac, .ref ke, .ref si, .ref tx, .ref an, .ref dw])), (ps, .inl (y 3, 4, .inr (.inr (.inr (.inr (fun _ => none)))))), (ou, .inl (y 1, 1, .inr (.inl (fun _ => 0))))] s.heap := hP
  have hl := lv_entry ([.ref h0, .int i, .int j, .ref ou]) (n := 5) (Nat.le_of_ble_eq_true rfl)
  rw [lg_entry_eq]
  generalize (lg_sl ([.ref h0, .int i, .int j, .ref ou]) ++ List.replicate (5 - (lg_sl ([.ref h0, .int i, .int j, .ref ou])).length) Slot.unset).toArray = ls at hl ⊢
  have hl : lv_has ls 5 [(0, .ref h0), (1, .int i), (2, .int j), (3, .ref ou)] := hl
  refine lv_aload_n hx hb dL_steps_0 rfl (lv_at hl 3 rfl) ?_
  refine lv_iconst (v := 0) hx hb dL_steps_1 (by decide) ?_
  refine lv_aload_n hx hb dL_steps_2 rfl (lv_at hl 0 rfl) ?_
  refine lv_iload_n hx hb dL_steps_3 rfl (lv_at hl 1 rfl) ?_
  refine lv_iload_n hx hb dL_steps_4 rfl (lv_at hl 2 rfl) ?_
  refine nq_xi (wr := [(ou, .inl (y 1, 1, .inr (.inl (fun _ => 0))))]) (vx_runV (As := [.int i, .int j]) (rest := [.int 0, .ref ou]) ⟨hx, hb, hml, hown, hts⟩ (x_steps l hl0 G y s.heap.size h0 tp ps sp tk dr pr da nw im ac ke si tx an dw i j) (cwV 2 hts gL_steps_X10_steps rfl rfl rfl (by decide +kernel) ⟨Nat.le_of_ble_eq_true rfl, Nat.le_of_ble_eq_true rfl⟩) (nq_PXV hK hP hD hS hA hXs [0, 1] rfl rfl 0 rfl rfl) rfl rfl hl.1 rfl (lv_room (Nat.le_of_ble_eq_true rfl)) dL_steps_5 ⟨Nat.le_of_ble_eq_true rfl, Nat.le_of_ble_eq_true rfl⟩) hP hD hS hA [0, 1] [2] rfl rfl (by decide) (by decide) (fun E ce q9 H locs hB hS hP hD h1 h2 h3 => ?_) (fun r u H locs hw hP hD hS => ?_)
  · obtain ⟨rfl, hc⟩ := hB
    have hP : va_P G vwCl [(ou, .inl (y 1, 1, .inr (.inl (fun _ => 0))))] H := hP
    have hD : va_D A [(ou, .inl (y 1, 1, .inr (.inl (fun _ => 0))))] := hD
    refine vx_catch (name := nq_NSE) hown [] (⟨0, 10, 13, 19⟩ : ExceptionTableEntry) [] htb (fun z hz => absurd hz (by simp)) (by decide) (by decide) (hts (.classLink RL 19 nq_NSE) (by decide +kernel)) (hXs.2.2.2.1.use) h1 h2 h3 ?_
    refine lv_astore (lv' := [(4, .ref q9), (0, .ref h0), (1, .int i), (2, .int j), (3, .ref ou)]) hx hb dL_steps_13 hl (by decide) rfl (fun ls hl => ?_)
    refine lv_iconst (v := 1) hx hb dL_steps_15 (by decide) ?_
    have hP9 := hP.sub (ws' := [(ou, .inl (y 1, 1, .inr (.inl (fun _ => 0))))]) [0] rfl
    have hD9 := hD.sub (ws' := [(ou, .inl (y 1, 1, .inr (.inl (fun _ => 0))))]) [0] (by decide) rfl
    refine W.widen (k := 1) (n := 6) (Nat.le_of_ble_eq_true rfl) (Nat.le_of_ble_eq_true rfl) ?_
    exact W.iret (v := 1) hx hb hr (fun t ht hW => ⟨⟨1, (fun _ => 0), rfl, ⟨hc.symm, fun h => absurd h (by decide)⟩, by rw [ht]; exact hP9, by first | exact hD9 | (rw [hAe]; exact hD9)⟩, hS.F ht⟩) hS.2.2 dL_steps_16
  · have hP : va_P G vwCl [(ou, .inl (y 1, 1, .inr (.inl (fun _ => 0))))] H := hP
    have hD : va_D A [(ou, .inl (y 1, 1, .inr (.inl (fun _ => 0))))] := hD
    refine lv_i2l (v := r.toInt64) hx hb dL_steps_8 rfl ?_
    refine va_last hx hb hK.1 hP hD hS 0 1 rfl rfl (i := 0) (nq_in (by decide)) dL_steps_9 (fun H locs hP hD hS => ?_)
    have hP : va_P G vwCl [(ou, .inl (y 1, 1, .inr (.inl (vp_updL (fun _ => 0) 0 r.toInt64))))] H := hP
    have hD : va_D A [(ou, .inl (y 1, 1, .inr (.inl (vp_updL (fun _ => 0) 0 r.toInt64))))] := hD
    refine lv_goto (tgt := 17) hx hb dL_steps_10 (by decide) ?_
    refine lv_iconst (v := 0) hx hb dL_steps_17 (by decide) ?_
    have hP9 := hP.sub (ws' := [(ou, .inl (y 1, 1, .inr (.inl (vp_updL (fun _ => 0) 0 r.toInt64))))]) [0] rfl
    have hD9 := hD.sub (ws' := [(ou, .inl (y 1, 1, .inr (.inl (vp_updL (fun _ => 0) 0 r.toInt64))))]) [0] (by decide) rfl
    refine W.widen (k := 1) (n := 6) (Nat.le_of_ble_eq_true rfl) (Nat.le_of_ble_eq_true rfl) ?_
    exact W.iret (v := 0) hx hb hr (fun t ht hW => ⟨⟨0, (vp_updL (fun _ => 0) 0 r.toInt64), rfl, ⟨hw.1.symm, fun _ => by rw [pk_uLs, hw.2]⟩, by rw [ht]; exact hP9, by first | exact hD9 | (rw [hAe]; exact hD9)⟩, hS.F ht⟩) hS.2.2 dL_steps_18

set_option maxHeartbeats 400000 in
set_option maxRecDepth 100000 in
theorem w_row (l : Launch) (hl0 : l.stackTraces = false) (G : va_G) (y : Nat → ClassId) (sz : Nat) (h0 : Nat) (tp : Nat) (ps : Nat) (sp : Nat) (tk : Nat) (dr : Nat) (pr : Nat) (da : Nat) (nw : Nat) (im : Nat) (ac : Nat) (ke : Nat) (si : Nat) (tx : Nat) (an : Nat) (dw : Nat) (ke1 : Nat) (ke2 : Nat) (ke3 : Nat) (ke4 : Nat) (i : Int32) (j : Int32) (ou : Nat) : Met l yL_row wsL_row ({ frames := 7, cells := 1, slots := 6, locals := 122 }) (nq_PX G y sz [.ref h0, .int i, .int j, .ref ou] [(h0, .inr (10, [.ref tp, .int 0, .int (-1), .ref ps, .ref sp, .ref tk, .ref dr, .ref pr, .ref da, .ref nw, .ref im, .int 0, .ref ac, .ref ke, .ref si, .ref tx, .ref an, .ref dw])), (ke, .inr (3, [.ref ke1, .ref ke2, .ref ke3, .ref ke4, .int 0])), (ou, .inl (y 1, 1, .inr (.inl (fun _ => 0))))]) (va_Qi (fun (r : Int32) (g9 : Nat → Int64) => r = (sp_one i j).1 ∧ (r = 0 → g9 0 = (sp_one i j).2.toInt64)) (fun (g9 : Nat → Int64) t9 => va_P G vwCl [(ou, .inl (y 1, 1, .inr (.inl g9)))] t9.heap ∧ va_D (va_A [(h0, .inr (10, [.ref tp, .int 0, .int (-1), .ref ps, .ref sp, .ref tk, .ref dr, .ref pr, .ref da, .ref nw, .ref im, .int 0, .ref ac, .ref ke, .ref si, .ref tx, .ref an, .ref dw])), (ke, .inr (3, [.ref ke1, .ref ke2, .ref ke3, .ref ke4, .int 0])), (ou, .inl (y 1, 1, .inr (.inl (fun _ => 0))))] sz) [(ou, .inl (y 1, 1, .inr (.inl g9)))]) (va_A [(h0, .inr (10, [.ref tp, .int 0, .int (-1), .ref ps, .ref sp, .ref tk, .ref dr, .ref pr, .ref da, .ref nw, .ref im, .int 0, .ref ac, .ref ke, .ref si, .ref tx, .ref an, .ref dw])), (ke, .inr (3, [.ref ke1, .ref ke2, .ref ke3, .ref ke4, .int 0])), (ou, .inl (y 1, 1, .inr (.inl (fun _ => 0))))] sz)) 1 6 (va_A [(h0, .inr (10, [.ref tp, .int 0, .int (-1), .ref ps, .ref sp, .ref tk, .ref dr, .ref pr, .ref da, .ref nw, .ref im, .int 0, .ref ac, .ref ke, .ref si, .ref tx, .ref an, .ref dw])), (ke, .inr (3, [.ref ke1, .ref ke2, .ref ke3, .ref ke4, .int 0])), (ou, .inl (y 1, 1, .inr (.inl (fun _ => 0))))] sz) := by
  refine va_MetW (cc := cL_row) (maxL := 5) (ret := (some .int)) (hh := [(0, 10, 13, 19)]) (by decide) rfl ?_
  intro p e s m args below meth c s₁ B hml hv
  obtain ⟨rfl, hsz, hP, hK, hD0, hXs⟩ := hv
  have hx := B.exec
  have hb := B.bytes
  have hr := B.returns
  have hts := atoms_spec (ws := wsL_row) B.pre
  have hown : s.vm.findClass RL = some m.cls := findClass_of_methodNamed B.named
  have hlocks := B.notSynchronized
  have htb := vx_table (hh := [(0, 10, 13, 19)]) B (hts _ List.mem_cons_self)
  subst hsz
  have hD := hD0.self (sz := s.heap.size)
  generalize hAe : va_A [(h0, .inr (10, [.ref tp, .int 0, .int (-1), .ref ps, .ref sp, .ref tk, .ref dr, .ref pr, .ref da, .ref nw, .ref im, .int 0, .ref ac, .ref ke, .ref si, .ref tx, .ref an, .ref dw])), (ke, .inr (3, [.ref ke1, .ref ke2, .ref ke3, .ref ke4, .int 0])), (ou, .inl (y 1, 1, .inr (.inl (fun _ => 0))))] s.heap.size = A at hD hXs ⊢
  have hA : ∀ q : Nat, s.heap.size ≤ q → A q := fun q h => by rw [← hAe]; exact Or.inr h
  have hS : va_S A s.heap s.heap [] := va_S.rf
  have hP : va_P G vwCl [(h0, .inr (10, [.ref tp, .int 0, .int (-1), .ref ps, .ref sp, .ref tk, .ref dr, .ref pr, .ref da, .ref nw, .ref im, .int 0, .ref ac, .ref ke, .ref si, .ref tx, .ref an, .ref dw])), (ke, .inr (3, [.ref ke1, .ref ke2, .ref ke3, .ref ke4, .int 0])), (ou, .inl (y 1, 1, .inr (.inl (fun _ => 0))))] s.heap := hP
  have hl := lv_entry ([.ref h0, .int i, .int j, .ref ou]) (n := 5) (Nat.le_of_ble_eq_true rfl)
  rw [lg_entry_eq]
  generalize (lg_sl ([.ref h0, .int i, .int j, .ref ou]) ++ List.replicate (5 - (lg_sl ([.ref h0, .int i, .int j, .ref ou])).length) Slot.unset).toArray = ls at hl ⊢
  have hl : lv_has ls 5 [(0, .ref h0), (1, .int i), (2, .int j), (3, .ref ou)] := hl
  refine lv_aload_n hx hb dL_row_0 rfl (lv_at hl 3 rfl) ?_
  refine lv_iconst (v := 0) hx hb dL_row_1 (by decide) ?_
  refine lv_aload_n hx hb dL_row_2 rfl (lv_at hl 0 rfl) ?_
  refine lv_iload_n hx hb dL_row_3 rfl (lv_at hl 1 rfl) ?_
  refine lv_iload_n hx hb dL_row_4 rfl (lv_at hl 2 rfl) ?_
  refine nq_xi (wr := [(ou, .inl (y 1, 1, .inr (.inl (fun _ => 0))))]) (vx_runV (As := [.int i, .int j]) (rest := [.int 0, .ref ou]) ⟨hx, hb, hml, hown, hts⟩ (x_row l hl0 G y s.heap.size h0 tp ps sp tk dr pr da nw im ac ke si tx an dw ke1 ke2 ke3 ke4 i j) (cwV 2 hts gL_row_X10_row rfl rfl rfl (by decide +kernel) ⟨Nat.le_of_ble_eq_true rfl, Nat.le_of_ble_eq_true rfl⟩) (nq_PXV hK hP hD hS hA hXs [0, 1] rfl rfl 0 rfl rfl) rfl rfl hl.1 rfl (lv_room (Nat.le_of_ble_eq_true rfl)) dL_row_5 ⟨Nat.le_of_ble_eq_true rfl, Nat.le_of_ble_eq_true rfl⟩) hP hD hS hA [0, 1] [2] rfl rfl (by decide) (by decide) (fun E ce q9 H locs hB hS hP hD h1 h2 h3 => ?_) (fun r u H locs hw hP hD hS => ?_)
  · obtain ⟨rfl, hc⟩ := hB
    have hP : va_P G vwCl [(ou, .inl (y 1, 1, .inr (.inl (fun _ => 0))))] H := hP
    have hD : va_D A [(ou, .inl (y 1, 1, .inr (.inl (fun _ => 0))))] := hD
    refine vx_catch (name := nq_NSE) hown [] (⟨0, 10, 13, 19⟩ : ExceptionTableEntry) [] htb (fun z hz => absurd hz (by simp)) (by decide) (by decide) (hts (.classLink RL 19 nq_NSE) (by decide +kernel)) (hXs.2.2.2.1.use) h1 h2 h3 ?_
    refine lv_astore (lv' := [(4, .ref q9), (0, .ref h0), (1, .int i), (2, .int j), (3, .ref ou)]) hx hb dL_row_13 hl (by decide) rfl (fun ls hl => ?_)
    refine lv_iconst (v := 1) hx hb dL_row_15 (by decide) ?_
    have hP9 := hP.sub (ws' := [(ou, .inl (y 1, 1, .inr (.inl (fun _ => 0))))]) [0] rfl
    have hD9 := hD.sub (ws' := [(ou, .inl (y 1, 1, .inr (.inl (fun _ => 0))))]) [0] (by decide) rfl
    refine W.widen (k := 1) (n := 6) (Nat.le_of_ble_eq_true rfl) (Nat.le_of_ble_eq_true rfl) ?_
    exact W.iret (v := 1) hx hb hr (fun t ht hW => ⟨⟨1, (fun _ => 0), rfl, ⟨hc.symm, fun h => absurd h (by decide)⟩, by rw [ht]; exact hP9, by first | exact hD9 | (rw [hAe]; exact hD9)⟩, hS.F ht⟩) hS.2.2 dL_row_16
  · have hP : va_P G vwCl [(ou, .inl (y 1, 1, .inr (.inl (fun _ => 0))))] H := hP
    have hD : va_D A [(ou, .inl (y 1, 1, .inr (.inl (fun _ => 0))))] := hD
    refine lv_i2l (v := r.toInt64) hx hb dL_row_8 rfl ?_
    refine va_last hx hb hK.1 hP hD hS 0 1 rfl rfl (i := 0) (nq_in (by decide)) dL_row_9 (fun H locs hP hD hS => ?_)
    have hP : va_P G vwCl [(ou, .inl (y 1, 1, .inr (.inl (vp_updL (fun _ => 0) 0 r.toInt64))))] H := hP
    have hD : va_D A [(ou, .inl (y 1, 1, .inr (.inl (vp_updL (fun _ => 0) 0 r.toInt64))))] := hD
    refine lv_goto (tgt := 17) hx hb dL_row_10 (by decide) ?_
    refine lv_iconst (v := 0) hx hb dL_row_17 (by decide) ?_
    have hP9 := hP.sub (ws' := [(ou, .inl (y 1, 1, .inr (.inl (vp_updL (fun _ => 0) 0 r.toInt64))))]) [0] rfl
    have hD9 := hD.sub (ws' := [(ou, .inl (y 1, 1, .inr (.inl (vp_updL (fun _ => 0) 0 r.toInt64))))]) [0] (by decide) rfl
    refine W.widen (k := 1) (n := 6) (Nat.le_of_ble_eq_true rfl) (Nat.le_of_ble_eq_true rfl) ?_
    exact W.iret (v := 0) hx hb hr (fun t ht hW => ⟨⟨0, (vp_updL (fun _ => 0) 0 r.toInt64), rfl, ⟨hw.1.symm, fun _ => by rw [pk_uLs, hw.2]⟩, by rw [ht]; exact hP9, by first | exact hD9 | (rw [hAe]; exact hD9)⟩, hS.F ht⟩) hS.2.2 dL_row_18

set_option maxHeartbeats 400000 in
set_option maxRecDepth 100000 in
theorem w_rowText (l : Launch) (hl0 : l.stackTraces = false) (G : va_G) (y : Nat → ClassId) (sz : Nat) (h0 : Nat) (tp : Nat) (ps : Nat) (sp : Nat) (tk : Nat) (dr : Nat) (pr : Nat) (da : Nat) (nw : Nat) (im : Nat) (ac : Nat) (ke : Nat) (si : Nat) (tx : Nat) (an : Nat) (dw : Nat) (ke1 : Nat) (ke2 : Nat) (ke3 : Nat) (ke4 : Nat) (i : Int32) (j : Int32) (ou : Nat) : Met l yL_rowText wsL_rowText ({ frames := 7, cells := 1, slots := 6, locals := 122 }) (nq_PX G y sz [.ref h0, .int i, .int j, .ref ou] [(h0, .inr (10, [.ref tp, .int 0, .int (-1), .ref ps, .ref sp, .ref tk, .ref dr, .ref pr, .ref da, .ref nw, .ref im, .int 0, .ref ac, .ref ke, .ref si, .ref tx, .ref an, .ref dw])), (ke, .inr (3, [.ref ke1, .ref ke2, .ref ke3, .ref ke4, .int 0])), (ou, .inl (y 1, 1, .inr (.inl (fun _ => 0))))]) (va_Qi (fun (r : Int32) (g9 : Nat → Int64) => r = (sp_one i j).1 ∧ (r = 0 → g9 0 = (sp_one i j).2.toInt64)) (fun (g9 : Nat → Int64) t9 => va_P G vwCl [(ou, .inl (y 1, 1, .inr (.inl g9)))] t9.heap ∧ va_D (va_A [(h0, .inr (10, [.ref tp, .int 0, .int (-1), .ref ps, .ref sp, .ref tk, .ref dr, .ref pr, .ref da, .ref nw, .ref im, .int 0, .ref ac, .ref ke, .ref si, .ref tx, .ref an, .ref dw])), (ke, .inr (3, [.ref ke1, .ref ke2, .ref ke3, .ref ke4, .int 0])), (ou, .inl (y 1, 1, .inr (.inl (fun _ => 0))))] sz) [(ou, .inl (y 1, 1, .inr (.inl g9)))]) (va_A [(h0, .inr (10, [.ref tp, .int 0, .int (-1), .ref ps, .ref sp, .ref tk, .ref dr, .ref pr, .ref da, .ref nw, .ref im, .int 0, .ref ac, .ref ke, .ref si, .ref tx, .ref an, .ref dw])), (ke, .inr (3, [.ref ke1, .ref ke2, .ref ke3, .ref ke4, .int 0])), (ou, .inl (y 1, 1, .inr (.inl (fun _ => 0))))] sz)) 1 6 (va_A [(h0, .inr (10, [.ref tp, .int 0, .int (-1), .ref ps, .ref sp, .ref tk, .ref dr, .ref pr, .ref da, .ref nw, .ref im, .int 0, .ref ac, .ref ke, .ref si, .ref tx, .ref an, .ref dw])), (ke, .inr (3, [.ref ke1, .ref ke2, .ref ke3, .ref ke4, .int 0])), (ou, .inl (y 1, 1, .inr (.inl (fun _ => 0))))] sz) := by
  refine va_MetW (cc := cL_rowText) (maxL := 5) (ret := (some .int)) (hh := [(0, 10, 13, 19)]) (by decide) rfl ?_
  intro p e s m args below meth c s₁ B hml hv
  obtain ⟨rfl, hsz, hP, hK, hD0, hXs⟩ := hv
  have hx := B.exec
  have hb := B.bytes
  have hr := B.returns
  have hts := atoms_spec (ws := wsL_rowText) B.pre
  have hown : s.vm.findClass RL = some m.cls := findClass_of_methodNamed B.named
  have hlocks := B.notSynchronized
  have htb := vx_table (hh := [(0, 10, 13, 19)]) B (hts _ List.mem_cons_self)
  subst hsz
  have hD := hD0.self (sz := s.heap.size)
  generalize hAe : va_A [(h0, .inr (10, [.ref tp, .int 0, .int (-1), .ref ps, .ref sp, .ref tk, .ref dr, .ref pr, .ref da, .ref nw, .ref im, .int 0, .ref ac, .ref ke, .ref si, .ref tx, .ref an, .ref dw])), (ke, .inr (3, [.ref ke1, .ref ke2, .ref ke3, .ref ke4, .int 0])), (ou, .inl (y 1, 1, .inr (.inl (fun _ => 0))))] s.heap.size = A at hD hXs ⊢
  have hA : ∀ q : Nat, s.heap.size ≤ q → A q := fun q h => by rw [← hAe]; exact Or.inr h
  have hS : va_S A s.heap s.heap [] := va_S.rf
  have hP : va_P G vwCl [(h0, .inr (10, [.ref tp, .int 0, .int (-1), .ref ps, .ref sp, .ref tk, .ref dr, .ref pr, .ref da, .ref nw, .ref im, .int 0, .ref ac, .ref ke, .ref si, .ref tx, .ref an, .ref dw])), (ke, .inr (3, [.ref ke1, .ref ke2, .ref ke3, .ref ke4, .int 0])), (ou, .inl (y 1, 1, .inr (.inl (fun _ => 0))))] s.heap := hP
  have hl := lv_entry ([.ref h0, .int i, .int j, .ref ou]) (n := 5) (Nat.le_of_ble_eq_true rfl)
  rw [lg_entry_eq]
  generalize (lg_sl ([.ref h0, .int i, .int j, .ref ou]) ++ List.replicate (5 - (lg_sl ([.ref h0, .int i, .int j, .ref ou])).length) Slot.unset).toArray = ls at hl ⊢
  have hl : lv_has ls 5 [(0, .ref h0), (1, .int i), (2, .int j), (3, .ref ou)] := hl
  refine lv_aload_n hx hb dL_rowText_0 rfl (lv_at hl 3 rfl) ?_
  refine lv_iconst (v := 0) hx hb dL_rowText_1 (by decide) ?_
  refine lv_aload_n hx hb dL_rowText_2 rfl (lv_at hl 0 rfl) ?_
  refine lv_iload_n hx hb dL_rowText_3 rfl (lv_at hl 1 rfl) ?_
  refine lv_iload_n hx hb dL_rowText_4 rfl (lv_at hl 2 rfl) ?_
  refine nq_xi (wr := [(ou, .inl (y 1, 1, .inr (.inl (fun _ => 0))))]) (vx_runV (As := [.int i, .int j]) (rest := [.int 0, .ref ou]) ⟨hx, hb, hml, hown, hts⟩ (x_rowText l hl0 G y s.heap.size h0 tp ps sp tk dr pr da nw im ac ke si tx an dw ke1 ke2 ke3 ke4 i j) (cwV 2 hts gL_rowText_X10_rowText rfl rfl rfl (by decide +kernel) ⟨Nat.le_of_ble_eq_true rfl, Nat.le_of_ble_eq_true rfl⟩) (nq_PXV hK hP hD hS hA hXs [0, 1] rfl rfl 0 rfl rfl) rfl rfl hl.1 rfl (lv_room (Nat.le_of_ble_eq_true rfl)) dL_rowText_5 ⟨Nat.le_of_ble_eq_true rfl, Nat.le_of_ble_eq_true rfl⟩) hP hD hS hA [0, 1] [2] rfl rfl (by decide) (by decide) (fun E ce q9 H locs hB hS hP hD h1 h2 h3 => ?_) (fun r u H locs hw hP hD hS => ?_)
  · obtain ⟨rfl, hc⟩ := hB
    have hP : va_P G vwCl [(ou, .inl (y 1, 1, .inr (.inl (fun _ => 0))))] H := hP
    have hD : va_D A [(ou, .inl (y 1, 1, .inr (.inl (fun _ => 0))))] := hD
    refine vx_catch (name := nq_NSE) hown [] (⟨0, 10, 13, 19⟩ : ExceptionTableEntry) [] htb (fun z hz => absurd hz (by simp)) (by decide) (by decide) (hts (.classLink RL 19 nq_NSE) (by decide +kernel)) (hXs.2.2.2.1.use) h1 h2 h3 ?_
    refine lv_astore (lv' := [(4, .ref q9), (0, .ref h0), (1, .int i), (2, .int j), (3, .ref ou)]) hx hb dL_rowText_13 hl (by decide) rfl (fun ls hl => ?_)
    refine lv_iconst (v := 1) hx hb dL_rowText_15 (by decide) ?_
    have hP9 := hP.sub (ws' := [(ou, .inl (y 1, 1, .inr (.inl (fun _ => 0))))]) [0] rfl
    have hD9 := hD.sub (ws' := [(ou, .inl (y 1, 1, .inr (.inl (fun _ => 0))))]) [0] (by decide) rfl
    refine W.widen (k := 1) (n := 6) (Nat.le_of_ble_eq_true rfl) (Nat.le_of_ble_eq_true rfl) ?_
    exact W.iret (v := 1) hx hb hr (fun t ht hW => ⟨⟨1, (fun _ => 0), rfl, ⟨hc.symm, fun h => absurd h (by decide)⟩, by rw [ht]; exact hP9, by first | exact hD9 | (rw [hAe]; exact hD9)⟩, hS.F ht⟩) hS.2.2 dL_rowText_16
  · have hP : va_P G vwCl [(ou, .inl (y 1, 1, .inr (.inl (fun _ => 0))))] H := hP
    have hD : va_D A [(ou, .inl (y 1, 1, .inr (.inl (fun _ => 0))))] := hD
    refine lv_i2l (v := r.toInt64) hx hb dL_rowText_8 rfl ?_
    refine va_last hx hb hK.1 hP hD hS 0 1 rfl rfl (i := 0) (nq_in (by decide)) dL_rowText_9 (fun H locs hP hD hS => ?_)
    have hP : va_P G vwCl [(ou, .inl (y 1, 1, .inr (.inl (vp_updL (fun _ => 0) 0 r.toInt64))))] H := hP
    have hD : va_D A [(ou, .inl (y 1, 1, .inr (.inl (vp_updL (fun _ => 0) 0 r.toInt64))))] := hD
    refine lv_goto (tgt := 17) hx hb dL_rowText_10 (by decide) ?_
    refine lv_iconst (v := 0) hx hb dL_rowText_17 (by decide) ?_
    have hP9 := hP.sub (ws' := [(ou, .inl (y 1, 1, .inr (.inl (vp_updL (fun _ => 0) 0 r.toInt64))))]) [0] rfl
    have hD9 := hD.sub (ws' := [(ou, .inl (y 1, 1, .inr (.inl (vp_updL (fun _ => 0) 0 r.toInt64))))]) [0] (by decide) rfl
    refine W.widen (k := 1) (n := 6) (Nat.le_of_ble_eq_true rfl) (Nat.le_of_ble_eq_true rfl) ?_
    exact W.iret (v := 0) hx hb hr (fun t ht hW => ⟨⟨0, (vp_updL (fun _ => 0) 0 r.toInt64), rfl, ⟨hw.1.symm, fun _ => by rw [pk_uLs, hw.2]⟩, by rw [ht]; exact hP9, by first | exact hD9 | (rw [hAe]; exact hD9)⟩, hS.F ht⟩) hS.2.2 dL_rowText_18

set_option maxHeartbeats 400000 in
set_option maxRecDepth 100000 in
theorem w_put (l : Launch) (hl0 : l.stackTraces = false) (G : va_G) (y : Nat → ClassId) (sz : Nat) (h0 : Nat) (tp : Nat) (ps : Nat) (sp : Nat) (tk : Nat) (dr : Nat) (pr : Nat) (da : Nat) (nw : Nat) (im : Nat) (ac : Nat) (ke : Nat) (si : Nat) (tx : Nat) (an : Nat) (dw : Nat) (nwt : Nat) (nwb : Nat) (nwn : Nat) (nwi : Nat) (nwr : Nat) (i : Int32) (j : Int32) (ou : Nat) : Met l yL_put wsL_put ({ frames := 7, cells := 1, slots := 6, locals := 123 }) (nq_PX G y sz [.ref h0, .int i, .int j, .ref ou] [(h0, .inr (10, [.ref tp, .int 0, .int (-1), .ref ps, .ref sp, .ref tk, .ref dr, .ref pr, .ref da, .ref nw, .ref im, .int 0, .ref ac, .ref ke, .ref si, .ref tx, .ref an, .ref dw])), (ps, .inl (y 3, 4, .inr (.inr (.inr (.inr (fun _ => none)))))), (nw, .inr (6, [.ref nwt, .ref nwb, .int 0, .ref nwn, .ref nwi, .int 0, .ref nwr])), (nwr, .inl (y 0, 3, .inl (fun _ => 0))), (ou, .inl (y 1, 1, .inr (.inl (fun _ => 0))))]) (va_Qi (fun (r : Int32) (g9 : Nat → Int64) => r = (sp_put i j).1 ∧ (r = 0 → g9 0 = (sp_put i j).2.toInt64)) (fun (g9 : Nat → Int64) t9 => va_P G vwCl [(ou, .inl (y 1, 1, .inr (.inl g9)))] t9.heap ∧ va_D (va_A [(h0, .inr (10, [.ref tp, .int 0, .int (-1), .ref ps, .ref sp, .ref tk, .ref dr, .ref pr, .ref da, .ref nw, .ref im, .int 0, .ref ac, .ref ke, .ref si, .ref tx, .ref an, .ref dw])), (ps, .inl (y 3, 4, .inr (.inr (.inr (.inr (fun _ => none)))))), (nw, .inr (6, [.ref nwt, .ref nwb, .int 0, .ref nwn, .ref nwi, .int 0, .ref nwr])), (nwr, .inl (y 0, 3, .inl (fun _ => 0))), (ou, .inl (y 1, 1, .inr (.inl (fun _ => 0))))] sz) [(ou, .inl (y 1, 1, .inr (.inl g9)))]) (va_A [(h0, .inr (10, [.ref tp, .int 0, .int (-1), .ref ps, .ref sp, .ref tk, .ref dr, .ref pr, .ref da, .ref nw, .ref im, .int 0, .ref ac, .ref ke, .ref si, .ref tx, .ref an, .ref dw])), (ps, .inl (y 3, 4, .inr (.inr (.inr (.inr (fun _ => none)))))), (nw, .inr (6, [.ref nwt, .ref nwb, .int 0, .ref nwn, .ref nwi, .int 0, .ref nwr])), (nwr, .inl (y 0, 3, .inl (fun _ => 0))), (ou, .inl (y 1, 1, .inr (.inl (fun _ => 0))))] sz)) 1 6 (va_A [(h0, .inr (10, [.ref tp, .int 0, .int (-1), .ref ps, .ref sp, .ref tk, .ref dr, .ref pr, .ref da, .ref nw, .ref im, .int 0, .ref ac, .ref ke, .ref si, .ref tx, .ref an, .ref dw])), (ps, .inl (y 3, 4, .inr (.inr (.inr (.inr (fun _ => none)))))), (nw, .inr (6, [.ref nwt, .ref nwb, .int 0, .ref nwn, .ref nwi, .int 0, .ref nwr])), (nwr, .inl (y 0, 3, .inl (fun _ => 0))), (ou, .inl (y 1, 1, .inr (.inl (fun _ => 0))))] sz) := by
  refine va_MetW (cc := cL_put) (maxL := 5) (ret := (some .int)) (hh := [(0, 10, 13, 13)]) (by decide) rfl ?_
  intro p e s m args below meth c s₁ B hml hv
  obtain ⟨rfl, hsz, hP, hK, hD0, hXs⟩ := hv
  have hx := B.exec
  have hb := B.bytes
  have hr := B.returns
  have hts := atoms_spec (ws := wsL_put) B.pre
  have hown : s.vm.findClass RL = some m.cls := findClass_of_methodNamed B.named
  have hlocks := B.notSynchronized
  have htb := vx_table (hh := [(0, 10, 13, 13)]) B (hts _ List.mem_cons_self)
  subst hsz
  have hD := hD0.self (sz := s.heap.size)
  generalize hAe : va_A [(h0, .inr (10, [.ref tp, .int 0, .int (-1), .ref ps, .ref sp, .ref tk, .ref dr, .ref pr, .ref da, .ref nw, .ref im, .int 0, .ref ac, .ref ke, .ref si, .ref tx, .ref an, .ref dw])), (ps, .inl (y 3, 4, .inr (.inr (.inr (.inr (fun _ => none)))))), (nw, .inr (6, [.ref nwt, .ref nwb, .int 0, .ref nwn, .ref nwi, .int 0, .ref nwr])), (nwr, .inl (y 0, 3, .inl (fun _ => 0))), (ou, .inl (y 1, 1, .inr (.inl (fun _ => 0))))] s.heap.size = A at hD hXs ⊢
  have hA : ∀ q : Nat, s.heap.size ≤ q → A q := fun q h => by rw [← hAe]; exact Or.inr h
  have hS : va_S A s.heap s.heap [] := va_S.rf
  have hP : va_P G vwCl [(h0, .inr (10, [.ref tp, .int 0, .int (-1), .ref ps, .ref sp, .ref tk, .ref dr, .ref pr, .ref da, .ref nw, .ref im, .int 0, .ref ac, .ref ke, .ref si, .ref tx, .ref an, .ref dw])), (ps, .inl (y 3, 4, .inr (.inr (.inr (.inr (fun _ => none)))))), (nw, .inr (6, [.ref nwt, .ref nwb, .int 0, .ref nwn, .ref nwi, .int 0, .ref nwr])), (nwr, .inl (y 0, 3, .inl (fun _ => 0))), (ou, .inl (y 1, 1, .inr (.inl (fun _ => 0))))] s.heap := hP
  have hl := lv_entry ([.ref h0, .int i, .int j, .ref ou]) (n := 5) (Nat.le_of_ble_eq_true rfl)
  rw [lg_entry_eq]
  generalize (lg_sl ([.ref h0, .int i, .int j, .ref ou]) ++ List.replicate (5 - (lg_sl ([.ref h0, .int i, .int j, .ref ou])).length) Slot.unset).toArray = ls at hl ⊢
  have hl : lv_has ls 5 [(0, .ref h0), (1, .int i), (2, .int j), (3, .ref ou)] := hl
  refine lv_aload_n hx hb dL_put_0 rfl (lv_at hl 3 rfl) ?_
  refine lv_iconst (v := 0) hx hb dL_put_1 (by decide) ?_
  refine lv_aload_n hx hb dL_put_2 rfl (lv_at hl 0 rfl) ?_
  refine lv_iload_n hx hb dL_put_3 rfl (lv_at hl 1 rfl) ?_
  refine lv_iload_n hx hb dL_put_4 rfl (lv_at hl 2 rfl) ?_
  refine nq_xi (wr := [(ou, .inl (y 1, 1, .inr (.inl (fun _ => 0))))]) (vx_runV (As := [.int i, .int j]) (rest := [.int 0, .ref ou]) ⟨hx, hb, hml, hown, hts⟩ (x_put l hl0 G y s.heap.size h0 tp ps sp tk dr pr da nw im ac ke si tx an dw nwt nwb nwn nwi nwr i j) (cwV 2 hts gL_put_X10_put rfl rfl rfl (by decide +kernel) ⟨Nat.le_of_ble_eq_true rfl, Nat.le_of_ble_eq_true rfl⟩) (nq_PXV hK hP hD hS hA hXs [0, 1, 2, 3] rfl rfl 0 rfl rfl) rfl rfl hl.1 rfl (lv_room (Nat.le_of_ble_eq_true rfl)) dL_put_5 ⟨Nat.le_of_ble_eq_true rfl, Nat.le_of_ble_eq_true rfl⟩) hP hD hS hA [0, 1, 2, 3] [4] rfl rfl (by decide) (by decide) (fun E ce q9 H locs hB hS hP hD h1 h2 h3 => ?_) (fun r u H locs hw hP hD hS => ?_)
  · obtain ⟨rfl, hc⟩ := hB
    have hP : va_P G vwCl [(ou, .inl (y 1, 1, .inr (.inl (fun _ => 0))))] H := hP
    have hD : va_D A [(ou, .inl (y 1, 1, .inr (.inl (fun _ => 0))))] := hD
    refine vx_catch (name := nq_IAE) hown [] (⟨0, 10, 13, 13⟩ : ExceptionTableEntry) [] htb (fun z hz => absurd hz (by simp)) (by decide) (by decide) (hts (.classLink RL 13 nq_IAE) (by decide +kernel)) (hXs.2.2.2.2.1.use) h1 h2 h3 ?_
    refine lv_astore (lv' := [(4, .ref q9), (0, .ref h0), (1, .int i), (2, .int j), (3, .ref ou)]) hx hb dL_put_13 hl (by decide) rfl (fun ls hl => ?_)
    refine lv_iconst (v := 1) hx hb dL_put_15 (by decide) ?_
    have hP9 := hP.sub (ws' := [(ou, .inl (y 1, 1, .inr (.inl (fun _ => 0))))]) [0] rfl
    have hD9 := hD.sub (ws' := [(ou, .inl (y 1, 1, .inr (.inl (fun _ => 0))))]) [0] (by decide) rfl
    refine W.widen (k := 1) (n := 6) (Nat.le_of_ble_eq_true rfl) (Nat.le_of_ble_eq_true rfl) ?_
    exact W.iret (v := 1) hx hb hr (fun t ht hW => ⟨⟨1, (fun _ => 0), rfl, ⟨hc.symm, fun h => absurd h (by decide)⟩, by rw [ht]; exact hP9, by first | exact hD9 | (rw [hAe]; exact hD9)⟩, hS.F ht⟩) hS.2.2 dL_put_16
  · have hP : va_P G vwCl [(ou, .inl (y 1, 1, .inr (.inl (fun _ => 0))))] H := hP
    have hD : va_D A [(ou, .inl (y 1, 1, .inr (.inl (fun _ => 0))))] := hD
    refine lv_i2l (v := r.toInt64) hx hb dL_put_8 rfl ?_
    refine va_last hx hb hK.1 hP hD hS 0 1 rfl rfl (i := 0) (nq_in (by decide)) dL_put_9 (fun H locs hP hD hS => ?_)
    have hP : va_P G vwCl [(ou, .inl (y 1, 1, .inr (.inl (vp_updL (fun _ => 0) 0 r.toInt64))))] H := hP
    have hD : va_D A [(ou, .inl (y 1, 1, .inr (.inl (vp_updL (fun _ => 0) 0 r.toInt64))))] := hD
    refine lv_goto (tgt := 17) hx hb dL_put_10 (by decide) ?_
    refine lv_iconst (v := 0) hx hb dL_put_17 (by decide) ?_
    have hP9 := hP.sub (ws' := [(ou, .inl (y 1, 1, .inr (.inl (vp_updL (fun _ => 0) 0 r.toInt64))))]) [0] rfl
    have hD9 := hD.sub (ws' := [(ou, .inl (y 1, 1, .inr (.inl (vp_updL (fun _ => 0) 0 r.toInt64))))]) [0] (by decide) rfl
    refine W.widen (k := 1) (n := 6) (Nat.le_of_ble_eq_true rfl) (Nat.le_of_ble_eq_true rfl) ?_
    exact W.iret (v := 0) hx hb hr (fun t ht hW => ⟨⟨0, (vp_updL (fun _ => 0) 0 r.toInt64), rfl, ⟨hw.1.symm, fun _ => by rw [pk_uLs, hw.2]⟩, by rw [ht]; exact hP9, by first | exact hD9 | (rw [hAe]; exact hD9)⟩, hS.F ht⟩) hS.2.2 dL_put_18

set_option maxHeartbeats 400000 in
set_option maxRecDepth 100000 in
theorem w_append (l : Launch) (hl0 : l.stackTraces = false) (G : va_G) (y : Nat → ClassId) (sz : Nat) (h0 : Nat) (tp : Nat) (ps : Nat) (sp : Nat) (tk : Nat) (dr : Nat) (pr : Nat) (da : Nat) (nw : Nat) (im : Nat) (ac : Nat) (ke : Nat) (si : Nat) (tx : Nat) (an : Nat) (dw : Nat) (nwt : Nat) (nwb : Nat) (nwn : Nat) (nwi : Nat) (nwr : Nat) (i : Int32) (j : Int32) (ou : Nat) : Met l yL_append wsL_append ({ frames := 7, cells := 1, slots := 6, locals := 123 }) (nq_PX G y sz [.ref h0, .int i, .int j, .ref ou] [(h0, .inr (10, [.ref tp, .int 0, .int (-1), .ref ps, .ref sp, .ref tk, .ref dr, .ref pr, .ref da, .ref nw, .ref im, .int 0, .ref ac, .ref ke, .ref si, .ref tx, .ref an, .ref dw])), (ps, .inl (y 3, 4, .inr (.inr (.inr (.inr (fun _ => none)))))), (nw, .inr (6, [.ref nwt, .ref nwb, .int 0, .ref nwn, .ref nwi, .int 0, .ref nwr])), (nwr, .inl (y 0, 3, .inl (fun _ => 0))), (ou, .inl (y 1, 1, .inr (.inl (fun _ => 0))))]) (va_Qi (fun (r : Int32) (g9 : Nat → Int64) => r = (sp_put i j).1 ∧ (r = 0 → g9 0 = (sp_put i j).2.toInt64)) (fun (g9 : Nat → Int64) t9 => va_P G vwCl [(ou, .inl (y 1, 1, .inr (.inl g9)))] t9.heap ∧ va_D (va_A [(h0, .inr (10, [.ref tp, .int 0, .int (-1), .ref ps, .ref sp, .ref tk, .ref dr, .ref pr, .ref da, .ref nw, .ref im, .int 0, .ref ac, .ref ke, .ref si, .ref tx, .ref an, .ref dw])), (ps, .inl (y 3, 4, .inr (.inr (.inr (.inr (fun _ => none)))))), (nw, .inr (6, [.ref nwt, .ref nwb, .int 0, .ref nwn, .ref nwi, .int 0, .ref nwr])), (nwr, .inl (y 0, 3, .inl (fun _ => 0))), (ou, .inl (y 1, 1, .inr (.inl (fun _ => 0))))] sz) [(ou, .inl (y 1, 1, .inr (.inl g9)))]) (va_A [(h0, .inr (10, [.ref tp, .int 0, .int (-1), .ref ps, .ref sp, .ref tk, .ref dr, .ref pr, .ref da, .ref nw, .ref im, .int 0, .ref ac, .ref ke, .ref si, .ref tx, .ref an, .ref dw])), (ps, .inl (y 3, 4, .inr (.inr (.inr (.inr (fun _ => none)))))), (nw, .inr (6, [.ref nwt, .ref nwb, .int 0, .ref nwn, .ref nwi, .int 0, .ref nwr])), (nwr, .inl (y 0, 3, .inl (fun _ => 0))), (ou, .inl (y 1, 1, .inr (.inl (fun _ => 0))))] sz)) 1 6 (va_A [(h0, .inr (10, [.ref tp, .int 0, .int (-1), .ref ps, .ref sp, .ref tk, .ref dr, .ref pr, .ref da, .ref nw, .ref im, .int 0, .ref ac, .ref ke, .ref si, .ref tx, .ref an, .ref dw])), (ps, .inl (y 3, 4, .inr (.inr (.inr (.inr (fun _ => none)))))), (nw, .inr (6, [.ref nwt, .ref nwb, .int 0, .ref nwn, .ref nwi, .int 0, .ref nwr])), (nwr, .inl (y 0, 3, .inl (fun _ => 0))), (ou, .inl (y 1, 1, .inr (.inl (fun _ => 0))))] sz) := by
  refine va_MetW (cc := cL_append) (maxL := 5) (ret := (some .int)) (hh := [(0, 10, 13, 13)]) (by decide) rfl ?_
  intro p e s m args below meth c s₁ B hml hv
  obtain ⟨rfl, hsz, hP, hK, hD0, hXs⟩ := hv
  have hx := B.exec
  have hb := B.bytes
  have hr := B.returns
  have hts := atoms_spec (ws := wsL_append) B.pre
  have hown : s.vm.findClass RL = some m.cls := findClass_of_methodNamed B.named
  have hlocks := B.notSynchronized
  have htb := vx_table (hh := [(0, 10, 13, 13)]) B (hts _ List.mem_cons_self)
  subst hsz
  have hD := hD0.self (sz := s.heap.size)
  generalize hAe : va_A [(h0, .inr (10, [.ref tp, .int 0, .int (-1), .ref ps, .ref sp, .ref tk, .ref dr, .ref pr, .ref da, .ref nw, .ref im, .int 0, .ref ac, .ref ke, .ref si, .ref tx, .ref an, .ref dw])), (ps, .inl (y 3, 4, .inr (.inr (.inr (.inr (fun _ => none)))))), (nw, .inr (6, [.ref nwt, .ref nwb, .int 0, .ref nwn, .ref nwi, .int 0, .ref nwr])), (nwr, .inl (y 0, 3, .inl (fun _ => 0))), (ou, .inl (y 1, 1, .inr (.inl (fun _ => 0))))] s.heap.size = A at hD hXs ⊢
  have hA : ∀ q : Nat, s.heap.size ≤ q → A q := fun q h => by rw [← hAe]; exact Or.inr h
  have hS : va_S A s.heap s.heap [] := va_S.rf
  have hP : va_P G vwCl [(h0, .inr (10, [.ref tp, .int 0, .int (-1), .ref ps, .ref sp, .ref tk, .ref dr, .ref pr, .ref da, .ref nw, .ref im, .int 0, .ref ac, .ref ke, .ref si, .ref tx, .ref an, .ref dw])), (ps, .inl (y 3, 4, .inr (.inr (.inr (.inr (fun _ => none)))))), (nw, .inr (6, [.ref nwt, .ref nwb, .int 0, .ref nwn, .ref nwi, .int 0, .ref nwr])), (nwr, .inl (y 0, 3, .inl (fun _ => 0))), (ou, .inl (y 1, 1, .inr (.inl (fun _ => 0))))] s.heap := hP
  have hl := lv_entry ([.ref h0, .int i, .int j, .ref ou]) (n := 5) (Nat.le_of_ble_eq_true rfl)
  rw [lg_entry_eq]
  generalize (lg_sl ([.ref h0, .int i, .int j, .ref ou]) ++ List.replicate (5 - (lg_sl ([.ref h0, .int i, .int j, .ref ou])).length) Slot.unset).toArray = ls at hl ⊢
  have hl : lv_has ls 5 [(0, .ref h0), (1, .int i), (2, .int j), (3, .ref ou)] := hl
  refine lv_aload_n hx hb dL_append_0 rfl (lv_at hl 3 rfl) ?_
  refine lv_iconst (v := 0) hx hb dL_append_1 (by decide) ?_
  refine lv_aload_n hx hb dL_append_2 rfl (lv_at hl 0 rfl) ?_
  refine lv_iload_n hx hb dL_append_3 rfl (lv_at hl 1 rfl) ?_
  refine lv_iload_n hx hb dL_append_4 rfl (lv_at hl 2 rfl) ?_
  refine nq_xi (wr := [(ou, .inl (y 1, 1, .inr (.inl (fun _ => 0))))]) (vx_runV (As := [.int i, .int j]) (rest := [.int 0, .ref ou]) ⟨hx, hb, hml, hown, hts⟩ (x_append l hl0 G y s.heap.size h0 tp ps sp tk dr pr da nw im ac ke si tx an dw nwt nwb nwn nwi nwr i j) (cwV 2 hts gL_append_X10_append rfl rfl rfl (by decide +kernel) ⟨Nat.le_of_ble_eq_true rfl, Nat.le_of_ble_eq_true rfl⟩) (nq_PXV hK hP hD hS hA hXs [0, 1, 2, 3] rfl rfl 0 rfl rfl) rfl rfl hl.1 rfl (lv_room (Nat.le_of_ble_eq_true rfl)) dL_append_5 ⟨Nat.le_of_ble_eq_true rfl, Nat.le_of_ble_eq_true rfl⟩) hP hD hS hA [0, 1, 2, 3] [4] rfl rfl (by decide) (by decide) (fun E ce q9 H locs hB hS hP hD h1 h2 h3 => ?_) (fun r u H locs hw hP hD hS => ?_)
  · obtain ⟨rfl, hc⟩ := hB
    have hP : va_P G vwCl [(ou, .inl (y 1, 1, .inr (.inl (fun _ => 0))))] H := hP
    have hD : va_D A [(ou, .inl (y 1, 1, .inr (.inl (fun _ => 0))))] := hD
    refine vx_catch (name := nq_IAE) hown [] (⟨0, 10, 13, 13⟩ : ExceptionTableEntry) [] htb (fun z hz => absurd hz (by simp)) (by decide) (by decide) (hts (.classLink RL 13 nq_IAE) (by decide +kernel)) (hXs.2.2.2.2.1.use) h1 h2 h3 ?_
    refine lv_astore (lv' := [(4, .ref q9), (0, .ref h0), (1, .int i), (2, .int j), (3, .ref ou)]) hx hb dL_append_13 hl (by decide) rfl (fun ls hl => ?_)
    refine lv_iconst (v := 1) hx hb dL_append_15 (by decide) ?_
    have hP9 := hP.sub (ws' := [(ou, .inl (y 1, 1, .inr (.inl (fun _ => 0))))]) [0] rfl
    have hD9 := hD.sub (ws' := [(ou, .inl (y 1, 1, .inr (.inl (fun _ => 0))))]) [0] (by decide) rfl
    refine W.widen (k := 1) (n := 6) (Nat.le_of_ble_eq_true rfl) (Nat.le_of_ble_eq_true rfl) ?_
    exact W.iret (v := 1) hx hb hr (fun t ht hW => ⟨⟨1, (fun _ => 0), rfl, ⟨hc.symm, fun h => absurd h (by decide)⟩, by rw [ht]; exact hP9, by first | exact hD9 | (rw [hAe]; exact hD9)⟩, hS.F ht⟩) hS.2.2 dL_append_16
  · have hP : va_P G vwCl [(ou, .inl (y 1, 1, .inr (.inl (fun _ => 0))))] H := hP
    have hD : va_D A [(ou, .inl (y 1, 1, .inr (.inl (fun _ => 0))))] := hD
    refine lv_i2l (v := r.toInt64) hx hb dL_append_8 rfl ?_
    refine va_last hx hb hK.1 hP hD hS 0 1 rfl rfl (i := 0) (nq_in (by decide)) dL_append_9 (fun H locs hP hD hS => ?_)
    have hP : va_P G vwCl [(ou, .inl (y 1, 1, .inr (.inl (vp_updL (fun _ => 0) 0 r.toInt64))))] H := hP
    have hD : va_D A [(ou, .inl (y 1, 1, .inr (.inl (vp_updL (fun _ => 0) 0 r.toInt64))))] := hD
    refine lv_goto (tgt := 17) hx hb dL_append_10 (by decide) ?_
    refine lv_iconst (v := 0) hx hb dL_append_17 (by decide) ?_
    have hP9 := hP.sub (ws' := [(ou, .inl (y 1, 1, .inr (.inl (vp_updL (fun _ => 0) 0 r.toInt64))))]) [0] rfl
    have hD9 := hD.sub (ws' := [(ou, .inl (y 1, 1, .inr (.inl (vp_updL (fun _ => 0) 0 r.toInt64))))]) [0] (by decide) rfl
    refine W.widen (k := 1) (n := 6) (Nat.le_of_ble_eq_true rfl) (Nat.le_of_ble_eq_true rfl) ?_
    exact W.iret (v := 0) hx hb hr (fun t ht hW => ⟨⟨0, (vp_updL (fun _ => 0) 0 r.toInt64), rfl, ⟨hw.1.symm, fun _ => by rw [pk_uLs, hw.2]⟩, by rw [ht]; exact hP9, by first | exact hD9 | (rw [hAe]; exact hD9)⟩, hS.F ht⟩) hS.2.2 dL_append_18

set_option maxHeartbeats 400000 in
set_option maxRecDepth 100000 in
theorem w_key (l : Launch) (hl0 : l.stackTraces = false) (G : va_G) (y : Nat → ClassId) (sz : Nat) (h0 : Nat) (tp : Nat) (ps : Nat) (sp : Nat) (tk : Nat) (dr : Nat) (pr : Nat) (da : Nat) (nw : Nat) (im : Nat) (ac : Nat) (ke : Nat) (si : Nat) (tx : Nat) (an : Nat) (dw : Nat) (nwt : Nat) (nwb : Nat) (nwn : Nat) (nwi : Nat) (nwr : Nat) (i : Int32) (k : Int32) (j : Int32) (ou : Nat) : Met l yL_key wsL_key ({ frames := 7, cells := 1, slots := 6, locals := 124 }) (nq_PX G y sz [.ref h0, .int i, .int k, .int j, .ref ou] [(h0, .inr (10, [.ref tp, .int 0, .int (-1), .ref ps, .ref sp, .ref tk, .ref dr, .ref pr, .ref da, .ref nw, .ref im, .int 0, .ref ac, .ref ke, .ref si, .ref tx, .ref an, .ref dw])), (ps, .inl (y 3, 4, .inr (.inr (.inr (.inr (fun _ => none)))))), (nw, .inr (6, [.ref nwt, .ref nwb, .int 0, .ref nwn, .ref nwi, .int 0, .ref nwr])), (nwr, .inl (y 0, 3, .inl (fun _ => 0))), (ou, .inl (y 1, 1, .inr (.inl (fun _ => 0))))]) (va_Qi (fun (r : Int32) (g9 : Nat → Int64) => r = (sp_key i k j).1 ∧ (r = 0 → g9 0 = (sp_key i k j).2.toInt64)) (fun (g9 : Nat → Int64) t9 => va_P G vwCl [(ou, .inl (y 1, 1, .inr (.inl g9)))] t9.heap ∧ va_D (va_A [(h0, .inr (10, [.ref tp, .int 0, .int (-1), .ref ps, .ref sp, .ref tk, .ref dr, .ref pr, .ref da, .ref nw, .ref im, .int 0, .ref ac, .ref ke, .ref si, .ref tx, .ref an, .ref dw])), (ps, .inl (y 3, 4, .inr (.inr (.inr (.inr (fun _ => none)))))), (nw, .inr (6, [.ref nwt, .ref nwb, .int 0, .ref nwn, .ref nwi, .int 0, .ref nwr])), (nwr, .inl (y 0, 3, .inl (fun _ => 0))), (ou, .inl (y 1, 1, .inr (.inl (fun _ => 0))))] sz) [(ou, .inl (y 1, 1, .inr (.inl g9)))]) (va_A [(h0, .inr (10, [.ref tp, .int 0, .int (-1), .ref ps, .ref sp, .ref tk, .ref dr, .ref pr, .ref da, .ref nw, .ref im, .int 0, .ref ac, .ref ke, .ref si, .ref tx, .ref an, .ref dw])), (ps, .inl (y 3, 4, .inr (.inr (.inr (.inr (fun _ => none)))))), (nw, .inr (6, [.ref nwt, .ref nwb, .int 0, .ref nwn, .ref nwi, .int 0, .ref nwr])), (nwr, .inl (y 0, 3, .inl (fun _ => 0))), (ou, .inl (y 1, 1, .inr (.inl (fun _ => 0))))] sz)) 1 6 (va_A [(h0, .inr (10, [.ref tp, .int 0, .int (-1), .ref ps, .ref sp, .ref tk, .ref dr, .ref pr, .ref da, .ref nw, .ref im, .int 0, .ref ac, .ref ke, .ref si, .ref tx, .ref an, .ref dw])), (ps, .inl (y 3, 4, .inr (.inr (.inr (.inr (fun _ => none)))))), (nw, .inr (6, [.ref nwt, .ref nwb, .int 0, .ref nwn, .ref nwi, .int 0, .ref nwr])), (nwr, .inl (y 0, 3, .inl (fun _ => 0))), (ou, .inl (y 1, 1, .inr (.inl (fun _ => 0))))] sz) := by
  refine va_MetW (cc := cL_key) (maxL := 6) (ret := (some .int)) (hh := [(0, 12, 15, 13)]) (by decide) rfl ?_
  intro p e s m args below meth c s₁ B hml hv
  obtain ⟨rfl, hsz, hP, hK, hD0, hXs⟩ := hv
  have hx := B.exec
  have hb := B.bytes
  have hr := B.returns
  have hts := atoms_spec (ws := wsL_key) B.pre
  have hown : s.vm.findClass RL = some m.cls := findClass_of_methodNamed B.named
  have hlocks := B.notSynchronized
  have htb := vx_table (hh := [(0, 12, 15, 13)]) B (hts _ List.mem_cons_self)
  subst hsz
  have hD := hD0.self (sz := s.heap.size)
  generalize hAe : va_A [(h0, .inr (10, [.ref tp, .int 0, .int (-1), .ref ps, .ref sp, .ref tk, .ref dr, .ref pr, .ref da, .ref nw, .ref im, .int 0, .ref ac, .ref ke, .ref si, .ref tx, .ref an, .ref dw])), (ps, .inl (y 3, 4, .inr (.inr (.inr (.inr (fun _ => none)))))), (nw, .inr (6, [.ref nwt, .ref nwb, .int 0, .ref nwn, .ref nwi, .int 0, .ref nwr])), (nwr, .inl (y 0, 3, .inl (fun _ => 0))), (ou, .inl (y 1, 1, .inr (.inl (fun _ => 0))))] s.heap.size = A at hD hXs ⊢
  have hA : ∀ q : Nat, s.heap.size ≤ q → A q := fun q h => by rw [← hAe]; exact Or.inr h
  have hS : va_S A s.heap s.heap [] := va_S.rf
  have hP : va_P G vwCl [(h0, .inr (10, [.ref tp, .int 0, .int (-1), .ref ps, .ref sp, .ref tk, .ref dr, .ref pr, .ref da, .ref nw, .ref im, .int 0, .ref ac, .ref ke, .ref si, .ref tx, .ref an, .ref dw])), (ps, .inl (y 3, 4, .inr (.inr (.inr (.inr (fun _ => none)))))), (nw, .inr (6, [.ref nwt, .ref nwb, .int 0, .ref nwn, .ref nwi, .int 0, .ref nwr])), (nwr, .inl (y 0, 3, .inl (fun _ => 0))), (ou, .inl (y 1, 1, .inr (.inl (fun _ => 0))))] s.heap := hP
  have hl := lv_entry ([.ref h0, .int i, .int k, .int j, .ref ou]) (n := 6) (Nat.le_of_ble_eq_true rfl)
  rw [lg_entry_eq]
  generalize (lg_sl ([.ref h0, .int i, .int k, .int j, .ref ou]) ++ List.replicate (6 - (lg_sl ([.ref h0, .int i, .int k, .int j, .ref ou])).length) Slot.unset).toArray = ls at hl ⊢
  have hl : lv_has ls 6 [(0, .ref h0), (1, .int i), (2, .int k), (3, .int j), (4, .ref ou)] := hl
  refine lv_aload hx hb dL_key_0 (lv_at hl 4 rfl) ?_
  refine lv_iconst (v := 0) hx hb dL_key_2 (by decide) ?_
  refine lv_aload_n hx hb dL_key_3 rfl (lv_at hl 0 rfl) ?_
  refine lv_iload_n hx hb dL_key_4 rfl (lv_at hl 1 rfl) ?_
  refine lv_iload_n hx hb dL_key_5 rfl (lv_at hl 2 rfl) ?_
  refine lv_iload_n hx hb dL_key_6 rfl (lv_at hl 3 rfl) ?_
  refine nq_xi (wr := [(ou, .inl (y 1, 1, .inr (.inl (fun _ => 0))))]) (vx_runV (As := [.int i, .int k, .int j]) (rest := [.int 0, .ref ou]) ⟨hx, hb, hml, hown, hts⟩ (x_key l hl0 G y s.heap.size h0 tp ps sp tk dr pr da nw im ac ke si tx an dw nwt nwb nwn nwi nwr i k j) (cwV 3 hts gL_key_X10_key rfl rfl rfl (by decide +kernel) ⟨Nat.le_of_ble_eq_true rfl, Nat.le_of_ble_eq_true rfl⟩) (nq_PXV hK hP hD hS hA hXs [0, 1, 2, 3] rfl rfl 0 rfl rfl) rfl rfl hl.1 rfl (lv_room (Nat.le_of_ble_eq_true rfl)) dL_key_7 ⟨Nat.le_of_ble_eq_true rfl, Nat.le_of_ble_eq_true rfl⟩) hP hD hS hA [0, 1, 2, 3] [4] rfl rfl (by decide) (by decide) (fun E ce q9 H locs hB hS hP hD h1 h2 h3 => ?_) (fun r u H locs hw hP hD hS => ?_)
  · obtain ⟨rfl, hc⟩ := hB
    have hP : va_P G vwCl [(ou, .inl (y 1, 1, .inr (.inl (fun _ => 0))))] H := hP
    have hD : va_D A [(ou, .inl (y 1, 1, .inr (.inl (fun _ => 0))))] := hD
    refine vx_catch (name := nq_IAE) hown [] (⟨0, 12, 15, 13⟩ : ExceptionTableEntry) [] htb (fun z hz => absurd hz (by simp)) (by decide) (by decide) (hts (.classLink RL 13 nq_IAE) (by decide +kernel)) (hXs.2.2.2.2.1.use) h1 h2 h3 ?_
    refine lv_astore (lv' := [(5, .ref q9), (0, .ref h0), (1, .int i), (2, .int k), (3, .int j), (4, .ref ou)]) hx hb dL_key_15 hl (by decide) rfl (fun ls hl => ?_)
    refine lv_iconst (v := 1) hx hb dL_key_17 (by decide) ?_
    have hP9 := hP.sub (ws' := [(ou, .inl (y 1, 1, .inr (.inl (fun _ => 0))))]) [0] rfl
    have hD9 := hD.sub (ws' := [(ou, .inl (y 1, 1, .inr (.inl (fun _ => 0))))]) [0] (by decide) rfl
    refine W.widen (k := 1) (n := 6) (Nat.le_of_ble_eq_true rfl) (Nat.le_of_ble_eq_true rfl) ?_
    exact W.iret (v := 1) hx hb hr (fun t ht hW => ⟨⟨1, (fun _ => 0), rfl, ⟨hc.symm, fun h => absurd h (by decide)⟩, by rw [ht]; exact hP9, by first | exact hD9 | (rw [hAe]; exact hD9)⟩, hS.F ht⟩) hS.2.2 dL_key_18
  · have hP : va_P G vwCl [(ou, .inl (y 1, 1, .inr (.inl (fun _ => 0))))] H := hP
    have hD : va_D A [(ou, .inl (y 1, 1, .inr (.inl (fun _ => 0))))] := hD
    refine lv_i2l (v := r.toInt64) hx hb dL_key_10 rfl ?_
    refine va_last hx hb hK.1 hP hD hS 0 1 rfl rfl (i := 0) (nq_in (by decide)) dL_key_11 (fun H locs hP hD hS => ?_)
    have hP : va_P G vwCl [(ou, .inl (y 1, 1, .inr (.inl (vp_updL (fun _ => 0) 0 r.toInt64))))] H := hP
    have hD : va_D A [(ou, .inl (y 1, 1, .inr (.inl (vp_updL (fun _ => 0) 0 r.toInt64))))] := hD
    refine lv_goto (tgt := 19) hx hb dL_key_12 (by decide) ?_
    refine lv_iconst (v := 0) hx hb dL_key_19 (by decide) ?_
    have hP9 := hP.sub (ws' := [(ou, .inl (y 1, 1, .inr (.inl (vp_updL (fun _ => 0) 0 r.toInt64))))]) [0] rfl
    have hD9 := hD.sub (ws' := [(ou, .inl (y 1, 1, .inr (.inl (vp_updL (fun _ => 0) 0 r.toInt64))))]) [0] (by decide) rfl
    refine W.widen (k := 1) (n := 6) (Nat.le_of_ble_eq_true rfl) (Nat.le_of_ble_eq_true rfl) ?_
    exact W.iret (v := 0) hx hb hr (fun t ht hW => ⟨⟨0, (vp_updL (fun _ => 0) 0 r.toInt64), rfl, ⟨hw.1.symm, fun _ => by rw [pk_uLs, hw.2]⟩, by rw [ht]; exact hP9, by first | exact hD9 | (rw [hAe]; exact hD9)⟩, hS.F ht⟩) hS.2.2 dL_key_20

set_option maxHeartbeats 400000 in
set_option maxRecDepth 100000 in
theorem w_years (l : Launch) (hl0 : l.stackTraces = false) (G : va_G) (y : Nat → ClassId) (sz : Nat) (h0 : Nat) (tp : Nat) (ps : Nat) (sp : Nat) (tk : Nat) (dr : Nat) (pr : Nat) (da : Nat) (nw : Nat) (im : Nat) (ac : Nat) (ke : Nat) (si : Nat) (tx : Nat) (an : Nat) (dw : Nat) (ac1 : Nat) (ac2 : Nat) (ac3 : Nat) (nwt : Nat) (nwb : Nat) (nwn : Nat) (nwi : Nat) (nwr : Nat) (nwtk : Nat) (nwtv : Nat) (nwte : Nat) (nwtd : Nat) (a : Int32) (n : Int32) (i : Int32) (ou : Nat) : Met l yL_years wsL_years ({ frames := 7, cells := 1, slots := 6, locals := 125 }) (nq_PX G y sz [.ref h0, .int a, .int n, .int i, .ref ou] [(h0, .inr (10, [.ref tp, .int 0, .int (-1), .ref ps, .ref sp, .ref tk, .ref dr, .ref pr, .ref da, .ref nw, .ref im, .int 0, .ref ac, .ref ke, .ref si, .ref tx, .ref an, .ref dw])), (ps, .inl (y 3, 4, .inr (.inr (.inr (.inr (fun _ => none)))))), (ac, .inr (0, [.ref nw, .ref ac1, .ref ac2, .ref ac3])), (nw, .inr (6, [.ref nwt, .ref nwb, .int 0, .ref nwn, .ref nwi, .int 0, .ref nwr])), (nwt, .inr (9, [.ref nwtk, .ref nwtv, .ref nwte, .ref nwtd, .int 1])), (nwtk, .inl (y 0, 60, .inl (upd (fun _ => 0) 0 3))), (dw, .inr (2, [.int 0])), (ou, .inl (y 1, 1, .inr (.inl (fun _ => 0))))]) (va_Qi (fun (r : Int32) (g9 : Nat → Int64) => r = (sp_years a n i).1 ∧ (r = 0 → g9 0 = (sp_years a n i).2.toInt64)) (fun (g9 : Nat → Int64) t9 => va_P G vwCl [(ou, .inl (y 1, 1, .inr (.inl g9)))] t9.heap ∧ va_D (va_A [(h0, .inr (10, [.ref tp, .int 0, .int (-1), .ref ps, .ref sp, .ref tk, .ref dr, .ref pr, .ref da, .ref nw, .ref im, .int 0, .ref ac, .ref ke, .ref si, .ref tx, .ref an, .ref dw])), (ps, .inl (y 3, 4, .inr (.inr (.inr (.inr (fun _ => none)))))), (ac, .inr (0, [.ref nw, .ref ac1, .ref ac2, .ref ac3])), (nw, .inr (6, [.ref nwt, .ref nwb, .int 0, .ref nwn, .ref nwi, .int 0, .ref nwr])), (nwt, .inr (9, [.ref nwtk, .ref nwtv, .ref nwte, .ref nwtd, .int 1])), (nwtk, .inl (y 0, 60, .inl (upd (fun _ => 0) 0 3))), (dw, .inr (2, [.int 0])), (ou, .inl (y 1, 1, .inr (.inl (fun _ => 0))))] sz) [(ou, .inl (y 1, 1, .inr (.inl g9)))]) (va_A [(h0, .inr (10, [.ref tp, .int 0, .int (-1), .ref ps, .ref sp, .ref tk, .ref dr, .ref pr, .ref da, .ref nw, .ref im, .int 0, .ref ac, .ref ke, .ref si, .ref tx, .ref an, .ref dw])), (ps, .inl (y 3, 4, .inr (.inr (.inr (.inr (fun _ => none)))))), (ac, .inr (0, [.ref nw, .ref ac1, .ref ac2, .ref ac3])), (nw, .inr (6, [.ref nwt, .ref nwb, .int 0, .ref nwn, .ref nwi, .int 0, .ref nwr])), (nwt, .inr (9, [.ref nwtk, .ref nwtv, .ref nwte, .ref nwtd, .int 1])), (nwtk, .inl (y 0, 60, .inl (upd (fun _ => 0) 0 3))), (dw, .inr (2, [.int 0])), (ou, .inl (y 1, 1, .inr (.inl (fun _ => 0))))] sz)) 1 6 (va_A [(h0, .inr (10, [.ref tp, .int 0, .int (-1), .ref ps, .ref sp, .ref tk, .ref dr, .ref pr, .ref da, .ref nw, .ref im, .int 0, .ref ac, .ref ke, .ref si, .ref tx, .ref an, .ref dw])), (ps, .inl (y 3, 4, .inr (.inr (.inr (.inr (fun _ => none)))))), (ac, .inr (0, [.ref nw, .ref ac1, .ref ac2, .ref ac3])), (nw, .inr (6, [.ref nwt, .ref nwb, .int 0, .ref nwn, .ref nwi, .int 0, .ref nwr])), (nwt, .inr (9, [.ref nwtk, .ref nwtv, .ref nwte, .ref nwtd, .int 1])), (nwtk, .inl (y 0, 60, .inl (upd (fun _ => 0) 0 3))), (dw, .inr (2, [.int 0])), (ou, .inl (y 1, 1, .inr (.inl (fun _ => 0))))] sz) := by
  refine va_MetW (cc := cL_years) (maxL := 6) (ret := (some .int)) (hh := [(0, 12, 15, 19), (0, 12, 19, 13)]) (by decide) rfl ?_
  intro p e s m args below meth c s₁ B hml hv
  obtain ⟨rfl, hsz, hP, hK, hD0, hXs⟩ := hv
  have hx := B.exec
  have hb := B.bytes
  have hr := B.returns
  have hts := atoms_spec (ws := wsL_years) B.pre
  have hown : s.vm.findClass RL = some m.cls := findClass_of_methodNamed B.named
  have hlocks := B.notSynchronized
  have htb := vx_table (hh := [(0, 12, 15, 19), (0, 12, 19, 13)]) B (hts _ List.mem_cons_self)
  subst hsz
  have hD := hD0.self (sz := s.heap.size)
  generalize hAe : va_A [(h0, .inr (10, [.ref tp, .int 0, .int (-1), .ref ps, .ref sp, .ref tk, .ref dr, .ref pr, .ref da, .ref nw, .ref im, .int 0, .ref ac, .ref ke, .ref si, .ref tx, .ref an, .ref dw])), (ps, .inl (y 3, 4, .inr (.inr (.inr (.inr (fun _ => none)))))), (ac, .inr (0, [.ref nw, .ref ac1, .ref ac2, .ref ac3])), (nw, .inr (6, [.ref nwt, .ref nwb, .int 0, .ref nwn, .ref nwi, .int 0, .ref nwr])), (nwt, .inr (9, [.ref nwtk, .ref nwtv, .ref nwte, .ref nwtd, .int 1])), (nwtk, .inl (y 0, 60, .inl (upd (fun _ => 0) 0 3))), (dw, .inr (2, [.int 0])), (ou, .inl (y 1, 1, .inr (.inl (fun _ => 0))))] s.heap.size = A at hD hXs ⊢
  have hA : ∀ q : Nat, s.heap.size ≤ q → A q := fun q h => by rw [← hAe]; exact Or.inr h
  have hS : va_S A s.heap s.heap [] := va_S.rf
  have hP : va_P G vwCl [(h0, .inr (10, [.ref tp, .int 0, .int (-1), .ref ps, .ref sp, .ref tk, .ref dr, .ref pr, .ref da, .ref nw, .ref im, .int 0, .ref ac, .ref ke, .ref si, .ref tx, .ref an, .ref dw])), (ps, .inl (y 3, 4, .inr (.inr (.inr (.inr (fun _ => none)))))), (ac, .inr (0, [.ref nw, .ref ac1, .ref ac2, .ref ac3])), (nw, .inr (6, [.ref nwt, .ref nwb, .int 0, .ref nwn, .ref nwi, .int 0, .ref nwr])), (nwt, .inr (9, [.ref nwtk, .ref nwtv, .ref nwte, .ref nwtd, .int 1])), (nwtk, .inl (y 0, 60, .inl (upd (fun _ => 0) 0 3))), (dw, .inr (2, [.int 0])), (ou, .inl (y 1, 1, .inr (.inl (fun _ => 0))))] s.heap := hP
  have hl := lv_entry ([.ref h0, .int a, .int n, .int i, .ref ou]) (n := 6) (Nat.le_of_ble_eq_true rfl)
  rw [lg_entry_eq]
  generalize (lg_sl ([.ref h0, .int a, .int n, .int i, .ref ou]) ++ List.replicate (6 - (lg_sl ([.ref h0, .int a, .int n, .int i, .ref ou])).length) Slot.unset).toArray = ls at hl ⊢
  have hl : lv_has ls 6 [(0, .ref h0), (1, .int a), (2, .int n), (3, .int i), (4, .ref ou)] := hl
  refine lv_aload hx hb dL_years_0 (lv_at hl 4 rfl) ?_
  refine lv_iconst (v := 0) hx hb dL_years_2 (by decide) ?_
  refine lv_aload_n hx hb dL_years_3 rfl (lv_at hl 0 rfl) ?_
  refine lv_iload_n hx hb dL_years_4 rfl (lv_at hl 1 rfl) ?_
  refine lv_iload_n hx hb dL_years_5 rfl (lv_at hl 2 rfl) ?_
  refine lv_iload_n hx hb dL_years_6 rfl (lv_at hl 3 rfl) ?_
  refine nq_xi (wr := [(ou, .inl (y 1, 1, .inr (.inl (fun _ => 0))))]) (vx_runV (As := [.int a, .int n, .int i]) (rest := [.int 0, .ref ou]) ⟨hx, hb, hml, hown, hts⟩ (x_years l hl0 G y s.heap.size h0 tp ps sp tk dr pr da nw im ac ke si tx an dw ac1 ac2 ac3 nwt nwb nwn nwi nwr nwtk nwtv nwte nwtd a n i) (cwV 3 hts gL_years_X10_years rfl rfl rfl (by decide +kernel) ⟨Nat.le_of_ble_eq_true rfl, Nat.le_of_ble_eq_true rfl⟩) (nq_PXV hK hP hD hS hA hXs [0, 1, 2, 3, 4, 5, 6] rfl rfl 0 rfl rfl) rfl rfl hl.1 rfl (lv_room (Nat.le_of_ble_eq_true rfl)) dL_years_7 ⟨Nat.le_of_ble_eq_true rfl, Nat.le_of_ble_eq_true rfl⟩) hP hD hS hA [0, 1, 2, 3, 4, 5, 6] [7] rfl rfl (by decide) (by decide) (fun E ce q9 H locs hB hS hP hD h1 h2 h3 => ?_) (fun r u H locs hw hP hD hS => ?_)
  · rcases hB with ⟨rfl, hc⟩ | ⟨rfl, hc⟩
    · have hP : va_P G vwCl [(ou, .inl (y 1, 1, .inr (.inl (fun _ => 0))))] H := hP
      have hD : va_D A [(ou, .inl (y 1, 1, .inr (.inl (fun _ => 0))))] := hD
      refine vx_catch (name := nq_NSE) hown [] (⟨0, 12, 15, 19⟩ : ExceptionTableEntry) [(⟨0, 12, 19, 13⟩ : ExceptionTableEntry)] htb (fun z hz => absurd hz (by simp)) (by decide) (by decide) (hts (.classLink RL 19 nq_NSE) (by decide +kernel)) (hXs.2.2.2.1.use) h1 h2 h3 ?_
      refine lv_astore (lv' := [(5, .ref q9), (0, .ref h0), (1, .int a), (2, .int n), (3, .int i), (4, .ref ou)]) hx hb dL_years_15 hl (by decide) rfl (fun ls hl => ?_)
      refine lv_iconst (v := 1) hx hb dL_years_17 (by decide) ?_
      have hP9 := hP.sub (ws' := [(ou, .inl (y 1, 1, .inr (.inl (fun _ => 0))))]) [0] rfl
      have hD9 := hD.sub (ws' := [(ou, .inl (y 1, 1, .inr (.inl (fun _ => 0))))]) [0] (by decide) rfl
      refine W.widen (k := 1) (n := 6) (Nat.le_of_ble_eq_true rfl) (Nat.le_of_ble_eq_true rfl) ?_
      exact W.iret (v := 1) hx hb hr (fun t ht hW => ⟨⟨1, (fun _ => 0), rfl, ⟨hc.symm, fun h => absurd h (by decide)⟩, by rw [ht]; exact hP9, by first | exact hD9 | (rw [hAe]; exact hD9)⟩, hS.F ht⟩) hS.2.2 dL_years_18
    · have hP : va_P G vwCl [(ou, .inl (y 1, 1, .inr (.inl (fun _ => 0))))] H := hP
      have hD : va_D A [(ou, .inl (y 1, 1, .inr (.inl (fun _ => 0))))] := hD
      refine vx_catch (name := nq_IAE) hown [(⟨0, 12, 15, 19⟩ : ExceptionTableEntry)] (⟨0, 12, 19, 13⟩ : ExceptionTableEntry) [] htb (fun z hz => by rw [List.mem_singleton.mp hz]; exact Or.inr ⟨by decide, nq_NSE, hts (.classLink RL 19 nq_NSE) (by decide +kernel), hXs.2.2.2.2.2.1⟩) (by decide) (by decide) (hts (.classLink RL 13 nq_IAE) (by decide +kernel)) (hXs.2.2.2.2.1.use) h1 h2 h3 ?_
      refine lv_astore (lv' := [(5, .ref q9), (0, .ref h0), (1, .int a), (2, .int n), (3, .int i), (4, .ref ou)]) hx hb dL_years_19 hl (by decide) rfl (fun ls hl => ?_)
      refine lv_iconst (v := 2) hx hb dL_years_21 (by decide) ?_
      have hP9 := hP.sub (ws' := [(ou, .inl (y 1, 1, .inr (.inl (fun _ => 0))))]) [0] rfl
      have hD9 := hD.sub (ws' := [(ou, .inl (y 1, 1, .inr (.inl (fun _ => 0))))]) [0] (by decide) rfl
      refine W.widen (k := 1) (n := 6) (Nat.le_of_ble_eq_true rfl) (Nat.le_of_ble_eq_true rfl) ?_
      exact W.iret (v := 2) hx hb hr (fun t ht hW => ⟨⟨2, (fun _ => 0), rfl, ⟨hc.symm, fun h => absurd h (by decide)⟩, by rw [ht]; exact hP9, by first | exact hD9 | (rw [hAe]; exact hD9)⟩, hS.F ht⟩) hS.2.2 dL_years_22
  · have hP : va_P G vwCl [(ou, .inl (y 1, 1, .inr (.inl (fun _ => 0))))] H := hP
    have hD : va_D A [(ou, .inl (y 1, 1, .inr (.inl (fun _ => 0))))] := hD
    refine lv_i2l (v := r.toInt64) hx hb dL_years_10 rfl ?_
    refine va_last hx hb hK.1 hP hD hS 0 1 rfl rfl (i := 0) (nq_in (by decide)) dL_years_11 (fun H locs hP hD hS => ?_)
    have hP : va_P G vwCl [(ou, .inl (y 1, 1, .inr (.inl (vp_updL (fun _ => 0) 0 r.toInt64))))] H := hP
    have hD : va_D A [(ou, .inl (y 1, 1, .inr (.inl (vp_updL (fun _ => 0) 0 r.toInt64))))] := hD
    refine lv_goto (tgt := 23) hx hb dL_years_12 (by decide) ?_
    refine lv_iconst (v := 0) hx hb dL_years_23 (by decide) ?_
    have hP9 := hP.sub (ws' := [(ou, .inl (y 1, 1, .inr (.inl (vp_updL (fun _ => 0) 0 r.toInt64))))]) [0] rfl
    have hD9 := hD.sub (ws' := [(ou, .inl (y 1, 1, .inr (.inl (vp_updL (fun _ => 0) 0 r.toInt64))))]) [0] (by decide) rfl
    refine W.widen (k := 1) (n := 6) (Nat.le_of_ble_eq_true rfl) (Nat.le_of_ble_eq_true rfl) ?_
    exact W.iret (v := 0) hx hb hr (fun t ht hW => ⟨⟨0, (vp_updL (fun _ => 0) 0 r.toInt64), rfl, ⟨hw.1.symm, fun _ => by rw [pk_uLs, hw.2]⟩, by rw [ht]; exact hP9, by first | exact hD9 | (rw [hAe]; exact hD9)⟩, hS.F ht⟩) hS.2.2 dL_years_24

set_option maxHeartbeats 400000 in
set_option maxRecDepth 100000 in
theorem m_thrown (l : Launch) (G : va_G) (y : Nat → ClassId) (sz : Nat) (h0 : Nat) (u : Int32 × List Value) (hk : u.2[0]? = some (.int u.1)) : Met l yX11_thrown wsX11_thrown ({ frames := 0, cells := 0, slots := 0, locals := 0 }) (nq_P G y sz [.ref h0] [(h0, .inr (11, u.2))]) (va_Qi (fun (r : Int32) (_ : Unit) => r = u.1) (fun _ _ => True) (va_A [] sz)) 0 0 (va_A [] sz) := by
  refine Met.ofW (cc := cX11_thrown) (maxL := 1) (ret := (some .int)) (by decide) rfl ?_
  intro p e s m args below meth c s₁ B hml hv
  obtain ⟨rfl, hsz, hP, hK, hD0⟩ := hv
  have hx := B.exec
  have hb := B.bytes
  have hr := B.returns
  have hts := atoms_spec (ws := wsX11_thrown) B.pre
  have hown : s.vm.findClass RX11 = some m.cls := findClass_of_methodNamed B.named
  have hlocks := B.notSynchronized
  subst hsz
  have hS : va_S (va_A [] s.heap.size) s.heap s.heap [] := va_S.rf
  have inX11 : ∀ w ∈ wsX110, w ∈ wsX11_thrown := by decide +kernel
  have hl := lv_entry ([.ref h0]) (n := 1) (Nat.le_of_ble_eq_true rfl)
  rw [lg_entry_eq]
  generalize (lg_sl ([.ref h0]) ++ List.replicate (1 - (lg_sl ([.ref h0])).length) Slot.unset).toArray = ls at hl ⊢
  have hl : lv_has ls 1 [(0, .ref h0)] := hl
  refine lv_aload_n hx hb dX11_thrown_0 rfl (lv_at hl 0 rfl) ?_
  refine va_get (D := G) (ci := 11) (v := .int u.1) (C := RX11) (T := TX11) (N := 66) hx hb hts inX11 hown hK.1 hP 0 rfl rfl 0 (by decide) (hts (.fieldLink RX11 111 "NestQueryModel" "code" "I") (by decide +kernel)) (fun _ h9 => h9) hk dX11_thrown_1 ?_
  exact W.iret (v := u.1) hx hb hr (fun t ht hW => ⟨⟨u.1, (), rfl, rfl, trivial⟩, hS.F ht⟩) hS.2.2 dX11_thrown_4
