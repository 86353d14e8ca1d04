set_option maxHeartbeats 400000 in
set_option maxRecDepth 100000 in
theorem lc_7 {p : Program} {e : Env} {s : State} {m : MethodId} {below : List Frame} {meth : Method} {c : Code} {l : Launch} {b : Nat} {xs : Nat → Int32} {G : va_G} {y : Nat → ClassId} {A : Nat → Prop} (hl0 : l.stackTraces = false) (C0 : lw_At p s m meth c b 6 xs) (hAe : A = fun q : Nat => s.heap.size ≤ q) (hK : nq_K G y s) (hXs : nq_X A s) (x0 : Nat) (tp : Nat) (ps : Nat) (sp : Nat) (tk : Nat) (dr : Nat) (pr : Nat) (da : Nat) (nw : Nat) (im : Nat) (ac : Nat) (ke : Nat) (si : Nat) (tx : Nat) (an : Nat) (dw : Nat) (nwt : Nat) (nwb : Nat) (nwn : Nat) (nwi : Nat) (nwr : Nat) (nwtk : Nat) (nwtv : Nat) (nwte : Nat) (nwtd : Nat) (txb : Nat) (m0 : Nat) (m_tree : Nat) (m_data : Nat) (m_made : Nat) (m_status : Nat) (m_tape : Nat) (m_paths : Nat) (m_pathSize : Nat) (m_set : Nat) (m_to : Nat) (m_lifted : Nat) (m_order : Nat) (m_past : Nat) (m_rowKind : Nat) (m_rowSteps : Nat) (m_rowPath : Nat) (m_rowWas : Nat) (m_rowIs : Nat) (m_pool : Nat) (m_rowsMany : Nat) (m_poolMany : Nat) (m_way : Nat) (m_out : Nat) (m_notedThing : Nat) (m_notedIs : Nat) (m_votes : Nat) (m_treeThen : Nat) (m_imageTree : Nat) (m_pastThen : Nat) (m_notedThingThen : Nat) (m_notedIsThen : Nat) (m_statusThen : Nat) (ou : Nat) (H : Heap) (locs : List Loc) (ls : Array Slot) (hP : va_P G vwCl [(x0, .inr (10, [.ref tp, .int 0, .int (-1), .ref ps, .ref sp, .ref tk, .ref dr, .ref pr, .ref da, .ref nw, .ref im, .int 0, .ref ac, .ref ke, .ref si, .ref tx, .ref an, .ref dw])), (nw, .inr (6, [.ref nwt, .ref nwb, .int 0, .ref nwn, .ref nwi, .int 0, .ref nwr])), (nwt, .inr (9, [.ref nwtk, .ref nwtv, .ref nwte, .ref nwtd, .int 1])), (nwtk, .inl (y 0, 60, .inl (upd (fun _ => 0) 0 3))), (nwtd, .inl (y 0, 60, .inl (upd (fun _ => 0) 0 0))), (tx, .inr (7, [.ref txb, .int 0])), (txb, .inl (y 0, 1024, .inl (fun _ => 0))), (m0, .inr (11, [.int 0, .ref m_tree, .ref m_data, .ref m_made, .ref m_status, .int 0, .ref m_tape, .ref m_paths, .ref m_pathSize, .null, .int 0, .int 0, .int 0, .int 0, .int 0, .int 0, .int 0, .int 0, .int 0, .int 0, .int 0, .int (-1), .int 0, .ref m_set, .ref m_to, .int 0, .int 0, .int 0, .int 0, .int 0, .int 0, .ref m_lifted, .int 0, .int 0, .int 0, .ref m_order, .int 0, .ref m_past, .int 0, .ref m_rowKind, .ref m_rowSteps, .ref m_rowPath, .ref m_rowWas, .ref m_rowIs, .ref m_pool, .ref m_rowsMany, .ref m_poolMany, .ref m_way, .int 0, .ref m_out, .int 0, .int 0, .ref m_notedThing, .ref m_notedIs, .ref m_votes, .int 0, .int 0, .ref m_treeThen, .int 0, .int 0, .int 0, .ref m_imageTree, .ref m_pastThen, .ref m_notedThingThen, .ref m_notedIsThen, .ref m_statusThen])), (m_tree, .inl (y 0, 240, .inl (upd (upd (fun _ => 0) 0 3) 3 1))), (m_out, .inl (y 0, 2000, .inl (fun _ => 0))), (ou, .inl (y 1, 1, .inr (.inl (fun _ => 0))))] H) (hD : va_D A [(x0, .inr (10, [.ref tp, .int 0, .int (-1), .ref ps, .ref sp, .ref tk, .ref dr, .ref pr, .ref da, .ref nw, .ref im, .int 0, .ref ac, .ref ke, .ref si, .ref tx, .ref an, .ref dw])), (nw, .inr (6, [.ref nwt, .ref nwb, .int 0, .ref nwn, .ref nwi, .int 0, .ref nwr])), (nwt, .inr (9, [.ref nwtk, .ref nwtv, .ref nwte, .ref nwtd, .int 1])), (nwtk, .inl (y 0, 60, .inl (upd (fun _ => 0) 0 3))), (nwtd, .inl (y 0, 60, .inl (upd (fun _ => 0) 0 0))), (tx, .inr (7, [.ref txb, .int 0])), (txb, .inl (y 0, 1024, .inl (fun _ => 0))), (m0, .inr (11, [.int 0, .ref m_tree, .ref m_data, .ref m_made, .ref m_status, .int 0, .ref m_tape, .ref m_paths, .ref m_pathSize, .null, .int 0, .int 0, .int 0, .int 0, .int 0, .int 0, .int 0, .int 0, .int 0, .int 0, .int 0, .int (-1), .int 0, .ref m_set, .ref m_to, .int 0, .int 0, .int 0, .int 0, .int 0, .int 0, .ref m_lifted, .int 0, .int 0, .int 0, .ref m_order, .int 0, .ref m_past, .int 0, .ref m_rowKind, .ref m_rowSteps, .ref m_rowPath, .ref m_rowWas, .ref m_rowIs, .ref m_pool, .ref m_rowsMany, .ref m_poolMany, .ref m_way, .int 0, .ref m_out, .int 0, .int 0, .ref m_notedThing, .ref m_notedIs, .ref m_votes, .int 0, .int 0, .ref m_treeThen, .int 0, .int 0, .int 0, .ref m_imageTree, .ref m_pastThen, .ref m_notedThingThen, .ref m_notedIsThen, .ref m_statusThen])), (m_tree, .inl (y 0, 240, .inl (upd (upd (fun _ => 0) 0 3) 3 1))), (m_out, .inl (y 0, 2000, .inl (fun _ => 0))), (ou, .inl (y 1, 1, .inr (.inl (fun _ => 0))))]) (hS : va_S A s.heap H locs) (hl : lv_has ls 7 [(4, .int 0), (3, .ref ou), (2, .ref m0), (1, .ref x0), (0, .ref b)]) : W p l e room_1 s m #[Value.ref b] below meth c H locs 121 52808 (lw_Z below #[Value.ref b] s) (F0 m 570 ls []) := by
  obtain ⟨hx, hb, hr, hml, hown, hts, hX, hbl, hlocks, hgv⟩ := C0
  have hA : ∀ q : Nat, s.heap.size ≤ q → A q := fun q h => by rw [hAe]; exact h
  have hbA : ¬ A b := by rw [hAe]; exact Nat.not_le.mpr hbl
  have hl : lv_has ls 7 [(4, .int 0), (3, .ref ou), (2, .ref m0), (1, .ref x0), (0, .ref b)] := hl
  obtain ⟨a1, ea1⟩ : ∃ z, z = xs 1 := ⟨_, rfl⟩
  obtain ⟨a2, ea2⟩ : ∃ z, z = xs 2 := ⟨_, rfl⟩
  obtain ⟨a3, ea3⟩ : ∃ z, z = xs 3 := ⟨_, rfl⟩
  obtain ⟨a4, ea4⟩ : ∃ z, z = xs 4 := ⟨_, rfl⟩
  obtain ⟨a5, ea5⟩ : ∃ z, z = xs 5 := ⟨_, rfl⟩
  refine lv_aload_n hx hb dL_law_570 rfl (lv_at hl 3 rfl) ?_
  refine lv_aload_n hx hb dL_law_571 rfl (lv_at hl 4 rfl) ?_
  refine lv_iload hx hb dL_law_572 (lv_at hl 0 rfl) ?_
  refine lv_iconst (v := 1) hx hb dL_law_574 (by decide) ?_
  refine lv_iadd hx hb dL_law_575 ?_
  refine nq_top (z := 1) (by decide) ?_
  refine va_sld hx hb hX hbl hbA hS (i := 1) (nq_in (by decide)) dL_law_576 ?_
  refine nq_top (z := a1) (ea1.symm) ?_
  refine lv_aload_n hx hb dL_law_577 rfl (lv_at hl 4 rfl) ?_
  refine lv_iload hx hb dL_law_578 (lv_at hl 0 rfl) ?_
  refine lv_iconst (v := 2) hx hb dL_law_580 (by decide) ?_
  refine lv_iadd hx hb dL_law_581 ?_
  refine nq_top (z := 2) (by decide) ?_
  refine va_sld hx hb hX hbl hbA hS (i := 2) (nq_in (by decide)) dL_law_582 ?_
  refine nq_top (z := a2) (ea2.symm) ?_
  refine lv_if_eq (tgt := 590) hx hb dL_law_583 (by decide) (fun c_1 => ?_) (fun c_1 => ?_)
  · subst c_1
    refine lv_iconst (v := 0) hx hb dL_law_590 (by decide) ?_
    refine lv_aload_n hx hb dL_law_591 rfl (lv_at hl 4 rfl) ?_
    refine lv_iload hx hb dL_law_592 (lv_at hl 0 rfl) ?_
    refine lv_iconst (v := 3) hx hb dL_law_594 (by decide) ?_
    refine lv_iadd hx hb dL_law_595 ?_
    refine nq_top (z := 3) (by decide) ?_
    refine va_sld hx hb hX hbl hbA hS (i := 3) (nq_in (by decide)) dL_law_596 ?_
    refine nq_top (z := a3) (ea3.symm) ?_
    refine lv_aload_n hx hb dL_law_597 rfl (lv_at hl 1 rfl) ?_
    refine nq_wri (wr := [(m0, .inr (11, [.int 0, .ref m_tree, .ref m_data, .ref m_made, .ref m_status, .int 0, .ref m_tape, .ref m_paths, .ref m_pathSize, .null, .int 0, .int 0, .int 0, .int 0, .int 0, .int 0, .int 0, .int 0, .int 0, .int 0, .int 0, .int (-1), .int 0, .ref m_set, .ref m_to, .int 0, .int 0, .int 0, .int 0, .int 0, .int 0, .ref m_lifted, .int 0, .int 0, .int 0, .ref m_order, .int 0, .ref m_past, .int 0, .ref m_rowKind, .ref m_rowSteps, .ref m_rowPath, .ref m_rowWas, .ref m_rowIs, .ref m_pool, .ref m_rowsMany, .ref m_poolMany, .ref m_way, .int 0, .ref m_out, .int 0, .int 0, .ref m_notedThing, .ref m_notedIs, .ref m_votes, .int 0, .int 0, .ref m_treeThen, .int 0, .int 0, .int 0, .ref m_imageTree, .ref m_pastThen, .ref m_notedThingThen, .ref m_notedIsThen, .ref m_statusThen])), (m_tree, .inl (y 0, 240, .inl (upd (upd (fun _ => 0) 0 3) 3 1))), (m_out, .inl (y 0, 2000, .inl (fun _ => 0)))]) (w1 := (fun (g9 : Nat → Int64) => [(ou, .inl (y 1, 1, .inr (.inl g9)))])) (vx_runSW (hh := [(0, 12, 15, 19)]) (As := [.ref x0, .int a1, .int 0, .int a3, .ref ou]) (rest := []) ⟨hx, hb, hml, hown, hts⟩ (w_told l hl0 G y H.size x0 tp ps sp tk dr pr da nw im ac ke si tx an dw nwt nwb nwn nwi nwr nwtk nwtv nwte nwtd txb a1 0 a3 ou) (vx_cwSW 5 hts gv_L_told_98 rfl rfl rfl (by decide +kernel) ⟨Nat.le_of_ble_eq_true rfl, Nat.le_of_ble_eq_true rfl⟩) (nq_PXS hK hP hD hS hA hXs [0, 1, 2, 3, 4, 5, 6, 10] rfl rfl) rfl rfl hl.1 rfl (lv_room (Nat.le_of_ble_eq_true rfl)) dL_law_598 ⟨Nat.le_of_ble_eq_true rfl, Nat.le_of_ble_eq_true rfl⟩) hP hD hS hA [0, 1, 2, 3, 4, 5, 6, 10] [7, 8, 9] rfl rfl (by decide) (by decide) (fun r_2 g_4 H locs hw_3 hP hD hS => ?_)
    have hP : va_P G vwCl [(m0, .inr (11, [.int 0, .ref m_tree, .ref m_data, .ref m_made, .ref m_status, .int 0, .ref m_tape, .ref m_paths, .ref m_pathSize, .null, .int 0, .int 0, .int 0, .int 0, .int 0, .int 0, .int 0, .int 0, .int 0, .int 0, .int 0, .int (-1), .int 0, .ref m_set, .ref m_to, .int 0, .int 0, .int 0, .int 0, .int 0, .int 0, .ref m_lifted, .int 0, .int 0, .int 0, .ref m_order, .int 0, .ref m_past, .int 0, .ref m_rowKind, .ref m_rowSteps, .ref m_rowPath, .ref m_rowWas, .ref m_rowIs, .ref m_pool, .ref m_rowsMany, .ref m_poolMany, .ref m_way, .int 0, .ref m_out, .int 0, .int 0, .ref m_notedThing, .ref m_notedIs, .ref m_votes, .int 0, .int 0, .ref m_treeThen, .int 0, .int 0, .int 0, .ref m_imageTree, .ref m_pastThen, .ref m_notedThingThen, .ref m_notedIsThen, .ref m_statusThen])), (m_tree, .inl (y 0, 240, .inl (upd (upd (fun _ => 0) 0 3) 3 1))), (m_out, .inl (y 0, 2000, .inl (fun _ => 0))), (ou, .inl (y 1, 1, .inr (.inl g_4)))] H := hP
    have hD : va_D A [(m0, .inr (11, [.int 0, .ref m_tree, .ref m_data, .ref m_made, .ref m_status, .int 0, .ref m_tape, .ref m_paths, .ref m_pathSize, .null, .int 0, .int 0, .int 0, .int 0, .int 0, .int 0, .int 0, .int 0, .int 0, .int 0, .int 0, .int (-1), .int 0, .ref m_set, .ref m_to, .int 0, .int 0, .int 0, .int 0, .int 0, .int 0, .ref m_lifted, .int 0, .int 0, .int 0, .ref m_order, .int 0, .ref m_past, .int 0, .ref m_rowKind, .ref m_rowSteps, .ref m_rowPath, .ref m_rowWas, .ref m_rowIs, .ref m_pool, .ref m_rowsMany, .ref m_poolMany, .ref m_way, .int 0, .ref m_out, .int 0, .int 0, .ref m_notedThing, .ref m_notedIs, .ref m_votes, .int 0, .int 0, .ref m_treeThen, .int 0, .int 0, .int 0, .ref m_imageTree, .ref m_pastThen, .ref m_notedThingThen, .ref m_notedIsThen, .ref m_statusThen])), (m_tree, .inl (y 0, 240, .inl (upd (upd (fun _ => 0) 0 3) 3 1))), (m_out, .inl (y 0, 2000, .inl (fun _ => 0))), (ou, .inl (y 1, 1, .inr (.inl g_4)))] := hD
    refine lv_istore (lv' := [(5, .int r_2), (4, .int 0), (3, .ref ou), (2, .ref m0), (1, .ref x0), (0, .ref b)]) hx hb dL_law_601 hl (by decide) rfl (fun ls hl => ?_)
    refine lv_aload_n hx hb dL_law_603 rfl (lv_at hl 3 rfl) ?_
    refine lv_aload_n hx hb dL_law_604 rfl (lv_at hl 5 rfl) ?_
    refine lv_iload hx hb dL_law_605 (lv_at hl 1 rfl) ?_
    refine lv_iconst (v := 1) hx hb dL_law_607 (by decide) ?_
    refine lv_iadd hx hb dL_law_608 ?_
    refine nq_top (z := 1) (by decide) ?_
    refine va_sld hx hb hX hbl hbA hS (i := 1) (nq_in (by decide)) dL_law_609 ?_
    refine nq_top (z := a1) (ea1.symm) ?_
    refine lv_aload_n hx hb dL_law_610 rfl (lv_at hl 5 rfl) ?_
    refine lv_iload hx hb dL_law_611 (lv_at hl 1 rfl) ?_
    refine lv_iconst (v := 2) hx hb dL_law_613 (by decide) ?_
    refine lv_iadd hx hb dL_law_614 ?_
    refine nq_top (z := 2) (by decide) ?_
    refine va_sld hx hb hX hbl hbA hS (i := 2) (nq_in (by decide)) dL_law_615 ?_
    refine nq_top (z := 0) (ea2.symm) ?_
    refine lv_if_eq (tgt := 623) hx hb dL_law_616 (by decide) (fun _ => ?_) (fun c_5 => absurd c_5 (by decide))
    refine lv_iconst (v := 0) hx hb dL_law_623 (by decide) ?_
    refine lv_aload_n hx hb dL_law_624 rfl (lv_at hl 5 rfl) ?_
    refine lv_iload hx hb dL_law_625 (lv_at hl 1 rfl) ?_
    refine lv_iconst (v := 3) hx hb dL_law_627 (by decide) ?_
    refine lv_iadd hx hb dL_law_628 ?_
    refine nq_top (z := 3) (by decide) ?_
    refine va_sld hx hb hX hbl hbA hS (i := 3) (nq_in (by decide)) dL_law_629 ?_
    refine nq_top (z := a3) (ea3.symm) ?_
    refine nq_wri (wr := [(ou, .inl (y 1, 1, .inr (.inl g_4)))]) (va_runV (As := [.int a1, .int 0, .int a3]) (rest := []) ⟨hx, hb, hml, hown, hts⟩ (m_told l G y H.size m0 m_tree m_data m_made m_status m_tape m_paths m_pathSize m_set m_to m_lifted m_order m_past m_rowKind m_rowSteps m_rowPath m_rowWas m_rowIs m_pool m_rowsMany m_poolMany m_way m_out m_notedThing m_notedIs m_votes m_treeThen m_imageTree m_pastThen m_notedThingThen m_notedIsThen m_statusThen a1 0 a3 ) (cwV 3 hts gv_X11_told_101 rfl rfl rfl (by decide +kernel) ⟨Nat.le_of_ble_eq_true rfl, Nat.le_of_ble_eq_true rfl⟩) (nq_PV hK hP hD [0, 1, 2] rfl rfl 0 rfl rfl) rfl rfl hl.1 rfl (lv_room (Nat.le_of_ble_eq_true rfl)) dL_law_630 ⟨Nat.le_of_ble_eq_true rfl, Nat.le_of_ble_eq_true rfl⟩) hP hD hS hA [0, 1, 2] [3] rfl rfl (by decide) (by decide) (fun r_8 u_6 H locs hw_7 hP hD hS => ?_)
    have hP : va_P G vwCl [(ou, .inl (y 1, 1, .inr (.inl g_4))), (m0, .inr (11, u_6.2))] H := hP
    have hD : va_D A [(ou, .inl (y 1, 1, .inr (.inl g_4))), (m0, .inr (11, u_6.2))] := hD
    obtain ⟨hq_9, hq_10, hq_11⟩ := hw_7
    subst hq_11
    refine lv_istore (lv' := [(6, .int ((sp_told a1 0 a3).2)), (5, .int r_2), (4, .int 0), (3, .ref ou), (2, .ref m0), (1, .ref x0), (0, .ref b)]) hx hb dL_law_633 hl (by decide) rfl (fun ls hl => ?_)
    refine lv_aload_n hx hb dL_law_635 rfl (lv_at hl 4 rfl) ?_
    refine nq_rdi (va_runV (As := []) (rest := []) ⟨hx, hb, hml, hown, hts⟩ (m_thrown l G y H.size m0 u_6 hq_9) (cwV 0 hts gv_X11_thrown_77 rfl rfl rfl (by decide +kernel) ⟨Nat.le_of_ble_eq_true rfl, Nat.le_of_ble_eq_true rfl⟩) (nq_PV hK hP hD [1] rfl rfl 1 rfl rfl) rfl rfl hl.1 rfl (lv_room (Nat.le_of_ble_eq_true rfl)) dL_law_636 ⟨Nat.le_of_ble_eq_true rfl, Nat.le_of_ble_eq_true rfl⟩) hP hS hA (fun r_12 H locs hw_13 hP hS => ?_)
    subst hw_13
    refine lv_iload hx hb dL_law_639 (lv_at hl 1 rfl) ?_
    refine lv_icmp_eq (tgt := 646) hx hb dL_law_641 (by decide) (fun _ => ?_) (fun c_14 => absurd (hq_10.trans hw_3.1.symm) c_14)
    refine lv_iload hx hb dL_law_646 (lv_at hl 1 rfl) ?_
    refine lv_if_ne (tgt := 663) hx hb dL_law_648 (by decide) (fun c_15 => ?_) (fun c_15 => ?_)
    · refine lv_goto (tgt := 1593) hx hb dL_law_663 (by decide) ?_
      refine lv_iinc (v := 6) (lv' := [(4, .int 6), (6, .int ((sp_told a1 0 a3).2)), (5, .int r_2), (3, .ref ou), (2, .ref m0), (1, .ref x0), (0, .ref b)]) hx hb dL_law_1593 hl (k := 2) rfl (by decide) (by decide) rfl (fun ls hl => ?_)
      refine lv_goto (tgt := 23) hx hb dL_law_1596 (by decide) ?_
      refine lv_iload hx hb dL_law_23 (lv_at hl 0 rfl) ?_
      refine lv_aload_n hx hb dL_law_25 rfl (lv_at hl 6 rfl) ?_
      refine va_slen hx hb hX hbl hbA hS dL_law_26 ?_
      refine nq_top (z := 6) (by decide) ?_
      refine lv_bipush (v := 6) hx hb dL_law_27 (by decide) ?_
      refine lv_isub hx hb dL_law_29 ?_
      refine nq_top (z := 0) (by decide) ?_
      refine lv_icmp_gt (tgt := 1599) hx hb dL_law_30 (by decide) (fun _ => ?_) (fun c_16 => absurd c_16 (by decide))
      refine lv_iconst (v := 1) hx hb dL_law_1599 (by decide) ?_
      refine va_forget (fun q hq => by have h9 := hS.2.2 q hq; rw [hAe] at h9; exact h9) ?_
      refine W.widen (k := 600002) (n := 7302232) (Nat.le_of_ble_eq_true rfl) (Nat.le_of_ble_eq_true rfl) ?_
      exact lw_ret hx hb hr hlocks dL_law_1600
    · subst c_15
      refine lv_aload_n hx hb dL_law_651 rfl (lv_at hl 3 rfl) ?_
      refine lv_iconst (v := 0) hx hb dL_law_652 (by decide) ?_
      refine va_lald hx hb hK.1 hP 0 1 rfl rfl (i := 0) (nq_in (by decide)) dL_law_653 ?_
      refine nq_topl (z := ((sp_told a1 0 a3).2).toInt64) (hw_3.2 rfl) ?_
      refine lv_iload hx hb dL_law_654 (lv_at hl 0 rfl) ?_
      refine lv_i2l (v := ((sp_told a1 0 a3).2).toInt64) hx hb dL_law_656 rfl ?_
      refine W.lcmp hx hb dL_law_657 ?_
      refine nq_top (z := 0) (nq_cmp _) ?_
      refine lv_if_eq (tgt := 663) hx hb dL_law_658 (by decide) (fun _ => ?_) (fun c_17 => absurd c_17 (by decide))
      refine lv_goto (tgt := 1593) hx hb dL_law_663 (by decide) ?_
      refine lv_iinc (v := 6) (lv' := [(4, .int 6), (6, .int ((sp_told a1 0 a3).2)), (5, .int 0), (3, .ref ou), (2, .ref m0), (1, .ref x0), (0, .ref b)]) hx hb dL_law_1593 hl (k := 2) rfl (by decide) (by decide) rfl (fun ls hl => ?_)
      refine lv_goto (tgt := 23) hx hb dL_law_1596 (by decide) ?_
      refine lv_iload hx hb dL_law_23 (lv_at hl 0 rfl) ?_
      refine lv_aload_n hx hb dL_law_25 rfl (lv_at hl 6 rfl) ?_
      refine va_slen hx hb hX hbl hbA hS dL_law_26 ?_
      refine nq_top (z := 6) (by decide) ?_
      refine lv_bipush (v := 6) hx hb dL_law_27 (by decide) ?_
      refine lv_isub hx hb dL_law_29 ?_
      refine nq_top (z := 0) (by decide) ?_
      refine lv_icmp_gt (tgt := 1599) hx hb dL_law_30 (by decide) (fun _ => ?_) (fun c_18 => absurd c_18 (by decide))
      refine lv_iconst (v := 1) hx hb dL_law_1599 (by decide) ?_
      refine va_forget (fun q hq => by have h9 := hS.2.2 q hq; rw [hAe] at h9; exact h9) ?_
      refine W.widen (k := 600002) (n := 7302232) (Nat.le_of_ble_eq_true rfl) (Nat.le_of_ble_eq_true rfl) ?_
      exact lw_ret hx hb hr hlocks dL_law_1600
  · refine lv_iconst (v := 1) hx hb dL_law_586 (by decide) ?_
    refine lv_goto (tgt := 591) hx hb dL_law_587 (by decide) ?_
    refine lv_aload_n hx hb dL_law_591 rfl (lv_at hl 4 rfl) ?_
    refine lv_iload hx hb dL_law_592 (lv_at hl 0 rfl) ?_
    refine lv_iconst (v := 3) hx hb dL_law_594 (by decide) ?_
    refine lv_iadd hx hb dL_law_595 ?_
    refine nq_top (z := 3) (by decide) ?_
    refine va_sld hx hb hX hbl hbA hS (i := 3) (nq_in (by decide)) dL_law_596 ?_
    refine nq_top (z := a3) (ea3.symm) ?_
    refine lv_aload_n hx hb dL_law_597 rfl (lv_at hl 1 rfl) ?_
    refine nq_wri (wr := [(m0, .inr (11, [.int 0, .ref m_tree, .ref m_data, .ref m_made, .ref m_status, .int 0, .ref m_tape, .ref m_paths, .ref m_pathSize, .null, .int 0, .int 0, .int 0, .int 0, .int 0, .int 0, .int 0, .int 0, .int 0, .int 0, .int 0, .int (-1), .int 0, .ref m_set, .ref m_to, .int 0, .int 0, .int 0, .int 0, .int 0, .int 0, .ref m_lifted, .int 0, .int 0, .int 0, .ref m_order, .int 0, .ref m_past, .int 0, .ref m_rowKind, .ref m_rowSteps, .ref m_rowPath, .ref m_rowWas, .ref m_rowIs, .ref m_pool, .ref m_rowsMany, .ref m_poolMany, .ref m_way, .int 0, .ref m_out, .int 0, .int 0, .ref m_notedThing, .ref m_notedIs, .ref m_votes, .int 0, .int 0, .ref m_treeThen, .int 0, .int 0, .int 0, .ref m_imageTree, .ref m_pastThen, .ref m_notedThingThen, .ref m_notedIsThen, .ref m_statusThen])), (m_tree, .inl (y 0, 240, .inl (upd (upd (fun _ => 0) 0 3) 3 1))), (m_out, .inl (y 0, 2000, .inl (fun _ => 0)))]) (w1 := (fun (g9 : Nat → Int64) => [(ou, .inl (y 1, 1, .inr (.inl g9)))])) (vx_runSW (hh := [(0, 12, 15, 19)]) (As := [.ref x0, .int a1, .int 1, .int a3, .ref ou]) (rest := []) ⟨hx, hb, hml, hown, hts⟩ (w_told l hl0 G y H.size x0 tp ps sp tk dr pr da nw im ac ke si tx an dw nwt nwb nwn nwi nwr nwtk nwtv nwte nwtd txb a1 1 a3 ou) (vx_cwSW 5 hts gv_L_told_98 rfl rfl rfl (by decide +kernel) ⟨Nat.le_of_ble_eq_true rfl, Nat.le_of_ble_eq_true rfl⟩) (nq_PXS hK hP hD hS hA hXs [0, 1, 2, 3, 4, 5, 6, 10] rfl rfl) rfl rfl hl.1 rfl (lv_room (Nat.le_of_ble_eq_true rfl)) dL_law_598 ⟨Nat.le_of_ble_eq_true rfl, Nat.le_of_ble_eq_true rfl⟩) hP hD hS hA [0, 1, 2, 3, 4, 5, 6, 10] [7, 8, 9] rfl rfl (by decide) (by decide) (fun r_19 g_21 H locs hw_20 hP hD hS => ?_)
    have hP : va_P G vwCl [(m0, .inr (11, [.int 0, .ref m_tree, .ref m_data, .ref m_made, .ref m_status, .int 0, .ref m_tape, .ref m_paths, .ref m_pathSize, .null, .int 0, .int 0, .int 0, .int 0, .int 0, .int 0, .int 0, .int 0, .int 0, .int 0, .int 0, .int (-1), .int 0, .ref m_set, .ref m_to, .int 0, .int 0, .int 0, .int 0, .int 0, .int 0, .ref m_lifted, .int 0, .int 0, .int 0, .ref m_order, .int 0, .ref m_past, .int 0, .ref m_rowKind, .ref m_rowSteps, .ref m_rowPath, .ref m_rowWas, .ref m_rowIs, .ref m_pool, .ref m_rowsMany, .ref m_poolMany, .ref m_way, .int 0, .ref m_out, .int 0, .int 0, .ref m_notedThing, .ref m_notedIs, .ref m_votes, .int 0, .int 0, .ref m_treeThen, .int 0, .int 0, .int 0, .ref m_imageTree, .ref m_pastThen, .ref m_notedThingThen, .ref m_notedIsThen, .ref m_statusThen])), (m_tree, .inl (y 0, 240, .inl (upd (upd (fun _ => 0) 0 3) 3 1))), (m_out, .inl (y 0, 2000, .inl (fun _ => 0))), (ou, .inl (y 1, 1, .inr (.inl g_21)))] H := hP
    have hD : va_D A [(m0, .inr (11, [.int 0, .ref m_tree, .ref m_data, .ref m_made, .ref m_status, .int 0, .ref m_tape, .ref m_paths, .ref m_pathSize, .null, .int 0, .int 0, .int 0, .int 0, .int 0, .int 0, .int 0, .int 0, .int 0, .int 0, .int 0, .int (-1), .int 0, .ref m_set, .ref m_to, .int 0, .int 0, .int 0, .int 0, .int 0, .int 0, .ref m_lifted, .int 0, .int 0, .int 0, .ref m_order, .int 0, .ref m_past, .int 0, .ref m_rowKind, .ref m_rowSteps, .ref m_rowPath, .ref m_rowWas, .ref m_rowIs, .ref m_pool, .ref m_rowsMany, .ref m_poolMany, .ref m_way, .int 0, .ref m_out, .int 0, .int 0, .ref m_notedThing, .ref m_notedIs, .ref m_votes, .int 0, .int 0, .ref m_treeThen, .int 0, .int 0, .int 0, .ref m_imageTree, .ref m_pastThen, .ref m_notedThingThen, .ref m_notedIsThen, .ref m_statusThen])), (m_tree, .inl (y 0, 240, .inl (upd (upd (fun _ => 0) 0 3) 3 1))), (m_out, .inl (y 0, 2000, .inl (fun _ => 0))), (ou, .inl (y 1, 1, .inr (.inl g_21)))] := hD
    refine lv_istore (lv' := [(5, .int r_19), (4, .int 0), (3, .ref ou), (2, .ref m0), (1, .ref x0), (0, .ref b)]) hx hb dL_law_601 hl (by decide) rfl (fun ls hl => ?_)
    refine lv_aload_n hx hb dL_law_603 rfl (lv_at hl 3 rfl) ?_
    refine lv_aload_n hx hb dL_law_604 rfl (lv_at hl 5 rfl) ?_
    refine lv_iload hx hb dL_law_605 (lv_at hl 1 rfl) ?_
    refine lv_iconst (v := 1) hx hb dL_law_607 (by decide) ?_
    refine lv_iadd hx hb dL_law_608 ?_
    refine nq_top (z := 1) (by decide) ?_
    refine va_sld hx hb hX hbl hbA hS (i := 1) (nq_in (by decide)) dL_law_609 ?_
    refine nq_top (z := a1) (ea1.symm) ?_
    refine lv_aload_n hx hb dL_law_610 rfl (lv_at hl 5 rfl) ?_
    refine lv_iload hx hb dL_law_611 (lv_at hl 1 rfl) ?_
    refine lv_iconst (v := 2) hx hb dL_law_613 (by decide) ?_
    refine lv_iadd hx hb dL_law_614 ?_
    refine nq_top (z := 2) (by decide) ?_
    refine va_sld hx hb hX hbl hbA hS (i := 2) (nq_in (by decide)) dL_law_615 ?_
    refine nq_top (z := a2) (ea2.symm) ?_
    refine lv_if_eq (tgt := 623) hx hb dL_law_616 (by decide) (fun c_22 => absurd c_22 (c_1)) (fun _ => ?_)
    refine lv_iconst (v := 1) hx hb dL_law_619 (by decide) ?_
    refine lv_goto (tgt := 624) hx hb dL_law_620 (by decide) ?_
    refine lv_aload_n hx hb dL_law_624 rfl (lv_at hl 5 rfl) ?_
    refine lv_iload hx hb dL_law_625 (lv_at hl 1 rfl) ?_
    refine lv_iconst (v := 3) hx hb dL_law_627 (by decide) ?_
    refine lv_iadd hx hb dL_law_628 ?_
    refine nq_top (z := 3) (by decide) ?_
    refine va_sld hx hb hX hbl hbA hS (i := 3) (nq_in (by decide)) dL_law_629 ?_
    refine nq_top (z := a3) (ea3.symm) ?_
    refine nq_wri (wr := [(ou, .inl (y 1, 1, .inr (.inl g_21)))]) (va_runV (As := [.int a1, .int 1, .int a3]) (rest := []) ⟨hx, hb, hml, hown, hts⟩ (m_told l G y H.size m0 m_tree m_data m_made m_status m_tape m_paths m_pathSize m_set m_to m_lifted m_order m_past m_rowKind m_rowSteps m_rowPath m_rowWas m_rowIs m_pool m_rowsMany m_poolMany m_way m_out m_notedThing m_notedIs m_votes m_treeThen m_imageTree m_pastThen m_notedThingThen m_notedIsThen m_statusThen a1 1 a3 ) (cwV 3 hts gv_X11_told_101 rfl rfl rfl (by decide +kernel) ⟨Nat.le_of_ble_eq_true rfl, Nat.le_of_ble_eq_true rfl⟩) (nq_PV hK hP hD [0, 1, 2] rfl rfl 0 rfl rfl) rfl rfl hl.1 rfl (lv_room (Nat.le_of_ble_eq_true rfl)) dL_law_630 ⟨Nat.le_of_ble_eq_true rfl, Nat.le_of_ble_eq_true rfl⟩) hP hD hS hA [0, 1, 2] [3] rfl rfl (by decide) (by decide) (fun r_25 u_23 H locs hw_24 hP hD hS => ?_)
    have hP : va_P G vwCl [(ou, .inl (y 1, 1, .inr (.inl g_21))), (m0, .inr (11, u_23.2))] H := hP
    have hD : va_D A [(ou, .inl (y 1, 1, .inr (.inl g_21))), (m0, .inr (11, u_23.2))] := hD
    obtain ⟨hq_26, hq_27, hq_28⟩ := hw_24
    subst hq_28
    refine lv_istore (lv' := [(6, .int ((sp_told a1 1 a3).2)), (5, .int r_19), (4, .int 0), (3, .ref ou), (2, .ref m0), (1, .ref x0), (0, .ref b)]) hx hb dL_law_633 hl (by decide) rfl (fun ls hl => ?_)
    refine lv_aload_n hx hb dL_law_635 rfl (lv_at hl 4 rfl) ?_
    refine nq_rdi (va_runV (As := []) (rest := []) ⟨hx, hb, hml, hown, hts⟩ (m_thrown l G y H.size m0 u_23 hq_26) (cwV 0 hts gv_X11_thrown_77 rfl rfl rfl (by decide +kernel) ⟨Nat.le_of_ble_eq_true rfl, Nat.le_of_ble_eq_true rfl⟩) (nq_PV hK hP hD [1] rfl rfl 1 rfl rfl) rfl rfl hl.1 rfl (lv_room (Nat.le_of_ble_eq_true rfl)) dL_law_636 ⟨Nat.le_of_ble_eq_true rfl, Nat.le_of_ble_eq_true rfl⟩) hP hS hA (fun r_29 H locs hw_30 hP hS => ?_)
    subst hw_30
    refine lv_iload hx hb dL_law_639 (lv_at hl 1 rfl) ?_
    refine lv_icmp_eq (tgt := 646) hx hb dL_law_641 (by decide) (fun _ => ?_) (fun c_31 => absurd (hq_27.trans hw_20.1.symm) c_31)
    refine lv_iload hx hb dL_law_646 (lv_at hl 1 rfl) ?_
    refine lv_if_ne (tgt := 663) hx hb dL_law_648 (by decide) (fun c_32 => ?_) (fun c_32 => ?_)
    · refine lv_goto (tgt := 1593) hx hb dL_law_663 (by decide) ?_
      refine lv_iinc (v := 6) (lv' := [(4, .int 6), (6, .int ((sp_told a1 1 a3).2)), (5, .int r_19), (3, .ref ou), (2, .ref m0), (1, .ref x0), (0, .ref b)]) hx hb dL_law_1593 hl (k := 2) rfl (by decide) (by decide) rfl (fun ls hl => ?_)
      refine lv_goto (tgt := 23) hx hb dL_law_1596 (by decide) ?_
      refine lv_iload hx hb dL_law_23 (lv_at hl 0 rfl) ?_
      refine lv_aload_n hx hb dL_law_25 rfl (lv_at hl 6 rfl) ?_
      refine va_slen hx hb hX hbl hbA hS dL_law_26 ?_
      refine nq_top (z := 6) (by decide) ?_
      refine lv_bipush (v := 6) hx hb dL_law_27 (by decide) ?_
      refine lv_isub hx hb dL_law_29 ?_
      refine nq_top (z := 0) (by decide) ?_
      refine lv_icmp_gt (tgt := 1599) hx hb dL_law_30 (by decide) (fun _ => ?_) (fun c_33 => absurd c_33 (by decide))
      refine lv_iconst (v := 1) hx hb dL_law_1599 (by decide) ?_
      refine va_forget (fun q hq => by have h9 := hS.2.2 q hq; rw [hAe] at h9; exact h9) ?_
      refine W.widen (k := 600002) (n := 7302232) (Nat.le_of_ble_eq_true rfl) (Nat.le_of_ble_eq_true rfl) ?_
      exact lw_ret hx hb hr hlocks dL_law_1600
    · subst c_32
      refine lv_aload_n hx hb dL_law_651 rfl (lv_at hl 3 rfl) ?_
      refine lv_iconst (v := 0) hx hb dL_law_652 (by decide) ?_
      refine va_lald hx hb hK.1 hP 0 1 rfl rfl (i := 0) (nq_in (by decide)) dL_law_653 ?_
      refine nq_topl (z := ((sp_told a1 1 a3).2).toInt64) (hw_20.2 rfl) ?_
      refine lv_iload hx hb dL_law_654 (lv_at hl 0 rfl) ?_
      refine lv_i2l (v := ((sp_told a1 1 a3).2).toInt64) hx hb dL_law_656 rfl ?_
      refine W.lcmp hx hb dL_law_657 ?_
      refine nq_top (z := 0) (nq_cmp _) ?_
      refine lv_if_eq (tgt := 663) hx hb dL_law_658 (by decide) (fun _ => ?_) (fun c_34 => absurd c_34 (by decide))
      refine lv_goto (tgt := 1593) hx hb dL_law_663 (by decide) ?_
      refine lv_iinc (v := 6) (lv' := [(4, .int 6), (6, .int ((sp_told a1 1 a3).2)), (5, .int 0), (3, .ref ou), (2, .ref m0), (1, .ref x0), (0, .ref b)]) hx hb dL_law_1593 hl (k := 2) rfl (by decide) (by decide) rfl (fun ls hl => ?_)
      refine lv_goto (tgt := 23) hx hb dL_law_1596 (by decide) ?_
      refine lv_iload hx hb dL_law_23 (lv_at hl 0 rfl) ?_
      refine lv_aload_n hx hb dL_law_25 rfl (lv_at hl 6 rfl) ?_
      refine va_slen hx hb hX hbl hbA hS dL_law_26 ?_
      refine nq_top (z := 6) (by decide) ?_
      refine lv_bipush (v := 6) hx hb dL_law_27 (by decide) ?_
      refine lv_isub hx hb dL_law_29 ?_
      refine nq_top (z := 0) (by decide) ?_
      refine lv_icmp_gt (tgt := 1599) hx hb dL_law_30 (by decide) (fun _ => ?_) (fun c_35 => absurd c_35 (by decide))
      refine lv_iconst (v := 1) hx hb dL_law_1599 (by decide) ?_
      refine va_forget (fun q hq => by have h9 := hS.2.2 q hq; rw [hAe] at h9; exact h9) ?_
      refine W.widen (k := 600002) (n := 7302232) (Nat.le_of_ble_eq_true rfl) (Nat.le_of_ble_eq_true rfl) ?_
      exact lw_ret hx hb hr hlocks dL_law_1600

set_option maxHeartbeats 400000 in
set_option maxRecDepth 100000 in
theorem lc_8 {p : Program} {e : Env} {s : State} {m : MethodId} {below : List Frame} {meth : Method} {c : Code} {l : Launch} {b : Nat} {xs : Nat → Int32} {G : va_G} {y : Nat → ClassId} {A : Nat → Prop} (hl0 : l.stackTraces = false) (C0 : lw_At p s m meth c b 6 xs) (hAe : A = fun q : Nat => s.heap.size ≤ q) (hK : nq_K G y s) (hXs : nq_X A s) (x0 : Nat) (tp : Nat) (ps : Nat) (sp : Nat) (tk : Nat) (dr : Nat) (pr : Nat) (da : Nat) (nw : Nat) (im : Nat) (ac : Nat) (ke : Nat) (si : Nat) (tx : Nat) (an : Nat) (dw : Nat) (nwt : Nat) (nwb : Nat) (nwn : Nat) (nwi : Nat) (nwr : Nat) (nwtk : Nat) (nwtv : Nat) (nwte : Nat) (nwtd : Nat) (m0 : Nat) (m_tree : Nat) (m_data : Nat) (m_made : Nat) (m_status : Nat) (m_tape : Nat) (m_paths : Nat) (m_pathSize : Nat) (m_set : Nat) (m_to : Nat) (m_lifted : Nat) (m_order : Nat) (m_past : Nat) (m_rowKind : Nat) (m_rowSteps : Nat) (m_rowPath : Nat) (m_rowWas : Nat) (m_rowIs : Nat) (m_pool : Nat) (m_rowsMany : Nat) (m_poolMany : Nat) (m_way : Nat) (m_out : Nat) (m_notedThing : Nat) (m_notedIs : Nat) (m_votes : Nat) (m_treeThen : Nat) (m_imageTree : Nat) (m_pastThen : Nat) (m_notedThingThen : Nat) (m_notedIsThen : Nat) (m_statusThen : Nat) (ou : Nat) (H : Heap) (locs : List Loc) (ls : Array Slot) (hP : va_P G vwCl [(x0, .inr (10, [.ref tp, .int 0, .int (-1), .ref ps, .ref sp, .ref tk, .ref dr, .ref pr, .ref da, .ref nw, .ref im, .int 0, .ref ac, .ref ke, .ref si, .ref tx, .ref an, .ref dw])), (nw, .inr (6, [.ref nwt, .ref nwb, .int 0, .ref nwn, .ref nwi, .int 0, .ref nwr])), (nwt, .inr (9, [.ref nwtk, .ref nwtv, .ref nwte, .ref nwtd, .int 1])), (nwtk, .inl (y 0, 60, .inl (upd (fun _ => 0) 0 3))), (m0, .inr (11, [.int 0, .ref m_tree, .ref m_data, .ref m_made, .ref m_status, .int 0, .ref m_tape, .ref m_paths, .ref m_pathSize, .null, .int 0, .int 0, .int 0, .int 0, .int 0, .int 0, .int 0, .int 0, .int 0, .int 0, .int 0, .int (-1), .int 0, .ref m_set, .ref m_to, .int 0, .int 0, .int 0, .int 0, .int 0, .int 0, .ref m_lifted, .int 0, .int 0, .int 0, .ref m_order, .int 0, .ref m_past, .int 0, .ref m_rowKind, .ref m_rowSteps, .ref m_rowPath, .ref m_rowWas, .ref m_rowIs, .ref m_pool, .ref m_rowsMany, .ref m_poolMany, .ref m_way, .int 0, .ref m_out, .int 0, .int 0, .ref m_notedThing, .ref m_notedIs, .ref m_votes, .int 0, .int 0, .ref m_treeThen, .int 0, .int 0, .int 0, .ref m_imageTree, .ref m_pastThen, .ref m_notedThingThen, .ref m_notedIsThen, .ref m_statusThen])), (m_tree, .inl (y 0, 240, .inl (upd (upd (fun _ => 0) 0 3) 3 1))), (ou, .inl (y 1, 1, .inr (.inl (fun _ => 0))))] H) (hD : va_D A [(x0, .inr (10, [.ref tp, .int 0, .int (-1), .ref ps, .ref sp, .ref tk, .ref dr, .ref pr, .ref da, .ref nw, .ref im, .int 0, .ref ac, .ref ke, .ref si, .ref tx, .ref an, .ref dw])), (nw, .inr (6, [.ref nwt, .ref nwb, .int 0, .ref nwn, .ref nwi, .int 0, .ref nwr])), (nwt, .inr (9, [.ref nwtk, .ref nwtv, .ref nwte, .ref nwtd, .int 1])), (nwtk, .inl (y 0, 60, .inl (upd (fun _ => 0) 0 3))), (m0, .inr (11, [.int 0, .ref m_tree, .ref m_data, .ref m_made, .ref m_status, .int 0, .ref m_tape, .ref m_paths, .ref m_pathSize, .null, .int 0, .int 0, .int 0, .int 0, .int 0, .int 0, .int 0, .int 0, .int 0, .int 0, .int 0, .int (-1), .int 0, .ref m_set, .ref m_to, .int 0, .int 0, .int 0, .int 0, .int 0, .int 0, .ref m_lifted, .int 0, .int 0, .int 0, .ref m_order, .int 0, .ref m_past, .int 0, .ref m_rowKind, .ref m_rowSteps, .ref m_rowPath, .ref m_rowWas, .ref m_rowIs, .ref m_pool, .ref m_rowsMany, .ref m_poolMany, .ref m_way, .int 0, .ref m_out, .int 0, .int 0, .ref m_notedThing, .ref m_notedIs, .ref m_votes, .int 0, .int 0, .ref m_treeThen, .int 0, .int 0, .int 0, .ref m_imageTree, .ref m_pastThen, .ref m_notedThingThen, .ref m_notedIsThen, .ref m_statusThen])), (m_tree, .inl (y 0, 240, .inl (upd (upd (fun _ => 0) 0 3) 3 1))), (ou, .inl (y 1, 1, .inr (.inl (fun _ => 0))))]) (hS : va_S A s.heap H locs) (hl : lv_has ls 7 [(4, .int 0), (3, .ref ou), (2, .ref m0), (1, .ref x0), (0, .ref b)]) : W p l e room_1 s m #[Value.ref b] below meth c H locs 121 52808 (lw_Z below #[Value.ref b] s) (F0 m 666 ls []) := by
  obtain ⟨hx, hb, hr, hml, hown, hts, hX, hbl, hlocks, hgv⟩ := C0
  have hA : ∀ q : Nat, s.heap.size ≤ q → A q := fun q h => by rw [hAe]; exact h
  have hbA : ¬ A b := by rw [hAe]; exact Nat.not_le.mpr hbl
  have hl : lv_has ls 7 [(4, .int 0), (3, .ref ou), (2, .ref m0), (1, .ref x0), (0, .ref b)] := hl
  obtain ⟨a1, ea1⟩ : ∃ z, z = xs 1 := ⟨_, rfl⟩
  obtain ⟨a2, ea2⟩ : ∃ z, z = xs 2 := ⟨_, rfl⟩
  obtain ⟨a3, ea3⟩ : ∃ z, z = xs 3 := ⟨_, rfl⟩
  obtain ⟨a4, ea4⟩ : ∃ z, z = xs 4 := ⟨_, rfl⟩
  obtain ⟨a5, ea5⟩ : ∃ z, z = xs 5 := ⟨_, rfl⟩
  refine lv_aload_n hx hb dL_law_666 rfl (lv_at hl 3 rfl) ?_
  refine lv_aload_n hx hb dL_law_667 rfl (lv_at hl 4 rfl) ?_
  refine lv_iload hx hb dL_law_668 (lv_at hl 0 rfl) ?_
  refine lv_iconst (v := 1) hx hb dL_law_670 (by decide) ?_
  refine lv_iadd hx hb dL_law_671 ?_
  refine nq_top (z := 1) (by decide) ?_
  refine va_sld hx hb hX hbl hbA hS (i := 1) (nq_in (by decide)) dL_law_672 ?_
  refine nq_top (z := a1) (ea1.symm) ?_
  refine lv_aload_n hx hb dL_law_673 rfl (lv_at hl 4 rfl) ?_
  refine lv_iload hx hb dL_law_674 (lv_at hl 0 rfl) ?_
  refine lv_iconst (v := 2) hx hb dL_law_676 (by decide) ?_
  refine lv_iadd hx hb dL_law_677 ?_
  refine nq_top (z := 2) (by decide) ?_
  refine va_sld hx hb hX hbl hbA hS (i := 2) (nq_in (by decide)) dL_law_678 ?_
  refine nq_top (z := a2) (ea2.symm) ?_
  refine lv_aload_n hx hb dL_law_679 rfl (lv_at hl 1 rfl) ?_
  refine nq_wri (wr := [(m0, .inr (11, [.int 0, .ref m_tree, .ref m_data, .ref m_made, .ref m_status, .int 0, .ref m_tape, .ref m_paths, .ref m_pathSize, .null, .int 0, .int 0, .int 0, .int 0, .int 0, .int 0, .int 0, .int 0, .int 0, .int 0, .int 0, .int (-1), .int 0, .ref m_set, .ref m_to, .int 0, .int 0, .int 0, .int 0, .int 0, .int 0, .ref m_lifted, .int 0, .int 0, .int 0, .ref m_order, .int 0, .ref m_past, .int 0, .ref m_rowKind, .ref m_rowSteps, .ref m_rowPath, .ref m_rowWas, .ref m_rowIs, .ref m_pool, .ref m_rowsMany, .ref m_poolMany, .ref m_way, .int 0, .ref m_out, .int 0, .int 0, .ref m_notedThing, .ref m_notedIs, .ref m_votes, .int 0, .int 0, .ref m_treeThen, .int 0, .int 0, .int 0, .ref m_imageTree, .ref m_pastThen, .ref m_notedThingThen, .ref m_notedIsThen, .ref m_statusThen])), (m_tree, .inl (y 0, 240, .inl (upd (upd (fun _ => 0) 0 3) 3 1)))]) (w1 := (fun (g9 : Nat → Int64) => [(ou, .inl (y 1, 1, .inr (.inl g9)))])) (vx_runSW (hh := [(0, 10, 13, 19)]) (As := [.ref x0, .int a1, .int a2, .ref ou]) (rest := []) ⟨hx, hb, hml, hown, hts⟩ (w_alike l hl0 G y H.size x0 tp ps sp tk dr pr da nw im ac ke si tx an dw nwt nwb nwn nwi nwr nwtk nwtv nwte nwtd a1 a2 ou) (vx_cwSW 4 hts gv_L_alike_102 rfl rfl rfl (by decide +kernel) ⟨Nat.le_of_ble_eq_true rfl, Nat.le_of_ble_eq_true rfl⟩) (nq_PXS hK hP hD hS hA hXs [0, 1, 2, 3, 6] rfl rfl) rfl rfl hl.1 rfl (lv_room (Nat.le_of_ble_eq_true rfl)) dL_law_680 ⟨Nat.le_of_ble_eq_true rfl, Nat.le_of_ble_eq_true rfl⟩) hP hD hS hA [0, 1, 2, 3, 6] [4, 5] rfl rfl (by decide) (by decide) (fun r_1 g_3 H locs hw_2 hP hD hS => ?_)
  have hP : va_P G vwCl [(m0, .inr (11, [.int 0, .ref m_tree, .ref m_data, .ref m_made, .ref m_status, .int 0, .ref m_tape, .ref m_paths, .ref m_pathSize, .null, .int 0, .int 0, .int 0, .int 0, .int 0, .int 0, .int 0, .int 0, .int 0, .int 0, .int 0, .int (-1), .int 0, .ref m_set, .ref m_to, .int 0, .int 0, .int 0, .int 0, .int 0, .int 0, .ref m_lifted, .int 0, .int 0, .int 0, .ref m_order, .int 0, .ref m_past, .int 0, .ref m_rowKind, .ref m_rowSteps, .ref m_rowPath, .ref m_rowWas, .ref m_rowIs, .ref m_pool, .ref m_rowsMany, .ref m_poolMany, .ref m_way, .int 0, .ref m_out, .int 0, .int 0, .ref m_notedThing, .ref m_notedIs, .ref m_votes, .int 0, .int 0, .ref m_treeThen, .int 0, .int 0, .int 0, .ref m_imageTree, .ref m_pastThen, .ref m_notedThingThen, .ref m_notedIsThen, .ref m_statusThen])), (m_tree, .inl (y 0, 240, .inl (upd (upd (fun _ => 0) 0 3) 3 1))), (ou, .inl (y 1, 1, .inr (.inl g_3)))] H := hP
  have hD : va_D A [(m0, .inr (11, [.int 0, .ref m_tree, .ref m_data, .ref m_made, .ref m_status, .int 0, .ref m_tape, .ref m_paths, .ref m_pathSize, .null, .int 0, .int 0, .int 0, .int 0, .int 0, .int 0, .int 0, .int 0, .int 0, .int 0, .int 0, .int (-1), .int 0, .ref m_set, .ref m_to, .int 0, .int 0, .int 0, .int 0, .int 0, .int 0, .ref m_lifted, .int 0, .int 0, .int 0, .ref m_order, .int 0, .ref m_past, .int 0, .ref m_rowKind, .ref m_rowSteps, .ref m_rowPath, .ref m_rowWas, .ref m_rowIs, .ref m_pool, .ref m_rowsMany, .ref m_poolMany, .ref m_way, .int 0, .ref m_out, .int 0, .int 0, .ref m_notedThing, .ref m_notedIs, .ref m_votes, .int 0, .int 0, .ref m_treeThen, .int 0, .int 0, .int 0, .ref m_imageTree, .ref m_pastThen, .ref m_notedThingThen, .ref m_notedIsThen, .ref m_statusThen])), (m_tree, .inl (y 0, 240, .inl (upd (upd (fun _ => 0) 0 3) 3 1))), (ou, .inl (y 1, 1, .inr (.inl g_3)))] := hD
  refine lv_istore (lv' := [(5, .int r_1), (4, .int 0), (3, .ref ou), (2, .ref m0), (1, .ref x0), (0, .ref b)]) hx hb dL_law_683 hl (by decide) rfl (fun ls hl => ?_)
  refine lv_aload_n hx hb dL_law_685 rfl (lv_at hl 3 rfl) ?_
  refine lv_aload_n hx hb dL_law_686 rfl (lv_at hl 5 rfl) ?_
  refine lv_iload hx hb dL_law_687 (lv_at hl 1 rfl) ?_
  refine lv_iconst (v := 1) hx hb dL_law_689 (by decide) ?_
  refine lv_iadd hx hb dL_law_690 ?_
  refine nq_top (z := 1) (by decide) ?_
  refine va_sld hx hb hX hbl hbA hS (i := 1) (nq_in (by decide)) dL_law_691 ?_
  refine nq_top (z := a1) (ea1.symm) ?_
  refine lv_aload_n hx hb dL_law_692 rfl (lv_at hl 5 rfl) ?_
  refine lv_iload hx hb dL_law_693 (lv_at hl 1 rfl) ?_
  refine lv_iconst (v := 2) hx hb dL_law_695 (by decide) ?_
  refine lv_iadd hx hb dL_law_696 ?_
  refine nq_top (z := 2) (by decide) ?_
  refine va_sld hx hb hX hbl hbA hS (i := 2) (nq_in (by decide)) dL_law_697 ?_
  refine nq_top (z := a2) (ea2.symm) ?_
  refine nq_wri (wr := [(ou, .inl (y 1, 1, .inr (.inl g_3)))]) (va_runV (As := [.int a1, .int a2]) (rest := []) ⟨hx, hb, hml, hown, hts⟩ (m_alike l G y H.size m0 m_tree m_data m_made m_status m_tape m_paths m_pathSize m_set m_to m_lifted m_order m_past m_rowKind m_rowSteps m_rowPath m_rowWas m_rowIs m_pool m_rowsMany m_poolMany m_way m_out m_notedThing m_notedIs m_votes m_treeThen m_imageTree m_pastThen m_notedThingThen m_notedIsThen m_statusThen a1 a2 ) (cwV 2 hts gv_X11_alike_104 rfl rfl rfl (by decide +kernel) ⟨Nat.le_of_ble_eq_true rfl, Nat.le_of_ble_eq_true rfl⟩) (nq_PV hK hP hD [0, 1] rfl rfl 0 rfl rfl) rfl rfl hl.1 rfl (lv_room (Nat.le_of_ble_eq_true rfl)) dL_law_698 ⟨Nat.le_of_ble_eq_true rfl, Nat.le_of_ble_eq_true rfl⟩) hP hD hS hA [0, 1] [2] rfl rfl (by decide) (by decide) (fun r_6 u_4 H locs hw_5 hP hD hS => ?_)
  have hP : va_P G vwCl [(ou, .inl (y 1, 1, .inr (.inl g_3))), (m0, .inr (11, u_4.2))] H := hP
  have hD : va_D A [(ou, .inl (y 1, 1, .inr (.inl g_3))), (m0, .inr (11, u_4.2))] := hD
  obtain ⟨hq_7, hq_8, hq_9⟩ := hw_5
  subst hq_9
  refine lv_istore (lv' := [(6, .int ((sp_alike a1 a2).2)), (5, .int r_1), (4, .int 0), (3, .ref ou), (2, .ref m0), (1, .ref x0), (0, .ref b)]) hx hb dL_law_701 hl (by decide) rfl (fun ls hl => ?_)
  refine lv_aload_n hx hb dL_law_703 rfl (lv_at hl 4 rfl) ?_
  refine nq_rdi (va_runV (As := []) (rest := []) ⟨hx, hb, hml, hown, hts⟩ (m_thrown l G y H.size m0 u_4 hq_7) (cwV 0 hts gv_X11_thrown_77 rfl rfl rfl (by decide +kernel) ⟨Nat.le_of_ble_eq_true rfl, Nat.le_of_ble_eq_true rfl⟩) (nq_PV hK hP hD [1] rfl rfl 1 rfl rfl) rfl rfl hl.1 rfl (lv_room (Nat.le_of_ble_eq_true rfl)) dL_law_704 ⟨Nat.le_of_ble_eq_true rfl, Nat.le_of_ble_eq_true rfl⟩) hP hS hA (fun r_10 H locs hw_11 hP hS => ?_)
  subst hw_11
  refine lv_iload hx hb dL_law_707 (lv_at hl 1 rfl) ?_
  refine lv_icmp_eq (tgt := 714) hx hb dL_law_709 (by decide) (fun _ => ?_) (fun c_12 => absurd (hq_8.trans hw_2.1.symm) c_12)
  refine lv_iload hx hb dL_law_714 (lv_at hl 1 rfl) ?_
  refine lv_if_ne (tgt := 731) hx hb dL_law_716 (by decide) (fun c_13 => ?_) (fun c_13 => ?_)
  · refine lv_goto (tgt := 1593) hx hb dL_law_731 (by decide) ?_
    refine lv_iinc (v := 6) (lv' := [(4, .int 6), (6, .int ((sp_alike a1 a2).2)), (5, .int r_1), (3, .ref ou), (2, .ref m0), (1, .ref x0), (0, .ref b)]) hx hb dL_law_1593 hl (k := 2) rfl (by decide) (by decide) rfl (fun ls hl => ?_)
    refine lv_goto (tgt := 23) hx hb dL_law_1596 (by decide) ?_
    refine lv_iload hx hb dL_law_23 (lv_at hl 0 rfl) ?_
    refine lv_aload_n hx hb dL_law_25 rfl (lv_at hl 6 rfl) ?_
    refine va_slen hx hb hX hbl hbA hS dL_law_26 ?_
    refine nq_top (z := 6) (by decide) ?_
    refine lv_bipush (v := 6) hx hb dL_law_27 (by decide) ?_
    refine lv_isub hx hb dL_law_29 ?_
    refine nq_top (z := 0) (by decide) ?_
    refine lv_icmp_gt (tgt := 1599) hx hb dL_law_30 (by decide) (fun _ => ?_) (fun c_14 => absurd c_14 (by decide))
    refine lv_iconst (v := 1) hx hb dL_law_1599 (by decide) ?_
    refine va_forget (fun q hq => by have h9 := hS.2.2 q hq; rw [hAe] at h9; exact h9) ?_
    refine W.widen (k := 600002) (n := 7302232) (Nat.le_of_ble_eq_true rfl) (Nat.le_of_ble_eq_true rfl) ?_
    exact lw_ret hx hb hr hlocks dL_law_1600
  · subst c_13
    refine lv_aload_n hx hb dL_law_719 rfl (lv_at hl 3 rfl) ?_
    refine lv_iconst (v := 0) hx hb dL_law_720 (by decide) ?_
    refine va_lald hx hb hK.1 hP 0 1 rfl rfl (i := 0) (nq_in (by decide)) dL_law_721 ?_
    refine nq_topl (z := ((sp_alike a1 a2).2).toInt64) (hw_2.2 rfl) ?_
    refine lv_iload hx hb dL_law_722 (lv_at hl 0 rfl) ?_
    refine lv_i2l (v := ((sp_alike a1 a2).2).toInt64) hx hb dL_law_724 rfl ?_
    refine W.lcmp hx hb dL_law_725 ?_
    refine nq_top (z := 0) (nq_cmp _) ?_
    refine lv_if_eq (tgt := 731) hx hb dL_law_726 (by decide) (fun _ => ?_) (fun c_15 => absurd c_15 (by decide))
    refine lv_goto (tgt := 1593) hx hb dL_law_731 (by decide) ?_
    refine lv_iinc (v := 6) (lv' := [(4, .int 6), (6, .int ((sp_alike a1 a2).2)), (5, .int 0), (3, .ref ou), (2, .ref m0), (1, .ref x0), (0, .ref b)]) hx hb dL_law_1593 hl (k := 2) rfl (by decide) (by decide) rfl (fun ls hl => ?_)
    refine lv_goto (tgt := 23) hx hb dL_law_1596 (by decide) ?_
    refine lv_iload hx hb dL_law_23 (lv_at hl 0 rfl) ?_
    refine lv_aload_n hx hb dL_law_25 rfl (lv_at hl 6 rfl) ?_
    refine va_slen hx hb hX hbl hbA hS dL_law_26 ?_
    refine nq_top (z := 6) (by decide) ?_
    refine lv_bipush (v := 6) hx hb dL_law_27 (by decide) ?_
    refine lv_isub hx hb dL_law_29 ?_
    refine nq_top (z := 0) (by decide) ?_
    refine lv_icmp_gt (tgt := 1599) hx hb dL_law_30 (by decide) (fun _ => ?_) (fun c_16 => absurd c_16 (by decide))
    refine lv_iconst (v := 1) hx hb dL_law_1599 (by decide) ?_
    refine va_forget (fun q hq => by have h9 := hS.2.2 q hq; rw [hAe] at h9; exact h9) ?_
    refine W.widen (k := 600002) (n := 7302232) (Nat.le_of_ble_eq_true rfl) (Nat.le_of_ble_eq_true rfl) ?_
    exact lw_ret hx hb hr hlocks dL_law_1600

set_option maxHeartbeats 400000 in
set_option maxRecDepth 100000 in
theorem lc_9 {p : Program} {e : Env} {s : State} {m : MethodId} {below : List Frame} {meth : Method} {c : Code} {l : Launch} {b : Nat} {xs : Nat → Int32} {G : va_G} {y : Nat → ClassId} {A : Nat → Prop} (hl0 : l.stackTraces = false) (C0 : lw_At p s m meth c b 6 xs) (hAe : A = fun q : Nat => s.heap.size ≤ q) (hK : nq_K G y s) (hXs : nq_X A s) (x0 : Nat) (tp : Nat) (ps : Nat) (sp : Nat) (tk : Nat) (dr : Nat) (pr : Nat) (da : Nat) (nw : Nat) (im : Nat) (ac : Nat) (ke : Nat) (si : Nat) (tx : Nat) (an : Nat) (dw : Nat) (m0 : Nat) (m_tree : Nat) (m_data : Nat) (m_made : Nat) (m_status : Nat) (m_tape : Nat) (m_paths : Nat) (m_pathSize : Nat) (m_set : Nat) (m_to : Nat) (m_lifted : Nat) (m_order : Nat) (m_past : Nat) (m_rowKind : Nat) (m_rowSteps : Nat) (m_rowPath : Nat) (m_rowWas : Nat) (m_rowIs : Nat) (m_pool : Nat) (m_rowsMany : Nat) (m_poolMany : Nat) (m_way : Nat) (m_out : Nat) (m_notedThing : Nat) (m_notedIs : Nat) (m_votes : Nat) (m_treeThen : Nat) (m_imageTree : Nat) (m_pastThen : Nat) (m_notedThingThen : Nat) (m_notedIsThen : Nat) (m_statusThen : Nat) (ou : Nat) (H : Heap) (locs : List Loc) (ls : Array Slot) (hP : va_P G vwCl [(x0, .inr (10, [.ref tp, .int 0, .int (-1), .ref ps, .ref sp, .ref tk, .ref dr, .ref pr, .ref da, .ref nw, .ref im, .int 0, .ref ac, .ref ke, .ref si, .ref tx, .ref an, .ref dw])), (ps, .inl (y 3, 4, .inr (.inr (.inr (.inr (fun _ => none)))))), (m0, .inr (11, [.int 0, .ref m_tree, .ref m_data, .ref m_made, .ref m_status, .int 0, .ref m_tape, .ref m_paths, .ref m_pathSize, .null, .int 0, .int 0, .int 0, .int 0, .int 0, .int 0, .int 0, .int 0, .int 0, .int 0, .int 0, .int (-1), .int 0, .ref m_set, .ref m_to, .int 0, .int 0, .int 0, .int 0, .int 0, .int 0, .ref m_lifted, .int 0, .int 0, .int 0, .ref m_order, .int 0, .ref m_past, .int 0, .ref m_rowKind, .ref m_rowSteps, .ref m_rowPath, .ref m_rowWas, .ref m_rowIs, .ref m_pool, .ref m_rowsMany, .ref m_poolMany, .ref m_way, .int 0, .ref m_out, .int 0, .int 0, .ref m_notedThing, .ref m_notedIs, .ref m_votes, .int 0, .int 0, .ref m_treeThen, .int 0, .int 0, .int 0, .ref m_imageTree, .ref m_pastThen, .ref m_notedThingThen, .ref m_notedIsThen, .ref m_statusThen])), (m_pathSize, .inl (y 0, 4, .inl (fun _ => 0))), (ou, .inl (y 1, 1, .inr (.inl (fun _ => 0))))] H) (hD : va_D A [(x0, .inr (10, [.ref tp, .int 0, .int (-1), .ref ps, .ref sp, .ref tk, .ref dr, .ref pr, .ref da, .ref nw, .ref im, .int 0, .ref ac, .ref ke, .ref si, .ref tx, .ref an, .ref dw])), (ps, .inl (y 3, 4, .inr (.inr (.inr (.inr (fun _ => none)))))), (m0, .inr (11, [.int 0, .ref m_tree, .ref m_data, .ref m_made, .ref m_status, .int 0, .ref m_tape, .ref m_paths, .ref m_pathSize, .null, .int 0, .int 0, .int 0, .int 0, .int 0, .int 0, .int 0, .int 0, .int 0, .int 0, .int 0, .int (-1), .int 0, .ref m_set, .ref m_to, .int 0, .int 0, .int 0, .int 0, .int 0, .int 0, .ref m_lifted, .int 0, .int 0, .int 0, .ref m_order, .int 0, .ref m_past, .int 0, .ref m_rowKind, .ref m_rowSteps, .ref m_rowPath, .ref m_rowWas, .ref m_rowIs, .ref m_pool, .ref m_rowsMany, .ref m_poolMany, .ref m_way, .int 0, .ref m_out, .int 0, .int 0, .ref m_notedThing, .ref m_notedIs, .ref m_votes, .int 0, .int 0, .ref m_treeThen, .int 0, .int 0, .int 0, .ref m_imageTree, .ref m_pastThen, .ref m_notedThingThen, .ref m_notedIsThen, .ref m_statusThen])), (m_pathSize, .inl (y 0, 4, .inl (fun _ => 0))), (ou, .inl (y 1, 1, .inr (.inl (fun _ => 0))))]) (hS : va_S A s.heap H locs) (hl : lv_has ls 7 [(4, .int 0), (3, .ref ou), (2, .ref m0), (1, .ref x0), (0, .ref b)]) : W p l e room_1 s m #[Value.ref b] below meth c H locs 121 52808 (lw_Z below #[Value.ref b] s) (F0 m 734 ls []) := by
  obtain ⟨hx, hb, hr, hml, hown, hts, hX, hbl, hlocks, hgv⟩ := C0
  have hA : ∀ q : Nat, s.heap.size ≤ q → A q := fun q h => by rw [hAe]; exact h
  have hbA : ¬ A b := by rw [hAe]; exact Nat.not_le.mpr hbl
  have hl : lv_has ls 7 [(4, .int 0), (3, .ref ou), (2, .ref m0), (1, .ref x0), (0, .ref b)] := hl
  obtain ⟨a1, ea1⟩ : ∃ z, z = xs 1 := ⟨_, rfl⟩
  obtain ⟨a2, ea2⟩ : ∃ z, z = xs 2 := ⟨_, rfl⟩
  obtain ⟨a3, ea3⟩ : ∃ z, z = xs 3 := ⟨_, rfl⟩
  obtain ⟨a4, ea4⟩ : ∃ z, z = xs 4 := ⟨_, rfl⟩
  obtain ⟨a5, ea5⟩ : ∃ z, z = xs 5 := ⟨_, rfl⟩
  refine lv_aload_n hx hb dL_law_734 rfl (lv_at hl 3 rfl) ?_
  refine lv_aload_n hx hb dL_law_735 rfl (lv_at hl 4 rfl) ?_
  refine lv_iload hx hb dL_law_736 (lv_at hl 0 rfl) ?_
  refine lv_iconst (v := 1) hx hb dL_law_738 (by decide) ?_
  refine lv_iadd hx hb dL_law_739 ?_
  refine nq_top (z := 1) (by decide) ?_
  refine va_sld hx hb hX hbl hbA hS (i := 1) (nq_in (by decide)) dL_law_740 ?_
  refine nq_top (z := a1) (ea1.symm) ?_
  refine lv_aload_n hx hb dL_law_741 rfl (lv_at hl 4 rfl) ?_
  refine lv_iload hx hb dL_law_742 (lv_at hl 0 rfl) ?_
  refine lv_iconst (v := 2) hx hb dL_law_744 (by decide) ?_
  refine lv_iadd hx hb dL_law_745 ?_
  refine nq_top (z := 2) (by decide) ?_
  refine va_sld hx hb hX hbl hbA hS (i := 2) (nq_in (by decide)) dL_law_746 ?_
  refine nq_top (z := a2) (ea2.symm) ?_
  refine lv_aload_n hx hb dL_law_747 rfl (lv_at hl 1 rfl) ?_
  refine nq_wri (wr := [(m0, .inr (11, [.int 0, .ref m_tree, .ref m_data, .ref m_made, .ref m_status, .int 0, .ref m_tape, .ref m_paths, .ref m_pathSize, .null, .int 0, .int 0, .int 0, .int 0, .int 0, .int 0, .int 0, .int 0, .int 0, .int 0, .int 0, .int (-1), .int 0, .ref m_set, .ref m_to, .int 0, .int 0, .int 0, .int 0, .int 0, .int 0, .ref m_lifted, .int 0, .int 0, .int 0, .ref m_order, .int 0, .ref m_past, .int 0, .ref m_rowKind, .ref m_rowSteps, .ref m_rowPath, .ref m_rowWas, .ref m_rowIs, .ref m_pool, .ref m_rowsMany, .ref m_poolMany, .ref m_way, .int 0, .ref m_out, .int 0, .int 0, .ref m_notedThing, .ref m_notedIs, .ref m_votes, .int 0, .int 0, .ref m_treeThen, .int 0, .int 0, .int 0, .ref m_imageTree, .ref m_pastThen, .ref m_notedThingThen, .ref m_notedIsThen, .ref m_statusThen])), (m_pathSize, .inl (y 0, 4, .inl (fun _ => 0)))]) (w1 := (fun (g9 : Nat → Int64) => [(ou, .inl (y 1, 1, .inr (.inl g9)))])) (vx_runSW (hh := [(0, 10, 13, 19)]) (As := [.ref x0, .int a1, .int a2, .ref ou]) (rest := []) ⟨hx, hb, hml, hown, hts⟩ (w_answer l hl0 G y H.size x0 tp ps sp tk dr pr da nw im ac ke si tx an dw a1 a2 ou) (vx_cwSW 4 hts gv_L_answer_105 rfl rfl rfl (by decide +kernel) ⟨Nat.le_of_ble_eq_true rfl, Nat.le_of_ble_eq_true rfl⟩) (nq_PXS hK hP hD hS hA hXs [0, 1, 4] rfl rfl) rfl rfl hl.1 rfl (lv_room (Nat.le_of_ble_eq_true rfl)) dL_law_748 ⟨Nat.le_of_ble_eq_true rfl, Nat.le_of_ble_eq_true rfl⟩) hP hD hS hA [0, 1, 4] [2, 3] rfl rfl (by decide) (by decide) (fun r_1 g_3 H locs hw_2 hP hD hS => ?_)
  have hP : va_P G vwCl [(m0, .inr (11, [.int 0, .ref m_tree, .ref m_data, .ref m_made, .ref m_status, .int 0, .ref m_tape, .ref m_paths, .ref m_pathSize, .null, .int 0, .int 0, .int 0, .int 0, .int 0, .int 0, .int 0, .int 0, .int 0, .int 0, .int 0, .int (-1), .int 0, .ref m_set, .ref m_to, .int 0, .int 0, .int 0, .int 0, .int 0, .int 0, .ref m_lifted, .int 0, .int 0, .int 0, .ref m_order, .int 0, .ref m_past, .int 0, .ref m_rowKind, .ref m_rowSteps, .ref m_rowPath, .ref m_rowWas, .ref m_rowIs, .ref m_pool, .ref m_rowsMany, .ref m_poolMany, .ref m_way, .int 0, .ref m_out, .int 0, .int 0, .ref m_notedThing, .ref m_notedIs, .ref m_votes, .int 0, .int 0, .ref m_treeThen, .int 0, .int 0, .int 0, .ref m_imageTree, .ref m_pastThen, .ref m_notedThingThen, .ref m_notedIsThen, .ref m_statusThen])), (m_pathSize, .inl (y 0, 4, .inl (fun _ => 0))), (ou, .inl (y 1, 1, .inr (.inl g_3)))] H := hP
  have hD : va_D A [(m0, .inr (11, [.int 0, .ref m_tree, .ref m_data, .ref m_made, .ref m_status, .int 0, .ref m_tape, .ref m_paths, .ref m_pathSize, .null, .int 0, .int 0, .int 0, .int 0, .int 0, .int 0, .int 0, .int 0, .int 0, .int 0, .int 0, .int (-1), .int 0, .ref m_set, .ref m_to, .int 0, .int 0, .int 0, .int 0, .int 0, .int 0, .ref m_lifted, .int 0, .int 0, .int 0, .ref m_order, .int 0, .ref m_past, .int 0, .ref m_rowKind, .ref m_rowSteps, .ref m_rowPath, .ref m_rowWas, .ref m_rowIs, .ref m_pool, .ref m_rowsMany, .ref m_poolMany, .ref m_way, .int 0, .ref m_out, .int 0, .int 0, .ref m_notedThing, .ref m_notedIs, .ref m_votes, .int 0, .int 0, .ref m_treeThen, .int 0, .int 0, .int 0, .ref m_imageTree, .ref m_pastThen, .ref m_notedThingThen, .ref m_notedIsThen, .ref m_statusThen])), (m_pathSize, .inl (y 0, 4, .inl (fun _ => 0))), (ou, .inl (y 1, 1, .inr (.inl g_3)))] := hD
  refine lv_istore (lv' := [(5, .int r_1), (4, .int 0), (3, .ref ou), (2, .ref m0), (1, .ref x0), (0, .ref b)]) hx hb dL_law_751 hl (by decide) rfl (fun ls hl => ?_)
  refine lv_aload_n hx hb dL_law_753 rfl (lv_at hl 3 rfl) ?_
  refine lv_aload_n hx hb dL_law_754 rfl (lv_at hl 5 rfl) ?_
  refine lv_iload hx hb dL_law_755 (lv_at hl 1 rfl) ?_
  refine lv_iconst (v := 1) hx hb dL_law_757 (by decide) ?_
  refine lv_iadd hx hb dL_law_758 ?_
  refine nq_top (z := 1) (by decide) ?_
  refine va_sld hx hb hX hbl hbA hS (i := 1) (nq_in (by decide)) dL_law_759 ?_
  refine nq_top (z := a1) (ea1.symm) ?_
  refine lv_aload_n hx hb dL_law_760 rfl (lv_at hl 5 rfl) ?_
  refine lv_iload hx hb dL_law_761 (lv_at hl 1 rfl) ?_
  refine lv_iconst (v := 2) hx hb dL_law_763 (by decide) ?_
  refine lv_iadd hx hb dL_law_764 ?_
  refine nq_top (z := 2) (by decide) ?_
  refine va_sld hx hb hX hbl hbA hS (i := 2) (nq_in (by decide)) dL_law_765 ?_
  refine nq_top (z := a2) (ea2.symm) ?_
  refine nq_wri (wr := [(ou, .inl (y 1, 1, .inr (.inl g_3)))]) (va_runV (As := [.int a1, .int a2]) (rest := []) ⟨hx, hb, hml, hown, hts⟩ (m_answer l G y H.size m0 m_tree m_data m_made m_status m_tape m_paths m_pathSize m_set m_to m_lifted m_order m_past m_rowKind m_rowSteps m_rowPath m_rowWas m_rowIs m_pool m_rowsMany m_poolMany m_way m_out m_notedThing m_notedIs m_votes m_treeThen m_imageTree m_pastThen m_notedThingThen m_notedIsThen m_statusThen a1 a2 ) (cwV 2 hts gv_X11_answer_107 rfl rfl rfl (by decide +kernel) ⟨Nat.le_of_ble_eq_true rfl, Nat.le_of_ble_eq_true rfl⟩) (nq_PV hK hP hD [0, 1] rfl rfl 0 rfl rfl) rfl rfl hl.1 rfl (lv_room (Nat.le_of_ble_eq_true rfl)) dL_law_766 ⟨Nat.le_of_ble_eq_true rfl, Nat.le_of_ble_eq_true rfl⟩) hP hD hS hA [0, 1] [2] rfl rfl (by decide) (by decide) (fun r_6 u_4 H locs hw_5 hP hD hS => ?_)
  have hP : va_P G vwCl [(ou, .inl (y 1, 1, .inr (.inl g_3))), (m0, .inr (11, u_4.2))] H := hP
  have hD : va_D A [(ou, .inl (y 1, 1, .inr (.inl g_3))), (m0, .inr (11, u_4.2))] := hD
  obtain ⟨hq_7, hq_8, hq_9⟩ := hw_5
  subst hq_9
  refine lv_istore (lv' := [(6, .int ((sp_one a1 a2).2)), (5, .int r_1), (4, .int 0), (3, .ref ou), (2, .ref m0), (1, .ref x0), (0, .ref b)]) hx hb dL_law_769 hl (by decide) rfl (fun ls hl => ?_)
  refine lv_aload_n hx hb dL_law_771 rfl (lv_at hl 4 rfl) ?_
  refine nq_rdi (va_runV (As := []) (rest := []) ⟨hx, hb, hml, hown, hts⟩ (m_thrown l G y H.size m0 u_4 hq_7) (cwV 0 hts gv_X11_thrown_77 rfl rfl rfl (by decide +kernel) ⟨Nat.le_of_ble_eq_true rfl, Nat.le_of_ble_eq_true rfl⟩) (nq_PV hK hP hD [1] rfl rfl 1 rfl rfl) rfl rfl hl.1 rfl (lv_room (Nat.le_of_ble_eq_true rfl)) dL_law_772 ⟨Nat.le_of_ble_eq_true rfl, Nat.le_of_ble_eq_true rfl⟩) hP hS hA (fun r_10 H locs hw_11 hP hS => ?_)
  subst hw_11
  refine lv_iload hx hb dL_law_775 (lv_at hl 1 rfl) ?_
  refine lv_icmp_eq (tgt := 782) hx hb dL_law_777 (by decide) (fun _ => ?_) (fun c_12 => absurd (hq_8.trans hw_2.1.symm) c_12)
  refine lv_iload hx hb dL_law_782 (lv_at hl 1 rfl) ?_
  refine lv_if_ne (tgt := 799) hx hb dL_law_784 (by decide) (fun c_13 => ?_) (fun c_13 => ?_)
  · refine lv_goto (tgt := 1593) hx hb dL_law_799 (by decide) ?_
    refine lv_iinc (v := 6) (lv' := [(4, .int 6), (6, .int ((sp_one a1 a2).2)), (5, .int r_1), (3, .ref ou), (2, .ref m0), (1, .ref x0), (0, .ref b)]) hx hb dL_law_1593 hl (k := 2) rfl (by decide) (by decide) rfl (fun ls hl => ?_)
    refine lv_goto (tgt := 23) hx hb dL_law_1596 (by decide) ?_
    refine lv_iload hx hb dL_law_23 (lv_at hl 0 rfl) ?_
    refine lv_aload_n hx hb dL_law_25 rfl (lv_at hl 6 rfl) ?_
    refine va_slen hx hb hX hbl hbA hS dL_law_26 ?_
    refine nq_top (z := 6) (by decide) ?_
    refine lv_bipush (v := 6) hx hb dL_law_27 (by decide) ?_
    refine lv_isub hx hb dL_law_29 ?_
    refine nq_top (z := 0) (by decide) ?_
    refine lv_icmp_gt (tgt := 1599) hx hb dL_law_30 (by decide) (fun _ => ?_) (fun c_14 => absurd c_14 (by decide))
    refine lv_iconst (v := 1) hx hb dL_law_1599 (by decide) ?_
    refine va_forget (fun q hq => by have h9 := hS.2.2 q hq; rw [hAe] at h9; exact h9) ?_
    refine W.widen (k := 600002) (n := 7302232) (Nat.le_of_ble_eq_true rfl) (Nat.le_of_ble_eq_true rfl) ?_
    exact lw_ret hx hb hr hlocks dL_law_1600
  · subst c_13
    refine lv_aload_n hx hb dL_law_787 rfl (lv_at hl 3 rfl) ?_
    refine lv_iconst (v := 0) hx hb dL_law_788 (by decide) ?_
    refine va_lald hx hb hK.1 hP 0 1 rfl rfl (i := 0) (nq_in (by decide)) dL_law_789 ?_
    refine nq_topl (z := ((sp_one a1 a2).2).toInt64) (hw_2.2 rfl) ?_
    refine lv_iload hx hb dL_law_790 (lv_at hl 0 rfl) ?_
    refine lv_i2l (v := ((sp_one a1 a2).2).toInt64) hx hb dL_law_792 rfl ?_
    refine W.lcmp hx hb dL_law_793 ?_
    refine nq_top (z := 0) (nq_cmp _) ?_
    refine lv_if_eq (tgt := 799) hx hb dL_law_794 (by decide) (fun _ => ?_) (fun c_15 => absurd c_15 (by decide))
    refine lv_goto (tgt := 1593) hx hb dL_law_799 (by decide) ?_
    refine lv_iinc (v := 6) (lv' := [(4, .int 6), (6, .int ((sp_one a1 a2).2)), (5, .int 0), (3, .ref ou), (2, .ref m0), (1, .ref x0), (0, .ref b)]) hx hb dL_law_1593 hl (k := 2) rfl (by decide) (by decide) rfl (fun ls hl => ?_)
    refine lv_goto (tgt := 23) hx hb dL_law_1596 (by decide) ?_
    refine lv_iload hx hb dL_law_23 (lv_at hl 0 rfl) ?_
    refine lv_aload_n hx hb dL_law_25 rfl (lv_at hl 6 rfl) ?_
    refine va_slen hx hb hX hbl hbA hS dL_law_26 ?_
    refine nq_top (z := 6) (by decide) ?_
    refine lv_bipush (v := 6) hx hb dL_law_27 (by decide) ?_
    refine lv_isub hx hb dL_law_29 ?_
    refine nq_top (z := 0) (by decide) ?_
    refine lv_icmp_gt (tgt := 1599) hx hb dL_law_30 (by decide) (fun _ => ?_) (fun c_16 => absurd c_16 (by decide))
    refine lv_iconst (v := 1) hx hb dL_law_1599 (by decide) ?_
    refine va_forget (fun q hq => by have h9 := hS.2.2 q hq; rw [hAe] at h9; exact h9) ?_
    refine W.widen (k := 600002) (n := 7302232) (Nat.le_of_ble_eq_true rfl) (Nat.le_of_ble_eq_true rfl) ?_
    exact lw_ret hx hb hr hlocks dL_law_1600

set_option maxHeartbeats 400000 in
set_option maxRecDepth 100000 in
theorem lc_10 {p : Program} {e : Env} {s : State} {m : MethodId} {below : List Frame} {meth : Method} {c : Code} {l : Launch} {b : Nat} {xs : Nat → Int32} {G : va_G} {y : Nat → ClassId} {A : Nat → Prop} (hl0 : l.stackTraces = false) (C0 : lw_At p s m meth c b 6 xs) (hAe : A = fun q : Nat => s.heap.size ≤ q) (hK : nq_K G y s) (hXs : nq_X A s) (x0 : Nat) (tp : Nat) (ps : Nat) (sp : Nat) (tk : Nat) (dr : Nat) (pr : Nat) (da : Nat) (nw : Nat) (im : Nat) (ac : Nat) (ke : Nat) (si : Nat) (tx : Nat) (an : Nat) (dw : Nat) (m0 : Nat) (m_tree : Nat) (m_data : Nat) (m_made : Nat) (m_status : Nat) (m_tape : Nat) (m_paths : Nat) (m_pathSize : Nat) (m_set : Nat) (m_to : Nat) (m_lifted : Nat) (m_order : Nat) (m_past : Nat) (m_rowKind : Nat) (m_rowSteps : Nat) (m_rowPath : Nat) (m_rowWas : Nat) (m_rowIs : Nat) (m_pool : Nat) (m_rowsMany : Nat) (m_poolMany : Nat) (m_way : Nat) (m_out : Nat) (m_notedThing : Nat) (m_notedIs : Nat) (m_votes : Nat) (m_treeThen : Nat) (m_imageTree : Nat) (m_pastThen : Nat) (m_notedThingThen : Nat) (m_notedIsThen : Nat) (m_statusThen : Nat) (ou : Nat) (H : Heap) (locs : List Loc) (ls : Array Slot) (hP : va_P G vwCl [(x0, .inr (10, [.ref tp, .int 0, .int (-1), .ref ps, .ref sp, .ref tk, .ref dr, .ref pr, .ref da, .ref nw, .ref im, .int 0, .ref ac, .ref ke, .ref si, .ref tx, .ref an, .ref dw])), (ps, .inl (y 3, 4, .inr (.inr (.inr (.inr (fun _ => none)))))), (m0, .inr (11, [.int 0, .ref m_tree, .ref m_data, .ref m_made, .ref m_status, .int 0, .ref m_tape, .ref m_paths, .ref m_pathSize, .null, .int 0, .int 0, .int 0, .int 0, .int 0, .int 0, .int 0, .int 0, .int 0, .int 0, .int 0, .int (-1), .int 0, .ref m_set, .ref m_to, .int 0, .int 0, .int 0, .int 0, .int 0, .int 0, .ref m_lifted, .int 0, .int 0, .int 0, .ref m_order, .int 0, .ref m_past, .int 0, .ref m_rowKind, .ref m_rowSteps, .ref m_rowPath, .ref m_rowWas, .ref m_rowIs, .ref m_pool, .ref m_rowsMany, .ref m_poolMany, .ref m_way, .int 0, .ref m_out, .int 0, .int 0, .ref m_notedThing, .ref m_notedIs, .ref m_votes, .int 0, .int 0, .ref m_treeThen, .int 0, .int 0, .int 0, .ref m_imageTree, .ref m_pastThen, .ref m_notedThingThen, .ref m_notedIsThen, .ref m_statusThen])), (m_pathSize, .inl (y 0, 4, .inl (fun _ => 0))), (ou, .inl (y 1, 1, .inr (.inl (fun _ => 0))))] H) (hD : va_D A [(x0, .inr (10, [.ref tp, .int 0, .int (-1), .ref ps, .ref sp, .ref tk, .ref dr, .ref pr, .ref da, .ref nw, .ref im, .int 0, .ref ac, .ref ke, .ref si, .ref tx, .ref an, .ref dw])), (ps, .inl (y 3, 4, .inr (.inr (.inr (.inr (fun _ => none)))))), (m0, .inr (11, [.int 0, .ref m_tree, .ref m_data, .ref m_made, .ref m_status, .int 0, .ref m_tape, .ref m_paths, .ref m_pathSize, .null, .int 0, .int 0, .int 0, .int 0, .int 0, .int 0, .int 0, .int 0, .int 0, .int 0, .int 0, .int (-1), .int 0, .ref m_set, .ref m_to, .int 0, .int 0, .int 0, .int 0, .int 0, .int 0, .ref m_lifted, .int 0, .int 0, .int 0, .ref m_order, .int 0, .ref m_past, .int 0, .ref m_rowKind, .ref m_rowSteps, .ref m_rowPath, .ref m_rowWas, .ref m_rowIs, .ref m_pool, .ref m_rowsMany, .ref m_poolMany, .ref m_way, .int 0, .ref m_out, .int 0, .int 0, .ref m_notedThing, .ref m_notedIs, .ref m_votes, .int 0, .int 0, .ref m_treeThen, .int 0, .int 0, .int 0, .ref m_imageTree, .ref m_pastThen, .ref m_notedThingThen, .ref m_notedIsThen, .ref m_statusThen])), (m_pathSize, .inl (y 0, 4, .inl (fun _ => 0))), (ou, .inl (y 1, 1, .inr (.inl (fun _ => 0))))]) (hS : va_S A s.heap H locs) (hl : lv_has ls 7 [(4, .int 0), (3, .ref ou), (2, .ref m0), (1, .ref x0), (0, .ref b)]) : W p l e room_1 s m #[Value.ref b] below meth c H locs 121 52808 (lw_Z below #[Value.ref b] s) (F0 m 802 ls []) := by
  obtain ⟨hx, hb, hr, hml, hown, hts, hX, hbl, hlocks, hgv⟩ := C0
  have hA : ∀ q : Nat, s.heap.size ≤ q → A q := fun q h => by rw [hAe]; exact h
  have hbA : ¬ A b := by rw [hAe]; exact Nat.not_le.mpr hbl
  have hl : lv_has ls 7 [(4, .int 0), (3, .ref ou), (2, .ref m0), (1, .ref x0), (0, .ref b)] := hl
  obtain ⟨a1, ea1⟩ : ∃ z, z = xs 1 := ⟨_, rfl⟩
  obtain ⟨a2, ea2⟩ : ∃ z, z = xs 2 := ⟨_, rfl⟩
  obtain ⟨a3, ea3⟩ : ∃ z, z = xs 3 := ⟨_, rfl⟩
  obtain ⟨a4, ea4⟩ : ∃ z, z = xs 4 := ⟨_, rfl⟩
  obtain ⟨a5, ea5⟩ : ∃ z, z = xs 5 := ⟨_, rfl⟩
  refine lv_aload_n hx hb dL_law_802 rfl (lv_at hl 3 rfl) ?_
  refine lv_aload_n hx hb dL_law_803 rfl (lv_at hl 4 rfl) ?_
  refine lv_iload hx hb dL_law_804 (lv_at hl 0 rfl) ?_
  refine lv_iconst (v := 1) hx hb dL_law_806 (by decide) ?_
  refine lv_iadd hx hb dL_law_807 ?_
  refine nq_top (z := 1) (by decide) ?_
  refine va_sld hx hb hX hbl hbA hS (i := 1) (nq_in (by decide)) dL_law_808 ?_
  refine nq_top (z := a1) (ea1.symm) ?_
  refine lv_aload_n hx hb dL_law_809 rfl (lv_at hl 4 rfl) ?_
  refine lv_iload hx hb dL_law_810 (lv_at hl 0 rfl) ?_
  refine lv_iconst (v := 2) hx hb dL_law_812 (by decide) ?_
  refine lv_iadd hx hb dL_law_813 ?_
  refine nq_top (z := 2) (by decide) ?_
  refine va_sld hx hb hX hbl hbA hS (i := 2) (nq_in (by decide)) dL_law_814 ?_
  refine nq_top (z := a2) (ea2.symm) ?_
  refine lv_aload_n hx hb dL_law_815 rfl (lv_at hl 1 rfl) ?_
  refine nq_wri (wr := [(m0, .inr (11, [.int 0, .ref m_tree, .ref m_data, .ref m_made, .ref m_status, .int 0, .ref m_tape, .ref m_paths, .ref m_pathSize, .null, .int 0, .int 0, .int 0, .int 0, .int 0, .int 0, .int 0, .int 0, .int 0, .int 0, .int 0, .int (-1), .int 0, .ref m_set, .ref m_to, .int 0, .int 0, .int 0, .int 0, .int 0, .int 0, .ref m_lifted, .int 0, .int 0, .int 0, .ref m_order, .int 0, .ref m_past, .int 0, .ref m_rowKind, .ref m_rowSteps, .ref m_rowPath, .ref m_rowWas, .ref m_rowIs, .ref m_pool, .ref m_rowsMany, .ref m_poolMany, .ref m_way, .int 0, .ref m_out, .int 0, .int 0, .ref m_notedThing, .ref m_notedIs, .ref m_votes, .int 0, .int 0, .ref m_treeThen, .int 0, .int 0, .int 0, .ref m_imageTree, .ref m_pastThen, .ref m_notedThingThen, .ref m_notedIsThen, .ref m_statusThen])), (m_pathSize, .inl (y 0, 4, .inl (fun _ => 0)))]) (w1 := (fun (g9 : Nat → Int64) => [(ou, .inl (y 1, 1, .inr (.inl g9)))])) (vx_runSW (hh := [(0, 10, 13, 19)]) (As := [.ref x0, .int a1, .int a2, .ref ou]) (rest := []) ⟨hx, hb, hml, hown, hts⟩ (w_steps l hl0 G y H.size x0 tp ps sp tk dr pr da nw im ac ke si tx an dw a1 a2 ou) (vx_cwSW 4 hts gv_L_steps_108 rfl rfl rfl (by decide +kernel) ⟨Nat.le_of_ble_eq_true rfl, Nat.le_of_ble_eq_true rfl⟩) (nq_PXS hK hP hD hS hA hXs [0, 1, 4] rfl rfl) rfl rfl hl.1 rfl (lv_room (Nat.le_of_ble_eq_true rfl)) dL_law_816 ⟨Nat.le_of_ble_eq_true rfl, Nat.le_of_ble_eq_true rfl⟩) hP hD hS hA [0, 1, 4] [2, 3] rfl rfl (by decide) (by decide) (fun r_1 g_3 H locs hw_2 hP hD hS => ?_)
  have hP : va_P G vwCl [(m0, .inr (11, [.int 0, .ref m_tree, .ref m_data, .ref m_made, .ref m_status, .int 0, .ref m_tape, .ref m_paths, .ref m_pathSize, .null, .int 0, .int 0, .int 0, .int 0, .int 0, .int 0, .int 0, .int 0, .int 0, .int 0, .int 0, .int (-1), .int 0, .ref m_set, .ref m_to, .int 0, .int 0, .int 0, .int 0, .int 0, .int 0, .ref m_lifted, .int 0, .int 0, .int 0, .ref m_order, .int 0, .ref m_past, .int 0, .ref m_rowKind, .ref m_rowSteps, .ref m_rowPath, .ref m_rowWas, .ref m_rowIs, .ref m_pool, .ref m_rowsMany, .ref m_poolMany, .ref m_way, .int 0, .ref m_out, .int 0, .int 0, .ref m_notedThing, .ref m_notedIs, .ref m_votes, .int 0, .int 0, .ref m_treeThen, .int 0, .int 0, .int 0, .ref m_imageTree, .ref m_pastThen, .ref m_notedThingThen, .ref m_notedIsThen, .ref m_statusThen])), (m_pathSize, .inl (y 0, 4, .inl (fun _ => 0))), (ou, .inl (y 1, 1, .inr (.inl g_3)))] H := hP
  have hD : va_D A [(m0, .inr (11, [.int 0, .ref m_tree, .ref m_data, .ref m_made, .ref m_status, .int 0, .ref m_tape, .ref m_paths, .ref m_pathSize, .null, .int 0, .int 0, .int 0, .int 0, .int 0, .int 0, .int 0, .int 0, .int 0, .int 0, .int 0, .int (-1), .int 0, .ref m_set, .ref m_to, .int 0, .int 0, .int 0, .int 0, .int 0, .int 0, .ref m_lifted, .int 0, .int 0, .int 0, .ref m_order, .int 0, .ref m_past, .int 0, .ref m_rowKind, .ref m_rowSteps, .ref m_rowPath, .ref m_rowWas, .ref m_rowIs, .ref m_pool, .ref m_rowsMany, .ref m_poolMany, .ref m_way, .int 0, .ref m_out, .int 0, .int 0, .ref m_notedThing, .ref m_notedIs, .ref m_votes, .int 0, .int 0, .ref m_treeThen, .int 0, .int 0, .int 0, .ref m_imageTree, .ref m_pastThen, .ref m_notedThingThen, .ref m_notedIsThen, .ref m_statusThen])), (m_pathSize, .inl (y 0, 4, .inl (fun _ => 0))), (ou, .inl (y 1, 1, .inr (.inl g_3)))] := hD
  refine lv_istore (lv' := [(5, .int r_1), (4, .int 0), (3, .ref ou), (2, .ref m0), (1, .ref x0), (0, .ref b)]) hx hb dL_law_819 hl (by decide) rfl (fun ls hl => ?_)
  refine lv_aload_n hx hb dL_law_821 rfl (lv_at hl 3 rfl) ?_
  refine lv_aload_n hx hb dL_law_822 rfl (lv_at hl 5 rfl) ?_
  refine lv_iload hx hb dL_law_823 (lv_at hl 1 rfl) ?_
  refine lv_iconst (v := 1) hx hb dL_law_825 (by decide) ?_
  refine lv_iadd hx hb dL_law_826 ?_
  refine nq_top (z := 1) (by decide) ?_
  refine va_sld hx hb hX hbl hbA hS (i := 1) (nq_in (by decide)) dL_law_827 ?_
  refine nq_top (z := a1) (ea1.symm) ?_
  refine lv_aload_n hx hb dL_law_828 rfl (lv_at hl 5 rfl) ?_
  refine lv_iload hx hb dL_law_829 (lv_at hl 1 rfl) ?_
  refine lv_iconst (v := 2) hx hb dL_law_831 (by decide) ?_
  refine lv_iadd hx hb dL_law_832 ?_
  refine nq_top (z := 2) (by decide) ?_
  refine va_sld hx hb hX hbl hbA hS (i := 2) (nq_in (by decide)) dL_law_833 ?_
  refine nq_top (z := a2) (ea2.symm) ?_
  refine nq_wri (wr := [(ou, .inl (y 1, 1, .inr (.inl g_3)))]) (va_runV (As := [.int a1, .int a2]) (rest := []) ⟨hx, hb, hml, hown, hts⟩ (m_steps l G y H.size m0 m_tree m_data m_made m_status m_tape m_paths m_pathSize m_set m_to m_lifted m_order m_past m_rowKind m_rowSteps m_rowPath m_rowWas m_rowIs m_pool m_rowsMany m_poolMany m_way m_out m_notedThing m_notedIs m_votes m_treeThen m_imageTree m_pastThen m_notedThingThen m_notedIsThen m_statusThen a1 a2 ) (cwV 2 hts gv_X11_steps_110 rfl rfl rfl (by decide +kernel) ⟨Nat.le_of_ble_eq_true rfl, Nat.le_of_ble_eq_true rfl⟩) (nq_PV hK hP hD [0, 1] rfl rfl 0 rfl rfl) rfl rfl hl.1 rfl (lv_room (Nat.le_of_ble_eq_true rfl)) dL_law_834 ⟨Nat.le_of_ble_eq_true rfl, Nat.le_of_ble_eq_true rfl⟩) hP hD hS hA [0, 1] [2] rfl rfl (by decide) (by decide) (fun r_6 u_4 H locs hw_5 hP hD hS => ?_)
  have hP : va_P G vwCl [(ou, .inl (y 1, 1, .inr (.inl g_3))), (m0, .inr (11, u_4.2))] H := hP
  have hD : va_D A [(ou, .inl (y 1, 1, .inr (.inl g_3))), (m0, .inr (11, u_4.2))] := hD
  obtain ⟨hq_7, hq_8, hq_9⟩ := hw_5
  subst hq_9
  refine lv_istore (lv' := [(6, .int ((sp_one a1 a2).2)), (5, .int r_1), (4, .int 0), (3, .ref ou), (2, .ref m0), (1, .ref x0), (0, .ref b)]) hx hb dL_law_837 hl (by decide) rfl (fun ls hl => ?_)
  refine lv_aload_n hx hb dL_law_839 rfl (lv_at hl 4 rfl) ?_
  refine nq_rdi (va_runV (As := []) (rest := []) ⟨hx, hb, hml, hown, hts⟩ (m_thrown l G y H.size m0 u_4 hq_7) (cwV 0 hts gv_X11_thrown_77 rfl rfl rfl (by decide +kernel) ⟨Nat.le_of_ble_eq_true rfl, Nat.le_of_ble_eq_true rfl⟩) (nq_PV hK hP hD [1] rfl rfl 1 rfl rfl) rfl rfl hl.1 rfl (lv_room (Nat.le_of_ble_eq_true rfl)) dL_law_840 ⟨Nat.le_of_ble_eq_true rfl, Nat.le_of_ble_eq_true rfl⟩) hP hS hA (fun r_10 H locs hw_11 hP hS => ?_)
  subst hw_11
  refine lv_iload hx hb dL_law_843 (lv_at hl 1 rfl) ?_
  refine lv_icmp_eq (tgt := 850) hx hb dL_law_845 (by decide) (fun _ => ?_) (fun c_12 => absurd (hq_8.trans hw_2.1.symm) c_12)
  refine lv_iload hx hb dL_law_850 (lv_at hl 1 rfl) ?_
  refine lv_if_ne (tgt := 867) hx hb dL_law_852 (by decide) (fun c_13 => ?_) (fun c_13 => ?_)
  · refine lv_goto (tgt := 1593) hx hb dL_law_867 (by decide) ?_
    refine lv_iinc (v := 6) (lv' := [(4, .int 6), (6, .int ((sp_one a1 a2).2)), (5, .int r_1), (3, .ref ou), (2, .ref m0), (1, .ref x0), (0, .ref b)]) hx hb dL_law_1593 hl (k := 2) rfl (by decide) (by decide) rfl (fun ls hl => ?_)
    refine lv_goto (tgt := 23) hx hb dL_law_1596 (by decide) ?_
    refine lv_iload hx hb dL_law_23 (lv_at hl 0 rfl) ?_
    refine lv_aload_n hx hb dL_law_25 rfl (lv_at hl 6 rfl) ?_
    refine va_slen hx hb hX hbl hbA hS dL_law_26 ?_
    refine nq_top (z := 6) (by decide) ?_
    refine lv_bipush (v := 6) hx hb dL_law_27 (by decide) ?_
    refine lv_isub hx hb dL_law_29 ?_
    refine nq_top (z := 0) (by decide) ?_
    refine lv_icmp_gt (tgt := 1599) hx hb dL_law_30 (by decide) (fun _ => ?_) (fun c_14 => absurd c_14 (by decide))
    refine lv_iconst (v := 1) hx hb dL_law_1599 (by decide) ?_
    refine va_forget (fun q hq => by have h9 := hS.2.2 q hq; rw [hAe] at h9; exact h9) ?_
    refine W.widen (k := 600002) (n := 7302232) (Nat.le_of_ble_eq_true rfl) (Nat.le_of_ble_eq_true rfl) ?_
    exact lw_ret hx hb hr hlocks dL_law_1600
  · subst c_13
    refine lv_aload_n hx hb dL_law_855 rfl (lv_at hl 3 rfl) ?_
    refine lv_iconst (v := 0) hx hb dL_law_856 (by decide) ?_
    refine va_lald hx hb hK.1 hP 0 1 rfl rfl (i := 0) (nq_in (by decide)) dL_law_857 ?_
    refine nq_topl (z := ((sp_one a1 a2).2).toInt64) (hw_2.2 rfl) ?_
    refine lv_iload hx hb dL_law_858 (lv_at hl 0 rfl) ?_
    refine lv_i2l (v := ((sp_one a1 a2).2).toInt64) hx hb dL_law_860 rfl ?_
    refine W.lcmp hx hb dL_law_861 ?_
    refine nq_top (z := 0) (nq_cmp _) ?_
    refine lv_if_eq (tgt := 867) hx hb dL_law_862 (by decide) (fun _ => ?_) (fun c_15 => absurd c_15 (by decide))
    refine lv_goto (tgt := 1593) hx hb dL_law_867 (by decide) ?_
    refine lv_iinc (v := 6) (lv' := [(4, .int 6), (6, .int ((sp_one a1 a2).2)), (5, .int 0), (3, .ref ou), (2, .ref m0), (1, .ref x0), (0, .ref b)]) hx hb dL_law_1593 hl (k := 2) rfl (by decide) (by decide) rfl (fun ls hl => ?_)
    refine lv_goto (tgt := 23) hx hb dL_law_1596 (by decide) ?_
    refine lv_iload hx hb dL_law_23 (lv_at hl 0 rfl) ?_
    refine lv_aload_n hx hb dL_law_25 rfl (lv_at hl 6 rfl) ?_
    refine va_slen hx hb hX hbl hbA hS dL_law_26 ?_
    refine nq_top (z := 6) (by decide) ?_
    refine lv_bipush (v := 6) hx hb dL_law_27 (by decide) ?_
    refine lv_isub hx hb dL_law_29 ?_
    refine nq_top (z := 0) (by decide) ?_
    refine lv_icmp_gt (tgt := 1599) hx hb dL_law_30 (by decide) (fun _ => ?_) (fun c_16 => absurd c_16 (by decide))
    refine lv_iconst (v := 1) hx hb dL_law_1599 (by decide) ?_
    refine va_forget (fun q hq => by have h9 := hS.2.2 q hq; rw [hAe] at h9; exact h9) ?_
    refine W.widen (k := 600002) (n := 7302232) (Nat.le_of_ble_eq_true rfl) (Nat.le_of_ble_eq_true rfl) ?_
    exact lw_ret hx hb hr hlocks dL_law_1600

set_option maxHeartbeats 400000 in
set_option maxRecDepth 100000 in
theorem lc_11 {p : Program} {e : Env} {s : State} {m : MethodId} {below : List Frame} {meth : Method} {c : Code} {l : Launch} {b : Nat} {xs : Nat → Int32} {G : va_G} {y : Nat → ClassId} {A : Nat → Prop} (hl0 : l.stackTraces = false) (C0 : lw_At p s m meth c b 6 xs) (hAe : A = fun q : Nat => s.heap.size ≤ q) (hK : nq_K G y s) (hXs : nq_X A s) (x0 : Nat) (tp : Nat) (ps : Nat) (sp : Nat) (tk : Nat) (dr : Nat) (pr : Nat) (da : Nat) (nw : Nat) (im : Nat) (ac : Nat) (ke : Nat) (si : Nat) (tx : Nat) (an : Nat) (dw : Nat) (ke1 : Nat) (ke2 : Nat) (ke3 : Nat) (ke4 : Nat) (m0 : Nat) (m_tree : Nat) (m_data : Nat) (m_made : Nat) (m_status : Nat) (m_tape : Nat) (m_paths : Nat) (m_pathSize : Nat) (m_set : Nat) (m_to : Nat) (m_lifted : Nat) (m_order : Nat) (m_past : Nat) (m_rowKind : Nat) (m_rowSteps : Nat) (m_rowPath : Nat) (m_rowWas : Nat) (m_rowIs : Nat) (m_pool : Nat) (m_rowsMany : Nat) (m_poolMany : Nat) (m_way : Nat) (m_out : Nat) (m_notedThing : Nat) (m_notedIs : Nat) (m_votes : Nat) (m_treeThen : Nat) (m_imageTree : Nat) (m_pastThen : Nat) (m_notedThingThen : Nat) (m_notedIsThen : Nat) (m_statusThen : Nat) (ou : Nat) (H : Heap) (locs : List Loc) (ls : Array Slot) (hP : va_P G vwCl [(x0, .inr (10, [.ref tp, .int 0, .int (-1), .ref ps, .ref sp, .ref tk, .ref dr, .ref pr, .ref da, .ref nw, .ref im, .int 0, .ref ac, .ref ke, .ref si, .ref tx, .ref an, .ref dw])), (ke, .inr (3, [.ref ke1, .ref ke2, .ref ke3, .ref ke4, .int 0])), (m0, .inr (11, [.int 0, .ref m_tree, .ref m_data, .ref m_made, .ref m_status, .int 0, .ref m_tape, .ref m_paths, .ref m_pathSize, .null, .int 0, .int 0, .int 0, .int 0, .int 0, .int 0, .int 0, .int 0, .int 0, .int 0, .int 0, .int (-1), .int 0, .ref m_set, .ref m_to, .int 0, .int 0, .int 0, .int 0, .int 0, .int 0, .ref m_lifted, .int 0, .int 0, .int 0, .ref m_order, .int 0, .ref m_past, .int 0, .ref m_rowKind, .ref m_rowSteps, .ref m_rowPath, .ref m_rowWas, .ref m_rowIs, .ref m_pool, .ref m_rowsMany, .ref m_poolMany, .ref m_way, .int 0, .ref m_out, .int 0, .int 0, .ref m_notedThing, .ref m_notedIs, .ref m_votes, .int 0, .int 0, .ref m_treeThen, .int 0, .int 0, .int 0, .ref m_imageTree, .ref m_pastThen, .ref m_notedThingThen, .ref m_notedIsThen, .ref m_statusThen])), (m_rowsMany, .inl (y 0, 2, .inl (fun _ => 0))), (ou, .inl (y 1, 1, .inr (.inl (fun _ => 0))))] H) (hD : va_D A [(x0, .inr (10, [.ref tp, .int 0, .int (-1), .ref ps, .ref sp, .ref tk, .ref dr, .ref pr, .ref da, .ref nw, .ref im, .int 0, .ref ac, .ref ke, .ref si, .ref tx, .ref an, .ref dw])), (ke, .inr (3, [.ref ke1, .ref ke2, .ref ke3, .ref ke4, .int 0])), (m0, .inr (11, [.int 0, .ref m_tree, .ref m_data, .ref m_made, .ref m_status, .int 0, .ref m_tape, .ref m_paths, .ref m_pathSize, .null, .int 0, .int 0, .int 0, .int 0, .int 0, .int 0, .int 0, .int 0, .int 0, .int 0, .int 0, .int (-1), .int 0, .ref m_set, .ref m_to, .int 0, .int 0, .int 0, .int 0, .int 0, .int 0, .ref m_lifted, .int 0, .int 0, .int 0, .ref m_order, .int 0, .ref m_past, .int 0, .ref m_rowKind, .ref m_rowSteps, .ref m_rowPath, .ref m_rowWas, .ref m_rowIs, .ref m_pool, .ref m_rowsMany, .ref m_poolMany, .ref m_way, .int 0, .ref m_out, .int 0, .int 0, .ref m_notedThing, .ref m_notedIs, .ref m_votes, .int 0, .int 0, .ref m_treeThen, .int 0, .int 0, .int 0, .ref m_imageTree, .ref m_pastThen, .ref m_notedThingThen, .ref m_notedIsThen, .ref m_statusThen])), (m_rowsMany, .inl (y 0, 2, .inl (fun _ => 0))), (ou, .inl (y 1, 1, .inr (.inl (fun _ => 0))))]) (hS : va_S A s.heap H locs) (hl : lv_has ls 7 [(4, .int 0), (3, .ref ou), (2, .ref m0), (1, .ref x0), (0, .ref b)]) : W p l e room_1 s m #[Value.ref b] below meth c H locs 121 52808 (lw_Z below #[Value.ref b] s) (F0 m 870 ls []) := by
  obtain ⟨hx, hb, hr, hml, hown, hts, hX, hbl, hlocks, hgv⟩ := C0
  have hA : ∀ q : Nat, s.heap.size ≤ q → A q := fun q h => by rw [hAe]; exact h
  have hbA : ¬ A b := by rw [hAe]; exact Nat.not_le.mpr hbl
  have hl : lv_has ls 7 [(4, .int 0), (3, .ref ou), (2, .ref m0), (1, .ref x0), (0, .ref b)] := hl
  obtain ⟨a1, ea1⟩ : ∃ z, z = xs 1 := ⟨_, rfl⟩
  obtain ⟨a2, ea2⟩ : ∃ z, z = xs 2 := ⟨_, rfl⟩
  obtain ⟨a3, ea3⟩ : ∃ z, z = xs 3 := ⟨_, rfl⟩
  obtain ⟨a4, ea4⟩ : ∃ z, z = xs 4 := ⟨_, rfl⟩
  obtain ⟨a5, ea5⟩ : ∃ z, z = xs 5 := ⟨_, rfl⟩
  refine lv_aload_n hx hb dL_law_870 rfl (lv_at hl 3 rfl) ?_
  refine lv_aload_n hx hb dL_law_871 rfl (lv_at hl 4 rfl) ?_
  refine lv_iload hx hb dL_law_872 (lv_at hl 0 rfl) ?_
  refine lv_iconst (v := 1) hx hb dL_law_874 (by decide) ?_
  refine lv_iadd hx hb dL_law_875 ?_
  refine nq_top (z := 1) (by decide) ?_
  refine va_sld hx hb hX hbl hbA hS (i := 1) (nq_in (by decide)) dL_law_876 ?_
  refine nq_top (z := a1) (ea1.symm) ?_
  refine lv_aload_n hx hb dL_law_877 rfl (lv_at hl 4 rfl) ?_
  refine lv_iload hx hb dL_law_878 (lv_at hl 0 rfl) ?_
  refine lv_iconst (v := 2) hx hb dL_law_880 (by decide) ?_
  refine lv_iadd hx hb dL_law_881 ?_
  refine nq_top (z := 2) (by decide) ?_
  refine va_sld hx hb hX hbl hbA hS (i := 2) (nq_in (by decide)) dL_law_882 ?_
  refine nq_top (z := a2) (ea2.symm) ?_
  refine lv_aload_n hx hb dL_law_883 rfl (lv_at hl 1 rfl) ?_
  refine nq_wri (wr := [(m0, .inr (11, [.int 0, .ref m_tree, .ref m_data, .ref m_made, .ref m_status, .int 0, .ref m_tape, .ref m_paths, .ref m_pathSize, .null, .int 0, .int 0, .int 0, .int 0, .int 0, .int 0, .int 0, .int 0, .int 0, .int 0, .int 0, .int (-1), .int 0, .ref m_set, .ref m_to, .int 0, .int 0, .int 0, .int 0, .int 0, .int 0, .ref m_lifted, .int 0, .int 0, .int 0, .ref m_order, .int 0, .ref m_past, .int 0, .ref m_rowKind, .ref m_rowSteps, .ref m_rowPath, .ref m_rowWas, .ref m_rowIs, .ref m_pool, .ref m_rowsMany, .ref m_poolMany, .ref m_way, .int 0, .ref m_out, .int 0, .int 0, .ref m_notedThing, .ref m_notedIs, .ref m_votes, .int 0, .int 0, .ref m_treeThen, .int 0, .int 0, .int 0, .ref m_imageTree, .ref m_pastThen, .ref m_notedThingThen, .ref m_notedIsThen, .ref m_statusThen])), (m_rowsMany, .inl (y 0, 2, .inl (fun _ => 0)))]) (w1 := (fun (g9 : Nat → Int64) => [(ou, .inl (y 1, 1, .inr (.inl g9)))])) (vx_runSW (hh := [(0, 10, 13, 19)]) (As := [.ref x0, .int a1, .int a2, .ref ou]) (rest := []) ⟨hx, hb, hml, hown, hts⟩ (w_row l hl0 G y H.size x0 tp ps sp tk dr pr da nw im ac ke si tx an dw ke1 ke2 ke3 ke4 a1 a2 ou) (vx_cwSW 4 hts gv_L_row_111 rfl rfl rfl (by decide +kernel) ⟨Nat.le_of_ble_eq_true rfl, Nat.le_of_ble_eq_true rfl⟩) (nq_PXS hK hP hD hS hA hXs [0, 1, 4] rfl rfl) rfl rfl hl.1 rfl (lv_room (Nat.le_of_ble_eq_true rfl)) dL_law_884 ⟨Nat.le_of_ble_eq_true rfl, Nat.le_of_ble_eq_true rfl⟩) hP hD hS hA [0, 1, 4] [2, 3] rfl rfl (by decide) (by decide) (fun r_1 g_3 H locs hw_2 hP hD hS => ?_)
  have hP : va_P G vwCl [(m0, .inr (11, [.int 0, .ref m_tree, .ref m_data, .ref m_made, .ref m_status, .int 0, .ref m_tape, .ref m_paths, .ref m_pathSize, .null, .int 0, .int 0, .int 0, .int 0, .int 0, .int 0, .int 0, .int 0, .int 0, .int 0, .int 0, .int (-1), .int 0, .ref m_set, .ref m_to, .int 0, .int 0, .int 0, .int 0, .int 0, .int 0, .ref m_lifted, .int 0, .int 0, .int 0, .ref m_order, .int 0, .ref m_past, .int 0, .ref m_rowKind, .ref m_rowSteps, .ref m_rowPath, .ref m_rowWas, .ref m_rowIs, .ref m_pool, .ref m_rowsMany, .ref m_poolMany, .ref m_way, .int 0, .ref m_out, .int 0, .int 0, .ref m_notedThing, .ref m_notedIs, .ref m_votes, .int 0, .int 0, .ref m_treeThen, .int 0, .int 0, .int 0, .ref m_imageTree, .ref m_pastThen, .ref m_notedThingThen, .ref m_notedIsThen, .ref m_statusThen])), (m_rowsMany, .inl (y 0, 2, .inl (fun _ => 0))), (ou, .inl (y 1, 1, .inr (.inl g_3)))] H := hP
  have hD : va_D A [(m0, .inr (11, [.int 0, .ref m_tree, .ref m_data, .ref m_made, .ref m_status, .int 0, .ref m_tape, .ref m_paths, .ref m_pathSize, .null, .int 0, .int 0, .int 0, .int 0, .int 0, .int 0, .int 0, .int 0, .int 0, .int 0, .int 0, .int (-1), .int 0, .ref m_set, .ref m_to, .int 0, .int 0, .int 0, .int 0, .int 0, .int 0, .ref m_lifted, .int 0, .int 0, .int 0, .ref m_order, .int 0, .ref m_past, .int 0, .ref m_rowKind, .ref m_rowSteps, .ref m_rowPath, .ref m_rowWas, .ref m_rowIs, .ref m_pool, .ref m_rowsMany, .ref m_poolMany, .ref m_way, .int 0, .ref m_out, .int 0, .int 0, .ref m_notedThing, .ref m_notedIs, .ref m_votes, .int 0, .int 0, .ref m_treeThen, .int 0, .int 0, .int 0, .ref m_imageTree, .ref m_pastThen, .ref m_notedThingThen, .ref m_notedIsThen, .ref m_statusThen])), (m_rowsMany, .inl (y 0, 2, .inl (fun _ => 0))), (ou, .inl (y 1, 1, .inr (.inl g_3)))] := hD
  refine lv_istore (lv' := [(5, .int r_1), (4, .int 0), (3, .ref ou), (2, .ref m0), (1, .ref x0), (0, .ref b)]) hx hb dL_law_887 hl (by decide) rfl (fun ls hl => ?_)
  refine lv_aload_n hx hb dL_law_889 rfl (lv_at hl 3 rfl) ?_
  refine lv_aload_n hx hb dL_law_890 rfl (lv_at hl 5 rfl) ?_
  refine lv_iload hx hb dL_law_891 (lv_at hl 1 rfl) ?_
  refine lv_iconst (v := 1) hx hb dL_law_893 (by decide) ?_
  refine lv_iadd hx hb dL_law_894 ?_
  refine nq_top (z := 1) (by decide) ?_
  refine va_sld hx hb hX hbl hbA hS (i := 1) (nq_in (by decide)) dL_law_895 ?_
  refine nq_top (z := a1) (ea1.symm) ?_
  refine lv_aload_n hx hb dL_law_896 rfl (lv_at hl 5 rfl) ?_
  refine lv_iload hx hb dL_law_897 (lv_at hl 1 rfl) ?_
  refine lv_iconst (v := 2) hx hb dL_law_899 (by decide) ?_
  refine lv_iadd hx hb dL_law_900 ?_
  refine nq_top (z := 2) (by decide) ?_
  refine va_sld hx hb hX hbl hbA hS (i := 2) (nq_in (by decide)) dL_law_901 ?_
  refine nq_top (z := a2) (ea2.symm) ?_
  refine nq_wri (wr := [(ou, .inl (y 1, 1, .inr (.inl g_3)))]) (va_runV (As := [.int a1, .int a2]) (rest := []) ⟨hx, hb, hml, hown, hts⟩ (m_row l G y H.size m0 m_tree m_data m_made m_status m_tape m_paths m_pathSize m_set m_to m_lifted m_order m_past m_rowKind m_rowSteps m_rowPath m_rowWas m_rowIs m_pool m_rowsMany m_poolMany m_way m_out m_notedThing m_notedIs m_votes m_treeThen m_imageTree m_pastThen m_notedThingThen m_notedIsThen m_statusThen a1 a2 ) (cwV 2 hts gv_X11_row_113 rfl rfl rfl (by decide +kernel) ⟨Nat.le_of_ble_eq_true rfl, Nat.le_of_ble_eq_true rfl⟩) (nq_PV hK hP hD [0, 1] rfl rfl 0 rfl rfl) rfl rfl hl.1 rfl (lv_room (Nat.le_of_ble_eq_true rfl)) dL_law_902 ⟨Nat.le_of_ble_eq_true rfl, Nat.le_of_ble_eq_true rfl⟩) hP hD hS hA [0, 1] [2] rfl rfl (by decide) (by decide) (fun r_6 u_4 H locs hw_5 hP hD hS => ?_)
  have hP : va_P G vwCl [(ou, .inl (y 1, 1, .inr (.inl g_3))), (m0, .inr (11, u_4.2))] H := hP
  have hD : va_D A [(ou, .inl (y 1, 1, .inr (.inl g_3))), (m0, .inr (11, u_4.2))] := hD
  obtain ⟨hq_7, hq_8, hq_9⟩ := hw_5
  subst hq_9
  refine lv_istore (lv' := [(6, .int ((sp_one a1 a2).2)), (5, .int r_1), (4, .int 0), (3, .ref ou), (2, .ref m0), (1, .ref x0), (0, .ref b)]) hx hb dL_law_905 hl (by decide) rfl (fun ls hl => ?_)
  refine lv_aload_n hx hb dL_law_907 rfl (lv_at hl 4 rfl) ?_
  refine nq_rdi (va_runV (As := []) (rest := []) ⟨hx, hb, hml, hown, hts⟩ (m_thrown l G y H.size m0 u_4 hq_7) (cwV 0 hts gv_X11_thrown_77 rfl rfl rfl (by decide +kernel) ⟨Nat.le_of_ble_eq_true rfl, Nat.le_of_ble_eq_true rfl⟩) (nq_PV hK hP hD [1] rfl rfl 1 rfl rfl) rfl rfl hl.1 rfl (lv_room (Nat.le_of_ble_eq_true rfl)) dL_law_908 ⟨Nat.le_of_ble_eq_true rfl, Nat.le_of_ble_eq_true rfl⟩) hP hS hA (fun r_10 H locs hw_11 hP hS => ?_)
  subst hw_11
  refine lv_iload hx hb dL_law_911 (lv_at hl 1 rfl) ?_
  refine lv_icmp_eq (tgt := 918) hx hb dL_law_913 (by decide) (fun _ => ?_) (fun c_12 => absurd (hq_8.trans hw_2.1.symm) c_12)
  refine lv_iload hx hb dL_law_918 (lv_at hl 1 rfl) ?_
  refine lv_if_ne (tgt := 935) hx hb dL_law_920 (by decide) (fun c_13 => ?_) (fun c_13 => ?_)
  · refine lv_goto (tgt := 1593) hx hb dL_law_935 (by decide) ?_
    refine lv_iinc (v := 6) (lv' := [(4, .int 6), (6, .int ((sp_one a1 a2).2)), (5, .int r_1), (3, .ref ou), (2, .ref m0), (1, .ref x0), (0, .ref b)]) hx hb dL_law_1593 hl (k := 2) rfl (by decide) (by decide) rfl (fun ls hl => ?_)
    refine lv_goto (tgt := 23) hx hb dL_law_1596 (by decide) ?_
    refine lv_iload hx hb dL_law_23 (lv_at hl 0 rfl) ?_
    refine lv_aload_n hx hb dL_law_25 rfl (lv_at hl 6 rfl) ?_
    refine va_slen hx hb hX hbl hbA hS dL_law_26 ?_
    refine nq_top (z := 6) (by decide) ?_
    refine lv_bipush (v := 6) hx hb dL_law_27 (by decide) ?_
    refine lv_isub hx hb dL_law_29 ?_
    refine nq_top (z := 0) (by decide) ?_
    refine lv_icmp_gt (tgt := 1599) hx hb dL_law_30 (by decide) (fun _ => ?_) (fun c_14 => absurd c_14 (by decide))
    refine lv_iconst (v := 1) hx hb dL_law_1599 (by decide) ?_
    refine va_forget (fun q hq => by have h9 := hS.2.2 q hq; rw [hAe] at h9; exact h9) ?_
    refine W.widen (k := 600002) (n := 7302232) (Nat.le_of_ble_eq_true rfl) (Nat.le_of_ble_eq_true rfl) ?_
    exact lw_ret hx hb hr hlocks dL_law_1600
  · subst c_13
    refine lv_aload_n hx hb dL_law_923 rfl (lv_at hl 3 rfl) ?_
    refine lv_iconst (v := 0) hx hb dL_law_924 (by decide) ?_
    refine va_lald hx hb hK.1 hP 0 1 rfl rfl (i := 0) (nq_in (by decide)) dL_law_925 ?_
    refine nq_topl (z := ((sp_one a1 a2).2).toInt64) (hw_2.2 rfl) ?_
    refine lv_iload hx hb dL_law_926 (lv_at hl 0 rfl) ?_
    refine lv_i2l (v := ((sp_one a1 a2).2).toInt64) hx hb dL_law_928 rfl ?_
    refine W.lcmp hx hb dL_law_929 ?_
    refine nq_top (z := 0) (nq_cmp _) ?_
    refine lv_if_eq (tgt := 935) hx hb dL_law_930 (by decide) (fun _ => ?_) (fun c_15 => absurd c_15 (by decide))
    refine lv_goto (tgt := 1593) hx hb dL_law_935 (by decide) ?_
    refine lv_iinc (v := 6) (lv' := [(4, .int 6), (6, .int ((sp_one a1 a2).2)), (5, .int 0), (3, .ref ou), (2, .ref m0), (1, .ref x0), (0, .ref b)]) hx hb dL_law_1593 hl (k := 2) rfl (by decide) (by decide) rfl (fun ls hl => ?_)
    refine lv_goto (tgt := 23) hx hb dL_law_1596 (by decide) ?_
    refine lv_iload hx hb dL_law_23 (lv_at hl 0 rfl) ?_
    refine lv_aload_n hx hb dL_law_25 rfl (lv_at hl 6 rfl) ?_
    refine va_slen hx hb hX hbl hbA hS dL_law_26 ?_
    refine nq_top (z := 6) (by decide) ?_
    refine lv_bipush (v := 6) hx hb dL_law_27 (by decide) ?_
    refine lv_isub hx hb dL_law_29 ?_
    refine nq_top (z := 0) (by decide) ?_
    refine lv_icmp_gt (tgt := 1599) hx hb dL_law_30 (by decide) (fun _ => ?_) (fun c_16 => absurd c_16 (by decide))
    refine lv_iconst (v := 1) hx hb dL_law_1599 (by decide) ?_
    refine va_forget (fun q hq => by have h9 := hS.2.2 q hq; rw [hAe] at h9; exact h9) ?_
    refine W.widen (k := 600002) (n := 7302232) (Nat.le_of_ble_eq_true rfl) (Nat.le_of_ble_eq_true rfl) ?_
    exact lw_ret hx hb hr hlocks dL_law_1600

set_option maxHeartbeats 400000 in
set_option maxRecDepth 100000 in
theorem lc_12 {p : Program} {e : Env} {s : State} {m : MethodId} {below : List Frame} {meth : Method} {c : Code} {l : Launch} {b : Nat} {xs : Nat → Int32} {G : va_G} {y : Nat → ClassId} {A : Nat → Prop} (hl0 : l.stackTraces = false) (C0 : lw_At p s m meth c b 6 xs) (hAe : A = fun q : Nat => s.heap.size ≤ q) (hK : nq_K G y s) (hXs : nq_X A s) (x0 : Nat) (tp : Nat) (ps : Nat) (sp : Nat) (tk : Nat) (dr : Nat) (pr : Nat) (da : Nat) (nw : Nat) (im : Nat) (ac : Nat) (ke : Nat) (si : Nat) (tx : Nat) (an : Nat) (dw : Nat) (ke1 : Nat) (ke2 : Nat) (ke3 : Nat) (ke4 : Nat) (m0 : Nat) (m_tree : Nat) (m_data : Nat) (m_made : Nat) (m_status : Nat) (m_tape : Nat) (m_paths : Nat) (m_pathSize : Nat) (m_set : Nat) (m_to : Nat) (m_lifted : Nat) (m_order : Nat) (m_past : Nat) (m_rowKind : Nat) (m_rowSteps : Nat) (m_rowPath : Nat) (m_rowWas : Nat) (m_rowIs : Nat) (m_pool : Nat) (m_rowsMany : Nat) (m_poolMany : Nat) (m_way : Nat) (m_out : Nat) (m_notedThing : Nat) (m_notedIs : Nat) (m_votes : Nat) (m_treeThen : Nat) (m_imageTree : Nat) (m_pastThen : Nat) (m_notedThingThen : Nat) (m_notedIsThen : Nat) (m_statusThen : Nat) (ou : Nat) (H : Heap) (locs : List Loc) (ls : Array Slot) (hP : va_P G vwCl [(x0, .inr (10, [.ref tp, .int 0, .int (-1), .ref ps, .ref sp, .ref tk, .ref dr, .ref pr, .ref da, .ref nw, .ref im, .int 0, .ref ac, .ref ke, .ref si, .ref tx, .ref an, .ref dw])), (ke, .inr (3, [.ref ke1, .ref ke2, .ref ke3, .ref ke4, .int 0])), (m0, .inr (11, [.int 0, .ref m_tree, .ref m_data, .ref m_made, .ref m_status, .int 0, .ref m_tape, .ref m_paths, .ref m_pathSize, .null, .int 0, .int 0, .int 0, .int 0, .int 0, .int 0, .int 0, .int 0, .int 0, .int 0, .int 0, .int (-1), .int 0, .ref m_set, .ref m_to, .int 0, .int 0, .int 0, .int 0, .int 0, .int 0, .ref m_lifted, .int 0, .int 0, .int 0, .ref m_order, .int 0, .ref m_past, .int 0, .ref m_rowKind, .ref m_rowSteps, .ref m_rowPath, .ref m_rowWas, .ref m_rowIs, .ref m_pool, .ref m_rowsMany, .ref m_poolMany, .ref m_way, .int 0, .ref m_out, .int 0, .int 0, .ref m_notedThing, .ref m_notedIs, .ref m_votes, .int 0, .int 0, .ref m_treeThen, .int 0, .int 0, .int 0, .ref m_imageTree, .ref m_pastThen, .ref m_notedThingThen, .ref m_notedIsThen, .ref m_statusThen])), (m_rowsMany, .inl (y 0, 2, .inl (fun _ => 0))), (ou, .inl (y 1, 1, .inr (.inl (fun _ => 0))))] H) (hD : va_D A [(x0, .inr (10, [.ref tp, .int 0, .int (-1), .ref ps, .ref sp, .ref tk, .ref dr, .ref pr, .ref da, .ref nw, .ref im, .int 0, .ref ac, .ref ke, .ref si, .ref tx, .ref an, .ref dw])), (ke, .inr (3, [.ref ke1, .ref ke2, .ref ke3, .ref ke4, .int 0])), (m0, .inr (11, [.int 0, .ref m_tree, .ref m_data, .ref m_made, .ref m_status, .int 0, .ref m_tape, .ref m_paths, .ref m_pathSize, .null, .int 0, .int 0, .int 0, .int 0, .int 0, .int 0, .int 0, .int 0, .int 0, .int 0, .int 0, .int (-1), .int 0, .ref m_set, .ref m_to, .int 0, .int 0, .int 0, .int 0, .int 0, .int 0, .ref m_lifted, .int 0, .int 0, .int 0, .ref m_order, .int 0, .ref m_past, .int 0, .ref m_rowKind, .ref m_rowSteps, .ref m_rowPath, .ref m_rowWas, .ref m_rowIs, .ref m_pool, .ref m_rowsMany, .ref m_poolMany, .ref m_way, .int 0, .ref m_out, .int 0, .int 0, .ref m_notedThing, .ref m_notedIs, .ref m_votes, .int 0, .int 0, .ref m_treeThen, .int 0, .int 0, .int 0, .ref m_imageTree, .ref m_pastThen, .ref m_notedThingThen, .ref m_notedIsThen, .ref m_statusThen])), (m_rowsMany, .inl (y 0, 2, .inl (fun _ => 0))), (ou, .inl (y 1, 1, .inr (.inl (fun _ => 0))))]) (hS : va_S A s.heap H locs) (hl : lv_has ls 7 [(4, .int 0), (3, .ref ou), (2, .ref m0), (1, .ref x0), (0, .ref b)]) : W p l e room_1 s m #[Value.ref b] below meth c H locs 121 52808 (lw_Z below #[Value.ref b] s) (F0 m 938 ls []) := by
  obtain ⟨hx, hb, hr, hml, hown, hts, hX, hbl, hlocks, hgv⟩ := C0
  have hA : ∀ q : Nat, s.heap.size ≤ q → A q := fun q h => by rw [hAe]; exact h
  have hbA : ¬ A b := by rw [hAe]; exact Nat.not_le.mpr hbl
  have hl : lv_has ls 7 [(4, .int 0), (3, .ref ou), (2, .ref m0), (1, .ref x0), (0, .ref b)] := hl
  obtain ⟨a1, ea1⟩ : ∃ z, z = xs 1 := ⟨_, rfl⟩
  obtain ⟨a2, ea2⟩ : ∃ z, z = xs 2 := ⟨_, rfl⟩
  obtain ⟨a3, ea3⟩ : ∃ z, z = xs 3 := ⟨_, rfl⟩
  obtain ⟨a4, ea4⟩ : ∃ z, z = xs 4 := ⟨_, rfl⟩
  obtain ⟨a5, ea5⟩ : ∃ z, z = xs 5 := ⟨_, rfl⟩
  refine lv_aload_n hx hb dL_law_938 rfl (lv_at hl 3 rfl) ?_
  refine lv_aload_n hx hb dL_law_939 rfl (lv_at hl 4 rfl) ?_
  refine lv_iload hx hb dL_law_940 (lv_at hl 0 rfl) ?_
  refine lv_iconst (v := 1) hx hb dL_law_942 (by decide) ?_
  refine lv_iadd hx hb dL_law_943 ?_
  refine nq_top (z := 1) (by decide) ?_
  refine va_sld hx hb hX hbl hbA hS (i := 1) (nq_in (by decide)) dL_law_944 ?_
  refine nq_top (z := a1) (ea1.symm) ?_
  refine lv_aload_n hx hb dL_law_945 rfl (lv_at hl 4 rfl) ?_
  refine lv_iload hx hb dL_law_946 (lv_at hl 0 rfl) ?_
  refine lv_iconst (v := 2) hx hb dL_law_948 (by decide) ?_
  refine lv_iadd hx hb dL_law_949 ?_
  refine nq_top (z := 2) (by decide) ?_
  refine va_sld hx hb hX hbl hbA hS (i := 2) (nq_in (by decide)) dL_law_950 ?_
  refine nq_top (z := a2) (ea2.symm) ?_
  refine lv_aload_n hx hb dL_law_951 rfl (lv_at hl 1 rfl) ?_
  refine nq_wri (wr := [(m0, .inr (11, [.int 0, .ref m_tree, .ref m_data, .ref m_made, .ref m_status, .int 0, .ref m_tape, .ref m_paths, .ref m_pathSize, .null, .int 0, .int 0, .int 0, .int 0, .int 0, .int 0, .int 0, .int 0, .int 0, .int 0, .int 0, .int (-1), .int 0, .ref m_set, .ref m_to, .int 0, .int 0, .int 0, .int 0, .int 0, .int 0, .ref m_lifted, .int 0, .int 0, .int 0, .ref m_order, .int 0, .ref m_past, .int 0, .ref m_rowKind, .ref m_rowSteps, .ref m_rowPath, .ref m_rowWas, .ref m_rowIs, .ref m_pool, .ref m_rowsMany, .ref m_poolMany, .ref m_way, .int 0, .ref m_out, .int 0, .int 0, .ref m_notedThing, .ref m_notedIs, .ref m_votes, .int 0, .int 0, .ref m_treeThen, .int 0, .int 0, .int 0, .ref m_imageTree, .ref m_pastThen, .ref m_notedThingThen, .ref m_notedIsThen, .ref m_statusThen])), (m_rowsMany, .inl (y 0, 2, .inl (fun _ => 0)))]) (w1 := (fun (g9 : Nat → Int64) => [(ou, .inl (y 1, 1, .inr (.inl g9)))])) (vx_runSW (hh := [(0, 10, 13, 19)]) (As := [.ref x0, .int a1, .int a2, .ref ou]) (rest := []) ⟨hx, hb, hml, hown, hts⟩ (w_rowText l hl0 G y H.size x0 tp ps sp tk dr pr da nw im ac ke si tx an dw ke1 ke2 ke3 ke4 a1 a2 ou) (vx_cwSW 4 hts gv_L_rowText_114 rfl rfl rfl (by decide +kernel) ⟨Nat.le_of_ble_eq_true rfl, Nat.le_of_ble_eq_true rfl⟩) (nq_PXS hK hP hD hS hA hXs [0, 1, 4] rfl rfl) rfl rfl hl.1 rfl (lv_room (Nat.le_of_ble_eq_true rfl)) dL_law_952 ⟨Nat.le_of_ble_eq_true rfl, Nat.le_of_ble_eq_true rfl⟩) hP hD hS hA [0, 1, 4] [2, 3] rfl rfl (by decide) (by decide) (fun r_1 g_3 H locs hw_2 hP hD hS => ?_)
  have hP : va_P G vwCl [(m0, .inr (11, [.int 0, .ref m_tree, .ref m_data, .ref m_made, .ref m_status, .int 0, .ref m_tape, .ref m_paths, .ref m_pathSize, .null, .int 0, .int 0, .int 0, .int 0, .int 0, .int 0, .int 0, .int 0, .int 0, .int 0, .int 0, .int (-1), .int 0, .ref m_set, .ref m_to, .int 0, .int 0, .int 0, .int 0, .int 0, .int 0, .ref m_lifted, .int 0, .int 0, .int 0, .ref m_order, .int 0, .ref m_past, .int 0, .ref m_rowKind, .ref m_rowSteps, .ref m_rowPath, .ref m_rowWas, .ref m_rowIs, .ref m_pool, .ref m_rowsMany, .ref m_poolMany, .ref m_way, .int 0, .ref m_out, .int 0, .int 0, .ref m_notedThing, .ref m_notedIs, .ref m_votes, .int 0, .int 0, .ref m_treeThen, .int 0, .int 0, .int 0, .ref m_imageTree, .ref m_pastThen, .ref m_notedThingThen, .ref m_notedIsThen, .ref m_statusThen])), (m_rowsMany, .inl (y 0, 2, .inl (fun _ => 0))), (ou, .inl (y 1, 1, .inr (.inl g_3)))] H := hP
  have hD : va_D A [(m0, .inr (11, [.int 0, .ref m_tree, .ref m_data, .ref m_made, .ref m_status, .int 0, .ref m_tape, .ref m_paths, .ref m_pathSize, .null, .int 0, .int 0, .int 0, .int 0, .int 0, .int 0, .int 0, .int 0, .int 0, .int 0, .int 0, .int (-1), .int 0, .ref m_set, .ref m_to, .int 0, .int 0, .int 0, .int 0, .int 0, .int 0, .ref m_lifted, .int 0, .int 0, .int 0, .ref m_order, .int 0, .ref m_past, .int 0, .ref m_rowKind, .ref m_rowSteps, .ref m_rowPath, .ref m_rowWas, .ref m_rowIs, .ref m_pool, .ref m_rowsMany, .ref m_poolMany, .ref m_way, .int 0, .ref m_out, .int 0, .int 0, .ref m_notedThing, .ref m_notedIs, .ref m_votes, .int 0, .int 0, .ref m_treeThen, .int 0, .int 0, .int 0, .ref m_imageTree, .ref m_pastThen, .ref m_notedThingThen, .ref m_notedIsThen, .ref m_statusThen])), (m_rowsMany, .inl (y 0, 2, .inl (fun _ => 0))), (ou, .inl (y 1, 1, .inr (.inl g_3)))] := hD
  refine lv_istore (lv' := [(5, .int r_1), (4, .int 0), (3, .ref ou), (2, .ref m0), (1, .ref x0), (0, .ref b)]) hx hb dL_law_955 hl (by decide) rfl (fun ls hl => ?_)
  refine lv_aload_n hx hb dL_law_957 rfl (lv_at hl 3 rfl) ?_
  refine lv_aload_n hx hb dL_law_958 rfl (lv_at hl 5 rfl) ?_
  refine lv_iload hx hb dL_law_959 (lv_at hl 1 rfl) ?_
  refine lv_iconst (v := 1) hx hb dL_law_961 (by decide) ?_
  refine lv_iadd hx hb dL_law_962 ?_
  refine nq_top (z := 1) (by decide) ?_
  refine va_sld hx hb hX hbl hbA hS (i := 1) (nq_in (by decide)) dL_law_963 ?_
  refine nq_top (z := a1) (ea1.symm) ?_
  refine lv_aload_n hx hb dL_law_964 rfl (lv_at hl 5 rfl) ?_
  refine lv_iload hx hb dL_law_965 (lv_at hl 1 rfl) ?_
  refine lv_iconst (v := 2) hx hb dL_law_967 (by decide) ?_
  refine lv_iadd hx hb dL_law_968 ?_
  refine nq_top (z := 2) (by decide) ?_
  refine va_sld hx hb hX hbl hbA hS (i := 2) (nq_in (by decide)) dL_law_969 ?_
  refine nq_top (z := a2) (ea2.symm) ?_
  refine nq_wri (wr := [(ou, .inl (y 1, 1, .inr (.inl g_3)))]) (va_runV (As := [.int a1, .int a2]) (rest := []) ⟨hx, hb, hml, hown, hts⟩ (m_rowText l G y H.size m0 m_tree m_data m_made m_status m_tape m_paths m_pathSize m_set m_to m_lifted m_order m_past m_rowKind m_rowSteps m_rowPath m_rowWas m_rowIs m_pool m_rowsMany m_poolMany m_way m_out m_notedThing m_notedIs m_votes m_treeThen m_imageTree m_pastThen m_notedThingThen m_notedIsThen m_statusThen a1 a2 ) (cwV 2 hts gv_X11_rowText_116 rfl rfl rfl (by decide +kernel) ⟨Nat.le_of_ble_eq_true rfl, Nat.le_of_ble_eq_true rfl⟩) (nq_PV hK hP hD [0, 1] rfl rfl 0 rfl rfl) rfl rfl hl.1 rfl (lv_room (Nat.le_of_ble_eq_true rfl)) dL_law_970 ⟨Nat.le_of_ble_eq_true rfl, Nat.le_of_ble_eq_true rfl⟩) hP hD hS hA [0, 1] [2] rfl rfl (by decide) (by decide) (fun r_6 u_4 H locs hw_5 hP hD hS => ?_)
  have hP : va_P G vwCl [(ou, .inl (y 1, 1, .inr (.inl g_3))), (m0, .inr (11, u_4.2))] H := hP
  have hD : va_D A [(ou, .inl (y 1, 1, .inr (.inl g_3))), (m0, .inr (11, u_4.2))] := hD
  obtain ⟨hq_7, hq_8, hq_9⟩ := hw_5
  subst hq_9
  refine lv_istore (lv' := [(6, .int ((sp_one a1 a2).2)), (5, .int r_1), (4, .int 0), (3, .ref ou), (2, .ref m0), (1, .ref x0), (0, .ref b)]) hx hb dL_law_973 hl (by decide) rfl (fun ls hl => ?_)
  refine lv_aload_n hx hb dL_law_975 rfl (lv_at hl 4 rfl) ?_
  refine nq_rdi (va_runV (As := []) (rest := []) ⟨hx, hb, hml, hown, hts⟩ (m_thrown l G y H.size m0 u_4 hq_7) (cwV 0 hts gv_X11_thrown_77 rfl rfl rfl (by decide +kernel) ⟨Nat.le_of_ble_eq_true rfl, Nat.le_of_ble_eq_true rfl⟩) (nq_PV hK hP hD [1] rfl rfl 1 rfl rfl) rfl rfl hl.1 rfl (lv_room (Nat.le_of_ble_eq_true rfl)) dL_law_976 ⟨Nat.le_of_ble_eq_true rfl, Nat.le_of_ble_eq_true rfl⟩) hP hS hA (fun r_10 H locs hw_11 hP hS => ?_)
  subst hw_11
  refine lv_iload hx hb dL_law_979 (lv_at hl 1 rfl) ?_
  refine lv_icmp_eq (tgt := 986) hx hb dL_law_981 (by decide) (fun _ => ?_) (fun c_12 => absurd (hq_8.trans hw_2.1.symm) c_12)
  refine lv_iload hx hb dL_law_986 (lv_at hl 1 rfl) ?_
  refine lv_if_ne (tgt := 1003) hx hb dL_law_988 (by decide) (fun c_13 => ?_) (fun c_13 => ?_)
  · refine lv_goto (tgt := 1593) hx hb dL_law_1003 (by decide) ?_
    refine lv_iinc (v := 6) (lv' := [(4, .int 6), (6, .int ((sp_one a1 a2).2)), (5, .int r_1), (3, .ref ou), (2, .ref m0), (1, .ref x0), (0, .ref b)]) hx hb dL_law_1593 hl (k := 2) rfl (by decide) (by decide) rfl (fun ls hl => ?_)
    refine lv_goto (tgt := 23) hx hb dL_law_1596 (by decide) ?_
    refine lv_iload hx hb dL_law_23 (lv_at hl 0 rfl) ?_
    refine lv_aload_n hx hb dL_law_25 rfl (lv_at hl 6 rfl) ?_
    refine va_slen hx hb hX hbl hbA hS dL_law_26 ?_
    refine nq_top (z := 6) (by decide) ?_
    refine lv_bipush (v := 6) hx hb dL_law_27 (by decide) ?_
    refine lv_isub hx hb dL_law_29 ?_
    refine nq_top (z := 0) (by decide) ?_
    refine lv_icmp_gt (tgt := 1599) hx hb dL_law_30 (by decide) (fun _ => ?_) (fun c_14 => absurd c_14 (by decide))
    refine lv_iconst (v := 1) hx hb dL_law_1599 (by decide) ?_
    refine va_forget (fun q hq => by have h9 := hS.2.2 q hq; rw [hAe] at h9; exact h9) ?_
    refine W.widen (k := 600002) (n := 7302232) (Nat.le_of_ble_eq_true rfl) (Nat.le_of_ble_eq_true rfl) ?_
    exact lw_ret hx hb hr hlocks dL_law_1600
  · subst c_13
    refine lv_aload_n hx hb dL_law_991 rfl (lv_at hl 3 rfl) ?_
    refine lv_iconst (v := 0) hx hb dL_law_992 (by decide) ?_
    refine va_lald hx hb hK.1 hP 0 1 rfl rfl (i := 0) (nq_in (by decide)) dL_law_993 ?_
    refine nq_topl (z := ((sp_one a1 a2).2).toInt64) (hw_2.2 rfl) ?_
    refine lv_iload hx hb dL_law_994 (lv_at hl 0 rfl) ?_
    refine lv_i2l (v := ((sp_one a1 a2).2).toInt64) hx hb dL_law_996 rfl ?_
    refine W.lcmp hx hb dL_law_997 ?_
    refine nq_top (z := 0) (nq_cmp _) ?_
    refine lv_if_eq (tgt := 1003) hx hb dL_law_998 (by decide) (fun _ => ?_) (fun c_15 => absurd c_15 (by decide))
    refine lv_goto (tgt := 1593) hx hb dL_law_1003 (by decide) ?_
    refine lv_iinc (v := 6) (lv' := [(4, .int 6), (6, .int ((sp_one a1 a2).2)), (5, .int 0), (3, .ref ou), (2, .ref m0), (1, .ref x0), (0, .ref b)]) hx hb dL_law_1593 hl (k := 2) rfl (by decide) (by decide) rfl (fun ls hl => ?_)
    refine lv_goto (tgt := 23) hx hb dL_law_1596 (by decide) ?_
    refine lv_iload hx hb dL_law_23 (lv_at hl 0 rfl) ?_
    refine lv_aload_n hx hb dL_law_25 rfl (lv_at hl 6 rfl) ?_
    refine va_slen hx hb hX hbl hbA hS dL_law_26 ?_
    refine nq_top (z := 6) (by decide) ?_
    refine lv_bipush (v := 6) hx hb dL_law_27 (by decide) ?_
    refine lv_isub hx hb dL_law_29 ?_
    refine nq_top (z := 0) (by decide) ?_
    refine lv_icmp_gt (tgt := 1599) hx hb dL_law_30 (by decide) (fun _ => ?_) (fun c_16 => absurd c_16 (by decide))
    refine lv_iconst (v := 1) hx hb dL_law_1599 (by decide) ?_
    refine va_forget (fun q hq => by have h9 := hS.2.2 q hq; rw [hAe] at h9; exact h9) ?_
    refine W.widen (k := 600002) (n := 7302232) (Nat.le_of_ble_eq_true rfl) (Nat.le_of_ble_eq_true rfl) ?_
    exact lw_ret hx hb hr hlocks dL_law_1600

set_option maxHeartbeats 400000 in
set_option maxRecDepth 100000 in
theorem lc_13 {p : Program} {e : Env} {s : State} {m : MethodId} {below : List Frame} {meth : Method} {c : Code} {l : Launch} {b : Nat} {xs : Nat → Int32} {G : va_G} {y : Nat → ClassId} {A : Nat → Prop} (hl0 : l.stackTraces = false) (C0 : lw_At p s m meth c b 6 xs) (hAe : A = fun q : Nat => s.heap.size ≤ q) (hK : nq_K G y s) (hXs : nq_X A s) (x0 : Nat) (tp : Nat) (ps : Nat) (sp : Nat) (tk : Nat) (dr : Nat) (pr : Nat) (da : Nat) (nw : Nat) (im : Nat) (ac : Nat) (ke : Nat) (si : Nat) (tx : Nat) (an : Nat) (dw : Nat) (nwt : Nat) (nwb : Nat) (nwn : Nat) (nwi : Nat) (nwr : Nat) (m0 : Nat) (m_tree : Nat) (m_data : Nat) (m_made : Nat) (m_status : Nat) (m_tape : Nat) (m_paths : Nat) (m_pathSize : Nat) (m_set : Nat) (m_to : Nat) (m_lifted : Nat) (m_order : Nat) (m_past : Nat) (m_rowKind : Nat) (m_rowSteps : Nat) (m_rowPath : Nat) (m_rowWas : Nat) (m_rowIs : Nat) (m_pool : Nat) (m_rowsMany : Nat) (m_poolMany : Nat) (m_way : Nat) (m_out : Nat) (m_notedThing : Nat) (m_notedIs : Nat) (m_votes : Nat) (m_treeThen : Nat) (m_imageTree : Nat) (m_pastThen : Nat) (m_notedThingThen : Nat) (m_notedIsThen : Nat) (m_statusThen : Nat) (ou : Nat) (H : Heap) (locs : List Loc) (ls : Array Slot) (hP : va_P G vwCl [(x0, .inr (10, [.ref tp, .int 0, .int (-1), .ref ps, .ref sp, .ref tk, .ref dr, .ref pr, .ref da, .ref nw, .ref im, .int 0, .ref ac, .ref ke, .ref si, .ref tx, .ref an, .ref dw])), (ps, .inl (y 3, 4, .inr (.inr (.inr (.inr (fun _ => none)))))), (nw, .inr (6, [.ref nwt, .ref nwb, .int 0, .ref nwn, .ref nwi, .int 0, .ref nwr])), (nwr, .inl (y 0, 3, .inl (fun _ => 0))), (m0, .inr (11, [.int 0, .ref m_tree, .ref m_data, .ref m_made, .ref m_status, .int 0, .ref m_tape, .ref m_paths, .ref m_pathSize, .null, .int 0, .int 0, .int 0, .int 0, .int 0, .int 0, .int 0, .int 0, .int 0, .int 0, .int 0, .int (-1), .int 0, .ref m_set, .ref m_to, .int 0, .int 0, .int 0, .int 0, .int 0, .int 0, .ref m_lifted, .int 0, .int 0, .int 0, .ref m_order, .int 0, .ref m_past, .int 0, .ref m_rowKind, .ref m_rowSteps, .ref m_rowPath, .ref m_rowWas, .ref m_rowIs, .ref m_pool, .ref m_rowsMany, .ref m_poolMany, .ref m_way, .int 0, .ref m_out, .int 0, .int 0, .ref m_notedThing, .ref m_notedIs, .ref m_votes, .int 0, .int 0, .ref m_treeThen, .int 0, .int 0, .int 0, .ref m_imageTree, .ref m_pastThen, .ref m_notedThingThen, .ref m_notedIsThen, .ref m_statusThen])), (m_pathSize, .inl (y 0, 4, .inl (fun _ => 0))), (m_status, .inl (y 0, 3, .inl (fun _ => 0))), (ou, .inl (y 1, 1, .inr (.inl (fun _ => 0))))] H) (hD : va_D A [(x0, .inr (10, [.ref tp, .int 0, .int (-1), .ref ps, .ref sp, .ref tk, .ref dr, .ref pr, .ref da, .ref nw, .ref im, .int 0, .ref ac, .ref ke, .ref si, .ref tx, .ref an, .ref dw])), (ps, .inl (y 3, 4, .inr (.inr (.inr (.inr (fun _ => none)))))), (nw, .inr (6, [.ref nwt, .ref nwb, .int 0, .ref nwn, .ref nwi, .int 0, .ref nwr])), (nwr, .inl (y 0, 3, .inl (fun _ => 0))), (m0, .inr (11, [.int 0, .ref m_tree, .ref m_data, .ref m_made, .ref m_status, .int 0, .ref m_tape, .ref m_paths, .ref m_pathSize, .null, .int 0, .int 0, .int 0, .int 0, .int 0, .int 0, .int 0, .int 0, .int 0, .int 0, .int 0, .int (-1), .int 0, .ref m_set, .ref m_to, .int 0, .int 0, .int 0, .int 0, .int 0, .int 0, .ref m_lifted, .int 0, .int 0, .int 0, .ref m_order, .int 0, .ref m_past, .int 0, .ref m_rowKind, .ref m_rowSteps, .ref m_rowPath, .ref m_rowWas, .ref m_rowIs, .ref m_pool, .ref m_rowsMany, .ref m_poolMany, .ref m_way, .int 0, .ref m_out, .int 0, .int 0, .ref m_notedThing, .ref m_notedIs, .ref m_votes, .int 0, .int 0, .ref m_treeThen, .int 0, .int 0, .int 0, .ref m_imageTree, .ref m_pastThen, .ref m_notedThingThen, .ref m_notedIsThen, .ref m_statusThen])), (m_pathSize, .inl (y 0, 4, .inl (fun _ => 0))), (m_status, .inl (y 0, 3, .inl (fun _ => 0))), (ou, .inl (y 1, 1, .inr (.inl (fun _ => 0))))]) (hS : va_S A s.heap H locs) (hl : lv_has ls 7 [(4, .int 0), (3, .ref ou), (2, .ref m0), (1, .ref x0), (0, .ref b)]) : W p l e room_1 s m #[Value.ref b] below meth c H locs 121 52808 (lw_Z below #[Value.ref b] s) (F0 m 1006 ls []) := by
  obtain ⟨hx, hb, hr, hml, hown, hts, hX, hbl, hlocks, hgv⟩ := C0
  have hA : ∀ q : Nat, s.heap.size ≤ q → A q := fun q h => by rw [hAe]; exact h
  have hbA : ¬ A b := by rw [hAe]; exact Nat.not_le.mpr hbl
  have hl : lv_has ls 7 [(4, .int 0), (3, .ref ou), (2, .ref m0), (1, .ref x0), (0, .ref b)] := hl
  obtain ⟨a1, ea1⟩ : ∃ z, z = xs 1 := ⟨_, rfl⟩
  obtain ⟨a2, ea2⟩ : ∃ z, z = xs 2 := ⟨_, rfl⟩
  obtain ⟨a3, ea3⟩ : ∃ z, z = xs 3 := ⟨_, rfl⟩
  obtain ⟨a4, ea4⟩ : ∃ z, z = xs 4 := ⟨_, rfl⟩
  obtain ⟨a5, ea5⟩ : ∃ z, z = xs 5 := ⟨_, rfl⟩
  refine lv_aload_n hx hb dL_law_1006 rfl (lv_at hl 3 rfl) ?_
  refine lv_aload_n hx hb dL_law_1007 rfl (lv_at hl 4 rfl) ?_
  refine lv_iload hx hb dL_law_1008 (lv_at hl 0 rfl) ?_
  refine lv_iconst (v := 1) hx hb dL_law_1010 (by decide) ?_
  refine lv_iadd hx hb dL_law_1011 ?_
  refine nq_top (z := 1) (by decide) ?_
  refine va_sld hx hb hX hbl hbA hS (i := 1) (nq_in (by decide)) dL_law_1012 ?_
  refine nq_top (z := a1) (ea1.symm) ?_
  refine lv_aload_n hx hb dL_law_1013 rfl (lv_at hl 4 rfl) ?_
  refine lv_iload hx hb dL_law_1014 (lv_at hl 0 rfl) ?_
  refine lv_iconst (v := 2) hx hb dL_law_1016 (by decide) ?_
  refine lv_iadd hx hb dL_law_1017 ?_
  refine nq_top (z := 2) (by decide) ?_
  refine va_sld hx hb hX hbl hbA hS (i := 2) (nq_in (by decide)) dL_law_1018 ?_
  refine nq_top (z := a2) (ea2.symm) ?_
  refine lv_aload_n hx hb dL_law_1019 rfl (lv_at hl 1 rfl) ?_
  refine nq_wri (wr := [(m0, .inr (11, [.int 0, .ref m_tree, .ref m_data, .ref m_made, .ref m_status, .int 0, .ref m_tape, .ref m_paths, .ref m_pathSize, .null, .int 0, .int 0, .int 0, .int 0, .int 0, .int 0, .int 0, .int 0, .int 0, .int 0, .int 0, .int (-1), .int 0, .ref m_set, .ref m_to, .int 0, .int 0, .int 0, .int 0, .int 0, .int 0, .ref m_lifted, .int 0, .int 0, .int 0, .ref m_order, .int 0, .ref m_past, .int 0, .ref m_rowKind, .ref m_rowSteps, .ref m_rowPath, .ref m_rowWas, .ref m_rowIs, .ref m_pool, .ref m_rowsMany, .ref m_poolMany, .ref m_way, .int 0, .ref m_out, .int 0, .int 0, .ref m_notedThing, .ref m_notedIs, .ref m_votes, .int 0, .int 0, .ref m_treeThen, .int 0, .int 0, .int 0, .ref m_imageTree, .ref m_pastThen, .ref m_notedThingThen, .ref m_notedIsThen, .ref m_statusThen])), (m_pathSize, .inl (y 0, 4, .inl (fun _ => 0))), (m_status, .inl (y 0, 3, .inl (fun _ => 0)))]) (w1 := (fun (g9 : Nat → Int64) => [(ou, .inl (y 1, 1, .inr (.inl g9)))])) (vx_runSW (hh := [(0, 10, 13, 13)]) (As := [.ref x0, .int a1, .int a2, .ref ou]) (rest := []) ⟨hx, hb, hml, hown, hts⟩ (w_put l hl0 G y H.size x0 tp ps sp tk dr pr da nw im ac ke si tx an dw nwt nwb nwn nwi nwr a1 a2 ou) (vx_cwSW 4 hts gv_L_put_117 rfl rfl rfl (by decide +kernel) ⟨Nat.le_of_ble_eq_true rfl, Nat.le_of_ble_eq_true rfl⟩) (nq_PXS hK hP hD hS hA hXs [0, 1, 2, 3, 7] rfl rfl) rfl rfl hl.1 rfl (lv_room (Nat.le_of_ble_eq_true rfl)) dL_law_1020 ⟨Nat.le_of_ble_eq_true rfl, Nat.le_of_ble_eq_true rfl⟩) hP hD hS hA [0, 1, 2, 3, 7] [4, 5, 6] rfl rfl (by decide) (by decide) (fun r_1 g_3 H locs hw_2 hP hD hS => ?_)
  have hP : va_P G vwCl [(m0, .inr (11, [.int 0, .ref m_tree, .ref m_data, .ref m_made, .ref m_status, .int 0, .ref m_tape, .ref m_paths, .ref m_pathSize, .null, .int 0, .int 0, .int 0, .int 0, .int 0, .int 0, .int 0, .int 0, .int 0, .int 0, .int 0, .int (-1), .int 0, .ref m_set, .ref m_to, .int 0, .int 0, .int 0, .int 0, .int 0, .int 0, .ref m_lifted, .int 0, .int 0, .int 0, .ref m_order, .int 0, .ref m_past, .int 0, .ref m_rowKind, .ref m_rowSteps, .ref m_rowPath, .ref m_rowWas, .ref m_rowIs, .ref m_pool, .ref m_rowsMany, .ref m_poolMany, .ref m_way, .int 0, .ref m_out, .int 0, .int 0, .ref m_notedThing, .ref m_notedIs, .ref m_votes, .int 0, .int 0, .ref m_treeThen, .int 0, .int 0, .int 0, .ref m_imageTree, .ref m_pastThen, .ref m_notedThingThen, .ref m_notedIsThen, .ref m_statusThen])), (m_pathSize, .inl (y 0, 4, .inl (fun _ => 0))), (m_status, .inl (y 0, 3, .inl (fun _ => 0))), (ou, .inl (y 1, 1, .inr (.inl g_3)))] H := hP
  have hD : va_D A [(m0, .inr (11, [.int 0, .ref m_tree, .ref m_data, .ref m_made, .ref m_status, .int 0, .ref m_tape, .ref m_paths, .ref m_pathSize, .null, .int 0, .int 0, .int 0, .int 0, .int 0, .int 0, .int 0, .int 0, .int 0, .int 0, .int 0, .int (-1), .int 0, .ref m_set, .ref m_to, .int 0, .int 0, .int 0, .int 0, .int 0, .int 0, .ref m_lifted, .int 0, .int 0, .int 0, .ref m_order, .int 0, .ref m_past, .int 0, .ref m_rowKind, .ref m_rowSteps, .ref m_rowPath, .ref m_rowWas, .ref m_rowIs, .ref m_pool, .ref m_rowsMany, .ref m_poolMany, .ref m_way, .int 0, .ref m_out, .int 0, .int 0, .ref m_notedThing, .ref m_notedIs, .ref m_votes, .int 0, .int 0, .ref m_treeThen, .int 0, .int 0, .int 0, .ref m_imageTree, .ref m_pastThen, .ref m_notedThingThen, .ref m_notedIsThen, .ref m_statusThen])), (m_pathSize, .inl (y 0, 4, .inl (fun _ => 0))), (m_status, .inl (y 0, 3, .inl (fun _ => 0))), (ou, .inl (y 1, 1, .inr (.inl g_3)))] := hD
  refine lv_istore (lv' := [(5, .int r_1), (4, .int 0), (3, .ref ou), (2, .ref m0), (1, .ref x0), (0, .ref b)]) hx hb dL_law_1023 hl (by decide) rfl (fun ls hl => ?_)
  refine lv_aload_n hx hb dL_law_1025 rfl (lv_at hl 3 rfl) ?_
  refine lv_aload_n hx hb dL_law_1026 rfl (lv_at hl 5 rfl) ?_
  refine lv_iload hx hb dL_law_1027 (lv_at hl 1 rfl) ?_
  refine lv_iconst (v := 1) hx hb dL_law_1029 (by decide) ?_
  refine lv_iadd hx hb dL_law_1030 ?_
  refine nq_top (z := 1) (by decide) ?_
  refine va_sld hx hb hX hbl hbA hS (i := 1) (nq_in (by decide)) dL_law_1031 ?_
  refine nq_top (z := a1) (ea1.symm) ?_
  refine lv_aload_n hx hb dL_law_1032 rfl (lv_at hl 5 rfl) ?_
  refine lv_iload hx hb dL_law_1033 (lv_at hl 1 rfl) ?_
  refine lv_iconst (v := 2) hx hb dL_law_1035 (by decide) ?_
  refine lv_iadd hx hb dL_law_1036 ?_
  refine nq_top (z := 2) (by decide) ?_
  refine va_sld hx hb hX hbl hbA hS (i := 2) (nq_in (by decide)) dL_law_1037 ?_
  refine nq_top (z := a2) (ea2.symm) ?_
  refine nq_wri (wr := [(ou, .inl (y 1, 1, .inr (.inl g_3)))]) (va_runV (As := [.int a1, .int a2]) (rest := []) ⟨hx, hb, hml, hown, hts⟩ (m_put l G y H.size m0 m_tree m_data m_made m_status m_tape m_paths m_pathSize m_set m_to m_lifted m_order m_past m_rowKind m_rowSteps m_rowPath m_rowWas m_rowIs m_pool m_rowsMany m_poolMany m_way m_out m_notedThing m_notedIs m_votes m_treeThen m_imageTree m_pastThen m_notedThingThen m_notedIsThen m_statusThen a1 a2 ) (cwV 2 hts gv_X11_put_119 rfl rfl rfl (by decide +kernel) ⟨Nat.le_of_ble_eq_true rfl, Nat.le_of_ble_eq_true rfl⟩) (nq_PV hK hP hD [0, 1, 2] rfl rfl 0 rfl rfl) rfl rfl hl.1 rfl (lv_room (Nat.le_of_ble_eq_true rfl)) dL_law_1038 ⟨Nat.le_of_ble_eq_true rfl, Nat.le_of_ble_eq_true rfl⟩) hP hD hS hA [0, 1, 2] [3] rfl rfl (by decide) (by decide) (fun r_6 u_4 H locs hw_5 hP hD hS => ?_)
  have hP : va_P G vwCl [(ou, .inl (y 1, 1, .inr (.inl g_3))), (m0, .inr (11, u_4.2))] H := hP
  have hD : va_D A [(ou, .inl (y 1, 1, .inr (.inl g_3))), (m0, .inr (11, u_4.2))] := hD
  obtain ⟨hq_7, hq_8, hq_9⟩ := hw_5
  subst hq_9
  refine lv_istore (lv' := [(6, .int ((sp_put a1 a2).2)), (5, .int r_1), (4, .int 0), (3, .ref ou), (2, .ref m0), (1, .ref x0), (0, .ref b)]) hx hb dL_law_1041 hl (by decide) rfl (fun ls hl => ?_)
  refine lv_aload_n hx hb dL_law_1043 rfl (lv_at hl 4 rfl) ?_
  refine nq_rdi (va_runV (As := []) (rest := []) ⟨hx, hb, hml, hown, hts⟩ (m_thrown l G y H.size m0 u_4 hq_7) (cwV 0 hts gv_X11_thrown_77 rfl rfl rfl (by decide +kernel) ⟨Nat.le_of_ble_eq_true rfl, Nat.le_of_ble_eq_true rfl⟩) (nq_PV hK hP hD [1] rfl rfl 1 rfl rfl) rfl rfl hl.1 rfl (lv_room (Nat.le_of_ble_eq_true rfl)) dL_law_1044 ⟨Nat.le_of_ble_eq_true rfl, Nat.le_of_ble_eq_true rfl⟩) hP hS hA (fun r_10 H locs hw_11 hP hS => ?_)
  subst hw_11
  refine lv_iload hx hb dL_law_1047 (lv_at hl 1 rfl) ?_
  refine lv_icmp_eq (tgt := 1054) hx hb dL_law_1049 (by decide) (fun _ => ?_) (fun c_12 => absurd (hq_8.trans hw_2.1.symm) c_12)
  refine lv_iload hx hb dL_law_1054 (lv_at hl 1 rfl) ?_
  refine lv_if_ne (tgt := 1071) hx hb dL_law_1056 (by decide) (fun c_13 => ?_) (fun c_13 => ?_)
  · refine lv_goto (tgt := 1593) hx hb dL_law_1071 (by decide) ?_
    refine lv_iinc (v := 6) (lv' := [(4, .int 6), (6, .int ((sp_put a1 a2).2)), (5, .int r_1), (3, .ref ou), (2, .ref m0), (1, .ref x0), (0, .ref b)]) hx hb dL_law_1593 hl (k := 2) rfl (by decide) (by decide) rfl (fun ls hl => ?_)
    refine lv_goto (tgt := 23) hx hb dL_law_1596 (by decide) ?_
    refine lv_iload hx hb dL_law_23 (lv_at hl 0 rfl) ?_
    refine lv_aload_n hx hb dL_law_25 rfl (lv_at hl 6 rfl) ?_
    refine va_slen hx hb hX hbl hbA hS dL_law_26 ?_
    refine nq_top (z := 6) (by decide) ?_
    refine lv_bipush (v := 6) hx hb dL_law_27 (by decide) ?_
    refine lv_isub hx hb dL_law_29 ?_
    refine nq_top (z := 0) (by decide) ?_
    refine lv_icmp_gt (tgt := 1599) hx hb dL_law_30 (by decide) (fun _ => ?_) (fun c_14 => absurd c_14 (by decide))
    refine lv_iconst (v := 1) hx hb dL_law_1599 (by decide) ?_
    refine va_forget (fun q hq => by have h9 := hS.2.2 q hq; rw [hAe] at h9; exact h9) ?_
    refine W.widen (k := 600002) (n := 7302232) (Nat.le_of_ble_eq_true rfl) (Nat.le_of_ble_eq_true rfl) ?_
    exact lw_ret hx hb hr hlocks dL_law_1600
  · subst c_13
    refine lv_aload_n hx hb dL_law_1059 rfl (lv_at hl 3 rfl) ?_
    refine lv_iconst (v := 0) hx hb dL_law_1060 (by decide) ?_
    refine va_lald hx hb hK.1 hP 0 1 rfl rfl (i := 0) (nq_in (by decide)) dL_law_1061 ?_
    refine nq_topl (z := ((sp_put a1 a2).2).toInt64) (hw_2.2 rfl) ?_
    refine lv_iload hx hb dL_law_1062 (lv_at hl 0 rfl) ?_
    refine lv_i2l (v := ((sp_put a1 a2).2).toInt64) hx hb dL_law_1064 rfl ?_
    refine W.lcmp hx hb dL_law_1065 ?_
    refine nq_top (z := 0) (nq_cmp _) ?_
    refine lv_if_eq (tgt := 1071) hx hb dL_law_1066 (by decide) (fun _ => ?_) (fun c_15 => absurd c_15 (by decide))
    refine lv_goto (tgt := 1593) hx hb dL_law_1071 (by decide) ?_
    refine lv_iinc (v := 6) (lv' := [(4, .int 6), (6, .int ((sp_put a1 a2).2)), (5, .int 0), (3, .ref ou), (2, .ref m0), (1, .ref x0), (0, .ref b)]) hx hb dL_law_1593 hl (k := 2) rfl (by decide) (by decide) rfl (fun ls hl => ?_)
    refine lv_goto (tgt := 23) hx hb dL_law_1596 (by decide) ?_
    refine lv_iload hx hb dL_law_23 (lv_at hl 0 rfl) ?_
    refine lv_aload_n hx hb dL_law_25 rfl (lv_at hl 6 rfl) ?_
    refine va_slen hx hb hX hbl hbA hS dL_law_26 ?_
    refine nq_top (z := 6) (by decide) ?_
    refine lv_bipush (v := 6) hx hb dL_law_27 (by decide) ?_
    refine lv_isub hx hb dL_law_29 ?_
    refine nq_top (z := 0) (by decide) ?_
    refine lv_icmp_gt (tgt := 1599) hx hb dL_law_30 (by decide) (fun _ => ?_) (fun c_16 => absurd c_16 (by decide))
    refine lv_iconst (v := 1) hx hb dL_law_1599 (by decide) ?_
    refine va_forget (fun q hq => by have h9 := hS.2.2 q hq; rw [hAe] at h9; exact h9) ?_
    refine W.widen (k := 600002) (n := 7302232) (Nat.le_of_ble_eq_true rfl) (Nat.le_of_ble_eq_true rfl) ?_
    exact lw_ret hx hb hr hlocks dL_law_1600
