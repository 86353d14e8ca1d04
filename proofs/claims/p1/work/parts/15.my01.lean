set_option maxHeartbeats 400000 in
set_option maxRecDepth 100000 in
theorem m_feed (l : Launch) (G : va_G) (y : Nat → ClassId) (sz : Nat) (h0 : Nat) (m_tree : Nat) (m_data : Nat) (m_made : Nat) (m_status : Nat) (m_tape : Nat) (m_paths : Nat) (m_pathSize : Nat) (m_set : Nat) (m_to : Nat) (m_lifted : Nat) (m_order : Nat) (m_past : Nat) (m_rowKind : Nat) (m_rowSteps : Nat) (m_rowPath : Nat) (m_rowWas : Nat) (m_rowIs : Nat) (m_pool : Nat) (m_rowsMany : Nat) (m_poolMany : Nat) (m_way : Nat) (m_out : Nat) (m_notedThing : Nat) (m_notedIs : Nat) (m_votes : Nat) (m_treeThen : Nat) (m_imageTree : Nat) (m_pastThen : Nat) (m_notedThingThen : Nat) (m_notedIsThen : Nat) (m_statusThen : Nat) (a1 : Int32) (a2 : Int32) (a3 : Int32) (a4 : Int32) (a5 : Int32)  : Met l yX11_feed wsX11_feed ({ frames := 0, cells := 0, slots := 0, locals := 0 }) (nq_P G y sz [.ref h0, .int a1, .int a2, .int a3, .int a4, .int a5] [(h0, .inr (11, [.int 0, .ref m_tree, .ref m_data, .ref m_made, .ref m_status, .int 0, .ref m_tape, .ref m_paths, .ref m_pathSize, .null, .int 0, .int 0, .int 0, .int 0, .int 0, .int 0, .int 0, .int 0, .int 0, .int 0, .int 0, .int (-1), .int 0, .ref m_set, .ref m_to, .int 0, .int 0, .int 0, .int 0, .int 0, .int 0, .ref m_lifted, .int 0, .int 0, .int 0, .ref m_order, .int 0, .ref m_past, .int 0, .ref m_rowKind, .ref m_rowSteps, .ref m_rowPath, .ref m_rowWas, .ref m_rowIs, .ref m_pool, .ref m_rowsMany, .ref m_poolMany, .ref m_way, .int 0, .ref m_out, .int 0, .int 0, .ref m_notedThing, .ref m_notedIs, .ref m_votes, .int 0, .int 0, .ref m_treeThen, .int 0, .int 0, .int 0, .ref m_imageTree, .ref m_pastThen, .ref m_notedThingThen, .ref m_notedIsThen, .ref m_statusThen])), (m_tape, .inl (y 0, 400, .inl (fun _ => 0)))]) (va_Qi (fun (r : Int32) (_ : Unit) => r = 20) (fun (u : Unit) t9 => va_P G vwCl ([]) t9.heap ∧ va_D (va_A [(h0, .inr (11, [.int 0, .ref m_tree, .ref m_data, .ref m_made, .ref m_status, .int 0, .ref m_tape, .ref m_paths, .ref m_pathSize, .null, .int 0, .int 0, .int 0, .int 0, .int 0, .int 0, .int 0, .int 0, .int 0, .int 0, .int 0, .int (-1), .int 0, .ref m_set, .ref m_to, .int 0, .int 0, .int 0, .int 0, .int 0, .int 0, .ref m_lifted, .int 0, .int 0, .int 0, .ref m_order, .int 0, .ref m_past, .int 0, .ref m_rowKind, .ref m_rowSteps, .ref m_rowPath, .ref m_rowWas, .ref m_rowIs, .ref m_pool, .ref m_rowsMany, .ref m_poolMany, .ref m_way, .int 0, .ref m_out, .int 0, .int 0, .ref m_notedThing, .ref m_notedIs, .ref m_votes, .int 0, .int 0, .ref m_treeThen, .int 0, .int 0, .int 0, .ref m_imageTree, .ref m_pastThen, .ref m_notedThingThen, .ref m_notedIsThen, .ref m_statusThen])), (m_tape, .inl (y 0, 400, .inl (fun _ => 0)))] sz) ([])) (va_A [(h0, .inr (11, [.int 0, .ref m_tree, .ref m_data, .ref m_made, .ref m_status, .int 0, .ref m_tape, .ref m_paths, .ref m_pathSize, .null, .int 0, .int 0, .int 0, .int 0, .int 0, .int 0, .int 0, .int 0, .int 0, .int 0, .int 0, .int (-1), .int 0, .ref m_set, .ref m_to, .int 0, .int 0, .int 0, .int 0, .int 0, .int 0, .ref m_lifted, .int 0, .int 0, .int 0, .ref m_order, .int 0, .ref m_past, .int 0, .ref m_rowKind, .ref m_rowSteps, .ref m_rowPath, .ref m_rowWas, .ref m_rowIs, .ref m_pool, .ref m_rowsMany, .ref m_poolMany, .ref m_way, .int 0, .ref m_out, .int 0, .int 0, .ref m_notedThing, .ref m_notedIs, .ref m_votes, .int 0, .int 0, .ref m_treeThen, .int 0, .int 0, .int 0, .ref m_imageTree, .ref m_pastThen, .ref m_notedThingThen, .ref m_notedIsThen, .ref m_statusThen])), (m_tape, .inl (y 0, 400, .inl (fun _ => 0)))] sz)) 0 0 (va_A [(h0, .inr (11, [.int 0, .ref m_tree, .ref m_data, .ref m_made, .ref m_status, .int 0, .ref m_tape, .ref m_paths, .ref m_pathSize, .null, .int 0, .int 0, .int 0, .int 0, .int 0, .int 0, .int 0, .int 0, .int 0, .int 0, .int 0, .int (-1), .int 0, .ref m_set, .ref m_to, .int 0, .int 0, .int 0, .int 0, .int 0, .int 0, .ref m_lifted, .int 0, .int 0, .int 0, .ref m_order, .int 0, .ref m_past, .int 0, .ref m_rowKind, .ref m_rowSteps, .ref m_rowPath, .ref m_rowWas, .ref m_rowIs, .ref m_pool, .ref m_rowsMany, .ref m_poolMany, .ref m_way, .int 0, .ref m_out, .int 0, .int 0, .ref m_notedThing, .ref m_notedIs, .ref m_votes, .int 0, .int 0, .ref m_treeThen, .int 0, .int 0, .int 0, .ref m_imageTree, .ref m_pastThen, .ref m_notedThingThen, .ref m_notedIsThen, .ref m_statusThen])), (m_tape, .inl (y 0, 400, .inl (fun _ => 0)))] sz) := by
  refine Met.ofW (cc := cX11_feed) (maxL := 8) (ret := (some .int)) (by decide) rfl ?_
  intro p e s m args below meth c s₁ B hml hv
  obtain ⟨rfl, hsz, hP, hK, hD0⟩ := hv
  have hx := B.exec
  have hb := B.bytes
  have hr := B.returns
  have hts := atoms_spec (ws := wsX11_feed) B.pre
  have hown : s.vm.findClass RX11 = some m.cls := findClass_of_methodNamed B.named
  have hlocks := B.notSynchronized
  subst hsz
  have hD := hD0.self (sz := s.heap.size)
  generalize hAe : va_A [(h0, .inr (11, [.int 0, .ref m_tree, .ref m_data, .ref m_made, .ref m_status, .int 0, .ref m_tape, .ref m_paths, .ref m_pathSize, .null, .int 0, .int 0, .int 0, .int 0, .int 0, .int 0, .int 0, .int 0, .int 0, .int 0, .int 0, .int (-1), .int 0, .ref m_set, .ref m_to, .int 0, .int 0, .int 0, .int 0, .int 0, .int 0, .ref m_lifted, .int 0, .int 0, .int 0, .ref m_order, .int 0, .ref m_past, .int 0, .ref m_rowKind, .ref m_rowSteps, .ref m_rowPath, .ref m_rowWas, .ref m_rowIs, .ref m_pool, .ref m_rowsMany, .ref m_poolMany, .ref m_way, .int 0, .ref m_out, .int 0, .int 0, .ref m_notedThing, .ref m_notedIs, .ref m_votes, .int 0, .int 0, .ref m_treeThen, .int 0, .int 0, .int 0, .ref m_imageTree, .ref m_pastThen, .ref m_notedThingThen, .ref m_notedIsThen, .ref m_statusThen])), (m_tape, .inl (y 0, 400, .inl (fun _ => 0)))] s.heap.size = A at hD ⊢
  have hA : ∀ q : Nat, s.heap.size ≤ q → A q := fun q h => by rw [← hAe]; exact Or.inr h
  have hS : va_S A s.heap s.heap [] := va_S.rf
  have hP : va_P G vwCl [(h0, .inr (11, [.int 0, .ref m_tree, .ref m_data, .ref m_made, .ref m_status, .int 0, .ref m_tape, .ref m_paths, .ref m_pathSize, .null, .int 0, .int 0, .int 0, .int 0, .int 0, .int 0, .int 0, .int 0, .int 0, .int 0, .int 0, .int (-1), .int 0, .ref m_set, .ref m_to, .int 0, .int 0, .int 0, .int 0, .int 0, .int 0, .ref m_lifted, .int 0, .int 0, .int 0, .ref m_order, .int 0, .ref m_past, .int 0, .ref m_rowKind, .ref m_rowSteps, .ref m_rowPath, .ref m_rowWas, .ref m_rowIs, .ref m_pool, .ref m_rowsMany, .ref m_poolMany, .ref m_way, .int 0, .ref m_out, .int 0, .int 0, .ref m_notedThing, .ref m_notedIs, .ref m_votes, .int 0, .int 0, .ref m_treeThen, .int 0, .int 0, .int 0, .ref m_imageTree, .ref m_pastThen, .ref m_notedThingThen, .ref m_notedIsThen, .ref m_statusThen])), (m_tape, .inl (y 0, 400, .inl (fun _ => 0)))] s.heap := hP
  have inX11 : ∀ w ∈ wsX110, w ∈ wsX11_feed := by decide +kernel
  have hl := lv_entry ([.ref h0, .int a1, .int a2, .int a3, .int a4, .int a5]) (n := 8) (Nat.le_of_ble_eq_true rfl)
  rw [lg_entry_eq]
  generalize (lg_sl ([.ref h0, .int a1, .int a2, .int a3, .int a4, .int a5]) ++ List.replicate (8 - (lg_sl ([.ref h0, .int a1, .int a2, .int a3, .int a4, .int a5])).length) Slot.unset).toArray = ls at hl ⊢
  have hl : lv_has ls 8 [(0, .ref h0), (1, .int a1), (2, .int a2), (3, .int a3), (4, .int a4), (5, .int a5)] := hl
  refine lv_aload_n hx hb dX11_feed_0 rfl (lv_at hl 0 rfl) ?_
  refine lv_iconst (v := 0) hx hb dX11_feed_1 (by decide) ?_
  refine va_put (D := G) (ci := 11) (v := .int 0) (ty := .int) (C := RX11) (T := TX11) (N := 66) hx hb hts inX11 tyX11 tyX11_ok nmX11 hown hK.1 hP hD hS 0 rfl rfl 0 (by decide) (hts (.fieldLink RX11 111 "NestQueryModel" "code" "I") (by decide +kernel)) (fun _ h9 => h9) rfl (by decide +kernel) rfl rfl (Nat.le_of_ble_eq_true rfl) dX11_feed_2 (fun H locs hP hD hS => ?_)
  have hP : va_P G vwCl [(h0, .inr (11, [.int 0, .ref m_tree, .ref m_data, .ref m_made, .ref m_status, .int 0, .ref m_tape, .ref m_paths, .ref m_pathSize, .null, .int 0, .int 0, .int 0, .int 0, .int 0, .int 0, .int 0, .int 0, .int 0, .int 0, .int 0, .int (-1), .int 0, .ref m_set, .ref m_to, .int 0, .int 0, .int 0, .int 0, .int 0, .int 0, .ref m_lifted, .int 0, .int 0, .int 0, .ref m_order, .int 0, .ref m_past, .int 0, .ref m_rowKind, .ref m_rowSteps, .ref m_rowPath, .ref m_rowWas, .ref m_rowIs, .ref m_pool, .ref m_rowsMany, .ref m_poolMany, .ref m_way, .int 0, .ref m_out, .int 0, .int 0, .ref m_notedThing, .ref m_notedIs, .ref m_votes, .int 0, .int 0, .ref m_treeThen, .int 0, .int 0, .int 0, .ref m_imageTree, .ref m_pastThen, .ref m_notedThingThen, .ref m_notedIsThen, .ref m_statusThen])), (m_tape, .inl (y 0, 400, .inl (fun _ => 0)))] H := hP
  have hD : va_D A [(h0, .inr (11, [.int 0, .ref m_tree, .ref m_data, .ref m_made, .ref m_status, .int 0, .ref m_tape, .ref m_paths, .ref m_pathSize, .null, .int 0, .int 0, .int 0, .int 0, .int 0, .int 0, .int 0, .int 0, .int 0, .int 0, .int 0, .int (-1), .int 0, .ref m_set, .ref m_to, .int 0, .int 0, .int 0, .int 0, .int 0, .int 0, .ref m_lifted, .int 0, .int 0, .int 0, .ref m_order, .int 0, .ref m_past, .int 0, .ref m_rowKind, .ref m_rowSteps, .ref m_rowPath, .ref m_rowWas, .ref m_rowIs, .ref m_pool, .ref m_rowsMany, .ref m_poolMany, .ref m_way, .int 0, .ref m_out, .int 0, .int 0, .ref m_notedThing, .ref m_notedIs, .ref m_votes, .int 0, .int 0, .ref m_treeThen, .int 0, .int 0, .int 0, .ref m_imageTree, .ref m_pastThen, .ref m_notedThingThen, .ref m_notedIsThen, .ref m_statusThen])), (m_tape, .inl (y 0, 400, .inl (fun _ => 0)))] := hD
  refine lv_aload_n hx hb dX11_feed_5 rfl (lv_at hl 0 rfl) ?_
  refine va_get (D := G) (ci := 11) (v := .int 0) (C := RX11) (T := TX11) (N := 66) hx hb hts inX11 hown hK.1 hP 0 rfl rfl 12 (by decide) (hts (.fieldLink RX11 114 "NestQueryModel" "taped" "I") (by decide +kernel)) (fun _ h9 => h9) rfl dX11_feed_6 ?_
  refine lv_bipush (v := 20) hx hb dX11_feed_9 (by decide) ?_
  refine lv_iadd hx hb dX11_feed_11 ?_
  refine nq_top (z := 20) (by decide) ?_
  refine lv_sipush (v := 400) hx hb dX11_feed_12 (by decide) ?_
  refine lv_icmp_le (tgt := 20) hx hb dX11_feed_15 (by decide) (fun _ => ?_) (fun c_1 => absurd c_1 (by decide))
  refine lv_iconst (v := 0) hx hb dX11_feed_20 (by decide) ?_
  refine lv_istore (lv' := [(6, .int 0), (0, .ref h0), (1, .int a1), (2, .int a2), (3, .int a3), (4, .int a4), (5, .int a5)]) hx hb dX11_feed_21 hl (by decide) rfl (fun ls hl => ?_)
  refine lv_iload hx hb dX11_feed_23 (lv_at hl 0 rfl) ?_
  refine lv_bipush (v := 20) hx hb dX11_feed_25 (by decide) ?_
  refine lv_icmp_ge (tgt := 120) hx hb dX11_feed_27 (by decide) (fun c_2 => absurd c_2 (by decide)) (fun _ => ?_)
  refine lv_iload hx hb dX11_feed_30 (lv_at hl 0 rfl) ?_
  refine lv_iconst (v := 4) hx hb dX11_feed_32 (by decide) ?_
  refine lv_icmp_ge (tgt := 40) hx hb dX11_feed_33 (by decide) (fun c_3 => absurd c_3 (by decide)) (fun _ => ?_)
  refine lv_iload_n hx hb dX11_feed_36 rfl (lv_at hl 2 rfl) ?_
  refine lv_goto (tgt := 76) hx hb dX11_feed_37 (by decide) ?_
  refine lv_istore (lv' := [(7, .int a1), (6, .int 0), (0, .ref h0), (1, .int a1), (2, .int a2), (3, .int a3), (4, .int a4), (5, .int a5)]) hx hb dX11_feed_76 hl (by decide) rfl (fun ls hl => ?_)
  refine lv_aload_n hx hb dX11_feed_78 rfl (lv_at hl 2 rfl) ?_
  refine va_get (D := G) (ci := 11) (v := .ref m_tape) (C := RX11) (T := TX11) (N := 66) hx hb hts inX11 hown hK.1 hP 0 rfl rfl 6 (by decide) (hts (.fieldLink RX11 22 "NestQueryModel" "tape" "[I") (by decide +kernel)) (fun _ h9 => h9) rfl dX11_feed_79 ?_
  refine lv_aload_n hx hb dX11_feed_82 rfl (lv_at hl 2 rfl) ?_
  refine va_get (D := G) (ci := 11) (v := .int 0) (C := RX11) (T := TX11) (N := 66) hx hb hts inX11 hown hK.1 hP 0 rfl rfl 12 (by decide) (hts (.fieldLink RX11 114 "NestQueryModel" "taped" "I") (by decide +kernel)) (fun _ h9 => h9) rfl dX11_feed_83 ?_
  refine lv_iload hx hb dX11_feed_86 (lv_at hl 0 rfl) ?_
  refine lv_bipush (v := 24) hx hb dX11_feed_88 (by decide) ?_
  refine lv_bipush (v := 8) hx hb dX11_feed_90 (by decide) ?_
  refine lv_iload hx hb dX11_feed_92 (lv_at hl 1 rfl) ?_
  refine lv_iconst (v := 4) hx hb dX11_feed_94 (by decide) ?_
  refine lv_irem hx hb dX11_feed_95 (by decide) ?_
  refine nq_top (z := 0) (by decide) ?_
  refine lv_imul hx hb dX11_feed_96 ?_
  refine nq_top (z := 0) (by decide) ?_
  refine lv_isub hx hb dX11_feed_97 ?_
  refine nq_top (z := 24) (by decide) ?_
  refine lv_ishr hx hb dX11_feed_98 ?_
  refine lv_topi (fun w_4 _ => ?_)
  refine lv_sipush (v := 255) hx hb dX11_feed_99 (by decide) ?_
  refine lv_iand hx hb dX11_feed_102 ?_
  refine lv_topi (fun w_5 _ => ?_)
  refine va_iast hx hb hK.1 hP hD hS 1 0 rfl rfl (i := 0) (nq_in (by decide)) dX11_feed_103 (fun H locs hP hD hS => ?_)
  have hP : va_P G vwCl [(h0, .inr (11, [.int 0, .ref m_tree, .ref m_data, .ref m_made, .ref m_status, .int 0, .ref m_tape, .ref m_paths, .ref m_pathSize, .null, .int 0, .int 0, .int 0, .int 0, .int 0, .int 0, .int 0, .int 0, .int 0, .int 0, .int 0, .int (-1), .int 0, .ref m_set, .ref m_to, .int 0, .int 0, .int 0, .int 0, .int 0, .int 0, .ref m_lifted, .int 0, .int 0, .int 0, .ref m_order, .int 0, .ref m_past, .int 0, .ref m_rowKind, .ref m_rowSteps, .ref m_rowPath, .ref m_rowWas, .ref m_rowIs, .ref m_pool, .ref m_rowsMany, .ref m_poolMany, .ref m_way, .int 0, .ref m_out, .int 0, .int 0, .ref m_notedThing, .ref m_notedIs, .ref m_votes, .int 0, .int 0, .ref m_treeThen, .int 0, .int 0, .int 0, .ref m_imageTree, .ref m_pastThen, .ref m_notedThingThen, .ref m_notedIsThen, .ref m_statusThen])), (m_tape, .inl (y 0, 400, .inl (upd (fun _ => 0) 0 w_5)))] H := hP
  have hD : va_D A [(h0, .inr (11, [.int 0, .ref m_tree, .ref m_data, .ref m_made, .ref m_status, .int 0, .ref m_tape, .ref m_paths, .ref m_pathSize, .null, .int 0, .int 0, .int 0, .int 0, .int 0, .int 0, .int 0, .int 0, .int 0, .int 0, .int 0, .int (-1), .int 0, .ref m_set, .ref m_to, .int 0, .int 0, .int 0, .int 0, .int 0, .int 0, .ref m_lifted, .int 0, .int 0, .int 0, .ref m_order, .int 0, .ref m_past, .int 0, .ref m_rowKind, .ref m_rowSteps, .ref m_rowPath, .ref m_rowWas, .ref m_rowIs, .ref m_pool, .ref m_rowsMany, .ref m_poolMany, .ref m_way, .int 0, .ref m_out, .int 0, .int 0, .ref m_notedThing, .ref m_notedIs, .ref m_votes, .int 0, .int 0, .ref m_treeThen, .int 0, .int 0, .int 0, .ref m_imageTree, .ref m_pastThen, .ref m_notedThingThen, .ref m_notedIsThen, .ref m_statusThen])), (m_tape, .inl (y 0, 400, .inl (upd (fun _ => 0) 0 w_5)))] := hD
  generalize (upd (fun _ => 0) 0 w_5) = f_6 at hP hD
  refine lv_aload_n hx hb dX11_feed_104 rfl (lv_at hl 2 rfl) ?_
  refine lv_dup hx hb dX11_feed_105 rfl ?_
  refine va_get (D := G) (ci := 11) (v := .int 0) (C := RX11) (T := TX11) (N := 66) hx hb hts inX11 hown hK.1 hP 0 rfl rfl 12 (by decide) (hts (.fieldLink RX11 114 "NestQueryModel" "taped" "I") (by decide +kernel)) (fun _ h9 => h9) rfl dX11_feed_106 ?_
  refine lv_iconst (v := 1) hx hb dX11_feed_109 (by decide) ?_
  refine lv_iadd hx hb dX11_feed_110 ?_
  refine nq_top (z := 1) (by decide) ?_
  refine va_put (D := G) (ci := 11) (v := .int 1) (ty := .int) (C := RX11) (T := TX11) (N := 66) hx hb hts inX11 tyX11 tyX11_ok nmX11 hown hK.1 hP hD hS 0 rfl rfl 12 (by decide) (hts (.fieldLink RX11 114 "NestQueryModel" "taped" "I") (by decide +kernel)) (fun _ h9 => h9) rfl (by decide +kernel) rfl rfl (Nat.le_of_ble_eq_true rfl) dX11_feed_111 (fun H locs hP hD hS => ?_)
  have hP : va_P G vwCl [(h0, .inr (11, [.int 0, .ref m_tree, .ref m_data, .ref m_made, .ref m_status, .int 0, .ref m_tape, .ref m_paths, .ref m_pathSize, .null, .int 0, .int 0, .int 1, .int 0, .int 0, .int 0, .int 0, .int 0, .int 0, .int 0, .int 0, .int (-1), .int 0, .ref m_set, .ref m_to, .int 0, .int 0, .int 0, .int 0, .int 0, .int 0, .ref m_lifted, .int 0, .int 0, .int 0, .ref m_order, .int 0, .ref m_past, .int 0, .ref m_rowKind, .ref m_rowSteps, .ref m_rowPath, .ref m_rowWas, .ref m_rowIs, .ref m_pool, .ref m_rowsMany, .ref m_poolMany, .ref m_way, .int 0, .ref m_out, .int 0, .int 0, .ref m_notedThing, .ref m_notedIs, .ref m_votes, .int 0, .int 0, .ref m_treeThen, .int 0, .int 0, .int 0, .ref m_imageTree, .ref m_pastThen, .ref m_notedThingThen, .ref m_notedIsThen, .ref m_statusThen])), (m_tape, .inl (y 0, 400, .inl f_6))] H := hP
  have hD : va_D A [(h0, .inr (11, [.int 0, .ref m_tree, .ref m_data, .ref m_made, .ref m_status, .int 0, .ref m_tape, .ref m_paths, .ref m_pathSize, .null, .int 0, .int 0, .int 1, .int 0, .int 0, .int 0, .int 0, .int 0, .int 0, .int 0, .int 0, .int (-1), .int 0, .ref m_set, .ref m_to, .int 0, .int 0, .int 0, .int 0, .int 0, .int 0, .ref m_lifted, .int 0, .int 0, .int 0, .ref m_order, .int 0, .ref m_past, .int 0, .ref m_rowKind, .ref m_rowSteps, .ref m_rowPath, .ref m_rowWas, .ref m_rowIs, .ref m_pool, .ref m_rowsMany, .ref m_poolMany, .ref m_way, .int 0, .ref m_out, .int 0, .int 0, .ref m_notedThing, .ref m_notedIs, .ref m_votes, .int 0, .int 0, .ref m_treeThen, .int 0, .int 0, .int 0, .ref m_imageTree, .ref m_pastThen, .ref m_notedThingThen, .ref m_notedIsThen, .ref m_statusThen])), (m_tape, .inl (y 0, 400, .inl f_6))] := hD
  refine lv_iinc (v := 1) (lv' := [(6, .int 1), (7, .int a1), (0, .ref h0), (1, .int a1), (2, .int a2), (3, .int a3), (4, .int a4), (5, .int a5)]) hx hb dX11_feed_114 hl (k := 1) rfl (by decide) (by decide) rfl (fun ls hl => ?_)
  refine lv_goto (tgt := 23) hx hb dX11_feed_117 (by decide) ?_
  refine lv_iload hx hb dX11_feed_23 (lv_at hl 0 rfl) ?_
  refine lv_bipush (v := 20) hx hb dX11_feed_25 (by decide) ?_
  refine lv_icmp_ge (tgt := 120) hx hb dX11_feed_27 (by decide) (fun c_7 => absurd c_7 (by decide)) (fun _ => ?_)
  refine lv_iload hx hb dX11_feed_30 (lv_at hl 0 rfl) ?_
  refine lv_iconst (v := 4) hx hb dX11_feed_32 (by decide) ?_
  refine lv_icmp_ge (tgt := 40) hx hb dX11_feed_33 (by decide) (fun c_8 => absurd c_8 (by decide)) (fun _ => ?_)
  refine lv_iload_n hx hb dX11_feed_36 rfl (lv_at hl 3 rfl) ?_
  refine lv_goto (tgt := 76) hx hb dX11_feed_37 (by decide) ?_
  refine lv_istore (lv' := [(7, .int a1), (6, .int 1), (0, .ref h0), (1, .int a1), (2, .int a2), (3, .int a3), (4, .int a4), (5, .int a5)]) hx hb dX11_feed_76 hl (by decide) rfl (fun ls hl => ?_)
  refine lv_aload_n hx hb dX11_feed_78 rfl (lv_at hl 2 rfl) ?_
  refine va_get (D := G) (ci := 11) (v := .ref m_tape) (C := RX11) (T := TX11) (N := 66) hx hb hts inX11 hown hK.1 hP 0 rfl rfl 6 (by decide) (hts (.fieldLink RX11 22 "NestQueryModel" "tape" "[I") (by decide +kernel)) (fun _ h9 => h9) rfl dX11_feed_79 ?_
  refine lv_aload_n hx hb dX11_feed_82 rfl (lv_at hl 2 rfl) ?_
  refine va_get (D := G) (ci := 11) (v := .int 1) (C := RX11) (T := TX11) (N := 66) hx hb hts inX11 hown hK.1 hP 0 rfl rfl 12 (by decide) (hts (.fieldLink RX11 114 "NestQueryModel" "taped" "I") (by decide +kernel)) (fun _ h9 => h9) rfl dX11_feed_83 ?_
  refine lv_iload hx hb dX11_feed_86 (lv_at hl 0 rfl) ?_
  refine lv_bipush (v := 24) hx hb dX11_feed_88 (by decide) ?_
  refine lv_bipush (v := 8) hx hb dX11_feed_90 (by decide) ?_
  refine lv_iload hx hb dX11_feed_92 (lv_at hl 1 rfl) ?_
  refine lv_iconst (v := 4) hx hb dX11_feed_94 (by decide) ?_
  refine lv_irem hx hb dX11_feed_95 (by decide) ?_
  refine nq_top (z := 1) (by decide) ?_
  refine lv_imul hx hb dX11_feed_96 ?_
  refine nq_top (z := 8) (by decide) ?_
  refine lv_isub hx hb dX11_feed_97 ?_
  refine nq_top (z := 16) (by decide) ?_
  refine lv_ishr hx hb dX11_feed_98 ?_
  refine lv_topi (fun w_9 _ => ?_)
  refine lv_sipush (v := 255) hx hb dX11_feed_99 (by decide) ?_
  refine lv_iand hx hb dX11_feed_102 ?_
  refine lv_topi (fun w_10 _ => ?_)
  refine va_iast hx hb hK.1 hP hD hS 1 0 rfl rfl (i := 1) (nq_in (by decide)) dX11_feed_103 (fun H locs hP hD hS => ?_)
  have hP : va_P G vwCl [(h0, .inr (11, [.int 0, .ref m_tree, .ref m_data, .ref m_made, .ref m_status, .int 0, .ref m_tape, .ref m_paths, .ref m_pathSize, .null, .int 0, .int 0, .int 1, .int 0, .int 0, .int 0, .int 0, .int 0, .int 0, .int 0, .int 0, .int (-1), .int 0, .ref m_set, .ref m_to, .int 0, .int 0, .int 0, .int 0, .int 0, .int 0, .ref m_lifted, .int 0, .int 0, .int 0, .ref m_order, .int 0, .ref m_past, .int 0, .ref m_rowKind, .ref m_rowSteps, .ref m_rowPath, .ref m_rowWas, .ref m_rowIs, .ref m_pool, .ref m_rowsMany, .ref m_poolMany, .ref m_way, .int 0, .ref m_out, .int 0, .int 0, .ref m_notedThing, .ref m_notedIs, .ref m_votes, .int 0, .int 0, .ref m_treeThen, .int 0, .int 0, .int 0, .ref m_imageTree, .ref m_pastThen, .ref m_notedThingThen, .ref m_notedIsThen, .ref m_statusThen])), (m_tape, .inl (y 0, 400, .inl (upd f_6 1 w_10)))] H := hP
  have hD : va_D A [(h0, .inr (11, [.int 0, .ref m_tree, .ref m_data, .ref m_made, .ref m_status, .int 0, .ref m_tape, .ref m_paths, .ref m_pathSize, .null, .int 0, .int 0, .int 1, .int 0, .int 0, .int 0, .int 0, .int 0, .int 0, .int 0, .int 0, .int (-1), .int 0, .ref m_set, .ref m_to, .int 0, .int 0, .int 0, .int 0, .int 0, .int 0, .ref m_lifted, .int 0, .int 0, .int 0, .ref m_order, .int 0, .ref m_past, .int 0, .ref m_rowKind, .ref m_rowSteps, .ref m_rowPath, .ref m_rowWas, .ref m_rowIs, .ref m_pool, .ref m_rowsMany, .ref m_poolMany, .ref m_way, .int 0, .ref m_out, .int 0, .int 0, .ref m_notedThing, .ref m_notedIs, .ref m_votes, .int 0, .int 0, .ref m_treeThen, .int 0, .int 0, .int 0, .ref m_imageTree, .ref m_pastThen, .ref m_notedThingThen, .ref m_notedIsThen, .ref m_statusThen])), (m_tape, .inl (y 0, 400, .inl (upd f_6 1 w_10)))] := hD
  generalize (upd f_6 1 w_10) = f_11 at hP hD
  refine lv_aload_n hx hb dX11_feed_104 rfl (lv_at hl 2 rfl) ?_
  refine lv_dup hx hb dX11_feed_105 rfl ?_
  refine va_get (D := G) (ci := 11) (v := .int 1) (C := RX11) (T := TX11) (N := 66) hx hb hts inX11 hown hK.1 hP 0 rfl rfl 12 (by decide) (hts (.fieldLink RX11 114 "NestQueryModel" "taped" "I") (by decide +kernel)) (fun _ h9 => h9) rfl dX11_feed_106 ?_
  refine lv_iconst (v := 1) hx hb dX11_feed_109 (by decide) ?_
  refine lv_iadd hx hb dX11_feed_110 ?_
  refine nq_top (z := 2) (by decide) ?_
  refine va_put (D := G) (ci := 11) (v := .int 2) (ty := .int) (C := RX11) (T := TX11) (N := 66) hx hb hts inX11 tyX11 tyX11_ok nmX11 hown hK.1 hP hD hS 0 rfl rfl 12 (by decide) (hts (.fieldLink RX11 114 "NestQueryModel" "taped" "I") (by decide +kernel)) (fun _ h9 => h9) rfl (by decide +kernel) rfl rfl (Nat.le_of_ble_eq_true rfl) dX11_feed_111 (fun H locs hP hD hS => ?_)
  have hP : va_P G vwCl [(h0, .inr (11, [.int 0, .ref m_tree, .ref m_data, .ref m_made, .ref m_status, .int 0, .ref m_tape, .ref m_paths, .ref m_pathSize, .null, .int 0, .int 0, .int 2, .int 0, .int 0, .int 0, .int 0, .int 0, .int 0, .int 0, .int 0, .int (-1), .int 0, .ref m_set, .ref m_to, .int 0, .int 0, .int 0, .int 0, .int 0, .int 0, .ref m_lifted, .int 0, .int 0, .int 0, .ref m_order, .int 0, .ref m_past, .int 0, .ref m_rowKind, .ref m_rowSteps, .ref m_rowPath, .ref m_rowWas, .ref m_rowIs, .ref m_pool, .ref m_rowsMany, .ref m_poolMany, .ref m_way, .int 0, .ref m_out, .int 0, .int 0, .ref m_notedThing, .ref m_notedIs, .ref m_votes, .int 0, .int 0, .ref m_treeThen, .int 0, .int 0, .int 0, .ref m_imageTree, .ref m_pastThen, .ref m_notedThingThen, .ref m_notedIsThen, .ref m_statusThen])), (m_tape, .inl (y 0, 400, .inl f_11))] H := hP
  have hD : va_D A [(h0, .inr (11, [.int 0, .ref m_tree, .ref m_data, .ref m_made, .ref m_status, .int 0, .ref m_tape, .ref m_paths, .ref m_pathSize, .null, .int 0, .int 0, .int 2, .int 0, .int 0, .int 0, .int 0, .int 0, .int 0, .int 0, .int 0, .int (-1), .int 0, .ref m_set, .ref m_to, .int 0, .int 0, .int 0, .int 0, .int 0, .int 0, .ref m_lifted, .int 0, .int 0, .int 0, .ref m_order, .int 0, .ref m_past, .int 0, .ref m_rowKind, .ref m_rowSteps, .ref m_rowPath, .ref m_rowWas, .ref m_rowIs, .ref m_pool, .ref m_rowsMany, .ref m_poolMany, .ref m_way, .int 0, .ref m_out, .int 0, .int 0, .ref m_notedThing, .ref m_notedIs, .ref m_votes, .int 0, .int 0, .ref m_treeThen, .int 0, .int 0, .int 0, .ref m_imageTree, .ref m_pastThen, .ref m_notedThingThen, .ref m_notedIsThen, .ref m_statusThen])), (m_tape, .inl (y 0, 400, .inl f_11))] := hD
  refine lv_iinc (v := 2) (lv' := [(6, .int 2), (7, .int a1), (0, .ref h0), (1, .int a1), (2, .int a2), (3, .int a3), (4, .int a4), (5, .int a5)]) hx hb dX11_feed_114 hl (k := 1) rfl (by decide) (by decide) rfl (fun ls hl => ?_)
  refine lv_goto (tgt := 23) hx hb dX11_feed_117 (by decide) ?_
  refine lv_iload hx hb dX11_feed_23 (lv_at hl 0 rfl) ?_
  refine lv_bipush (v := 20) hx hb dX11_feed_25 (by decide) ?_
  refine lv_icmp_ge (tgt := 120) hx hb dX11_feed_27 (by decide) (fun c_12 => absurd c_12 (by decide)) (fun _ => ?_)
  refine lv_iload hx hb dX11_feed_30 (lv_at hl 0 rfl) ?_
  refine lv_iconst (v := 4) hx hb dX11_feed_32 (by decide) ?_
  refine lv_icmp_ge (tgt := 40) hx hb dX11_feed_33 (by decide) (fun c_13 => absurd c_13 (by decide)) (fun _ => ?_)
  refine lv_iload_n hx hb dX11_feed_36 rfl (lv_at hl 3 rfl) ?_
  refine lv_goto (tgt := 76) hx hb dX11_feed_37 (by decide) ?_
  refine lv_istore (lv' := [(7, .int a1), (6, .int 2), (0, .ref h0), (1, .int a1), (2, .int a2), (3, .int a3), (4, .int a4), (5, .int a5)]) hx hb dX11_feed_76 hl (by decide) rfl (fun ls hl => ?_)
  refine lv_aload_n hx hb dX11_feed_78 rfl (lv_at hl 2 rfl) ?_
  refine va_get (D := G) (ci := 11) (v := .ref m_tape) (C := RX11) (T := TX11) (N := 66) hx hb hts inX11 hown hK.1 hP 0 rfl rfl 6 (by decide) (hts (.fieldLink RX11 22 "NestQueryModel" "tape" "[I") (by decide +kernel)) (fun _ h9 => h9) rfl dX11_feed_79 ?_
  refine lv_aload_n hx hb dX11_feed_82 rfl (lv_at hl 2 rfl) ?_
  refine va_get (D := G) (ci := 11) (v := .int 2) (C := RX11) (T := TX11) (N := 66) hx hb hts inX11 hown hK.1 hP 0 rfl rfl 12 (by decide) (hts (.fieldLink RX11 114 "NestQueryModel" "taped" "I") (by decide +kernel)) (fun _ h9 => h9) rfl dX11_feed_83 ?_
  refine lv_iload hx hb dX11_feed_86 (lv_at hl 0 rfl) ?_
  refine lv_bipush (v := 24) hx hb dX11_feed_88 (by decide) ?_
  refine lv_bipush (v := 8) hx hb dX11_feed_90 (by decide) ?_
  refine lv_iload hx hb dX11_feed_92 (lv_at hl 1 rfl) ?_
  refine lv_iconst (v := 4) hx hb dX11_feed_94 (by decide) ?_
  refine lv_irem hx hb dX11_feed_95 (by decide) ?_
  refine nq_top (z := 2) (by decide) ?_
  refine lv_imul hx hb dX11_feed_96 ?_
  refine nq_top (z := 16) (by decide) ?_
  refine lv_isub hx hb dX11_feed_97 ?_
  refine nq_top (z := 8) (by decide) ?_
  refine lv_ishr hx hb dX11_feed_98 ?_
  refine lv_topi (fun w_14 _ => ?_)
  refine lv_sipush (v := 255) hx hb dX11_feed_99 (by decide) ?_
  refine lv_iand hx hb dX11_feed_102 ?_
  refine lv_topi (fun w_15 _ => ?_)
  refine va_iast hx hb hK.1 hP hD hS 1 0 rfl rfl (i := 2) (nq_in (by decide)) dX11_feed_103 (fun H locs hP hD hS => ?_)
  have hP : va_P G vwCl [(h0, .inr (11, [.int 0, .ref m_tree, .ref m_data, .ref m_made, .ref m_status, .int 0, .ref m_tape, .ref m_paths, .ref m_pathSize, .null, .int 0, .int 0, .int 2, .int 0, .int 0, .int 0, .int 0, .int 0, .int 0, .int 0, .int 0, .int (-1), .int 0, .ref m_set, .ref m_to, .int 0, .int 0, .int 0, .int 0, .int 0, .int 0, .ref m_lifted, .int 0, .int 0, .int 0, .ref m_order, .int 0, .ref m_past, .int 0, .ref m_rowKind, .ref m_rowSteps, .ref m_rowPath, .ref m_rowWas, .ref m_rowIs, .ref m_pool, .ref m_rowsMany, .ref m_poolMany, .ref m_way, .int 0, .ref m_out, .int 0, .int 0, .ref m_notedThing, .ref m_notedIs, .ref m_votes, .int 0, .int 0, .ref m_treeThen, .int 0, .int 0, .int 0, .ref m_imageTree, .ref m_pastThen, .ref m_notedThingThen, .ref m_notedIsThen, .ref m_statusThen])), (m_tape, .inl (y 0, 400, .inl (upd f_11 2 w_15)))] H := hP
  have hD : va_D A [(h0, .inr (11, [.int 0, .ref m_tree, .ref m_data, .ref m_made, .ref m_status, .int 0, .ref m_tape, .ref m_paths, .ref m_pathSize, .null, .int 0, .int 0, .int 2, .int 0, .int 0, .int 0, .int 0, .int 0, .int 0, .int 0, .int 0, .int (-1), .int 0, .ref m_set, .ref m_to, .int 0, .int 0, .int 0, .int 0, .int 0, .int 0, .ref m_lifted, .int 0, .int 0, .int 0, .ref m_order, .int 0, .ref m_past, .int 0, .ref m_rowKind, .ref m_rowSteps, .ref m_rowPath, .ref m_rowWas, .ref m_rowIs, .ref m_pool, .ref m_rowsMany, .ref m_poolMany, .ref m_way, .int 0, .ref m_out, .int 0, .int 0, .ref m_notedThing, .ref m_notedIs, .ref m_votes, .int 0, .int 0, .ref m_treeThen, .int 0, .int 0, .int 0, .ref m_imageTree, .ref m_pastThen, .ref m_notedThingThen, .ref m_notedIsThen, .ref m_statusThen])), (m_tape, .inl (y 0, 400, .inl (upd f_11 2 w_15)))] := hD
  generalize (upd f_11 2 w_15) = f_16 at hP hD
  refine lv_aload_n hx hb dX11_feed_104 rfl (lv_at hl 2 rfl) ?_
  refine lv_dup hx hb dX11_feed_105 rfl ?_
  refine va_get (D := G) (ci := 11) (v := .int 2) (C := RX11) (T := TX11) (N := 66) hx hb hts inX11 hown hK.1 hP 0 rfl rfl 12 (by decide) (hts (.fieldLink RX11 114 "NestQueryModel" "taped" "I") (by decide +kernel)) (fun _ h9 => h9) rfl dX11_feed_106 ?_
  refine lv_iconst (v := 1) hx hb dX11_feed_109 (by decide) ?_
  refine lv_iadd hx hb dX11_feed_110 ?_
  refine nq_top (z := 3) (by decide) ?_
  refine va_put (D := G) (ci := 11) (v := .int 3) (ty := .int) (C := RX11) (T := TX11) (N := 66) hx hb hts inX11 tyX11 tyX11_ok nmX11 hown hK.1 hP hD hS 0 rfl rfl 12 (by decide) (hts (.fieldLink RX11 114 "NestQueryModel" "taped" "I") (by decide +kernel)) (fun _ h9 => h9) rfl (by decide +kernel) rfl rfl (Nat.le_of_ble_eq_true rfl) dX11_feed_111 (fun H locs hP hD hS => ?_)
  have hP : va_P G vwCl [(h0, .inr (11, [.int 0, .ref m_tree, .ref m_data, .ref m_made, .ref m_status, .int 0, .ref m_tape, .ref m_paths, .ref m_pathSize, .null, .int 0, .int 0, .int 3, .int 0, .int 0, .int 0, .int 0, .int 0, .int 0, .int 0, .int 0, .int (-1), .int 0, .ref m_set, .ref m_to, .int 0, .int 0, .int 0, .int 0, .int 0, .int 0, .ref m_lifted, .int 0, .int 0, .int 0, .ref m_order, .int 0, .ref m_past, .int 0, .ref m_rowKind, .ref m_rowSteps, .ref m_rowPath, .ref m_rowWas, .ref m_rowIs, .ref m_pool, .ref m_rowsMany, .ref m_poolMany, .ref m_way, .int 0, .ref m_out, .int 0, .int 0, .ref m_notedThing, .ref m_notedIs, .ref m_votes, .int 0, .int 0, .ref m_treeThen, .int 0, .int 0, .int 0, .ref m_imageTree, .ref m_pastThen, .ref m_notedThingThen, .ref m_notedIsThen, .ref m_statusThen])), (m_tape, .inl (y 0, 400, .inl f_16))] H := hP
  have hD : va_D A [(h0, .inr (11, [.int 0, .ref m_tree, .ref m_data, .ref m_made, .ref m_status, .int 0, .ref m_tape, .ref m_paths, .ref m_pathSize, .null, .int 0, .int 0, .int 3, .int 0, .int 0, .int 0, .int 0, .int 0, .int 0, .int 0, .int 0, .int (-1), .int 0, .ref m_set, .ref m_to, .int 0, .int 0, .int 0, .int 0, .int 0, .int 0, .ref m_lifted, .int 0, .int 0, .int 0, .ref m_order, .int 0, .ref m_past, .int 0, .ref m_rowKind, .ref m_rowSteps, .ref m_rowPath, .ref m_rowWas, .ref m_rowIs, .ref m_pool, .ref m_rowsMany, .ref m_poolMany, .ref m_way, .int 0, .ref m_out, .int 0, .int 0, .ref m_notedThing, .ref m_notedIs, .ref m_votes, .int 0, .int 0, .ref m_treeThen, .int 0, .int 0, .int 0, .ref m_imageTree, .ref m_pastThen, .ref m_notedThingThen, .ref m_notedIsThen, .ref m_statusThen])), (m_tape, .inl (y 0, 400, .inl f_16))] := hD
  refine lv_iinc (v := 3) (lv' := [(6, .int 3), (7, .int a1), (0, .ref h0), (1, .int a1), (2, .int a2), (3, .int a3), (4, .int a4), (5, .int a5)]) hx hb dX11_feed_114 hl (k := 1) rfl (by decide) (by decide) rfl (fun ls hl => ?_)
  refine lv_goto (tgt := 23) hx hb dX11_feed_117 (by decide) ?_
  refine lv_iload hx hb dX11_feed_23 (lv_at hl 0 rfl) ?_
  refine lv_bipush (v := 20) hx hb dX11_feed_25 (by decide) ?_
  refine lv_icmp_ge (tgt := 120) hx hb dX11_feed_27 (by decide) (fun c_17 => absurd c_17 (by decide)) (fun _ => ?_)
  refine lv_iload hx hb dX11_feed_30 (lv_at hl 0 rfl) ?_
  refine lv_iconst (v := 4) hx hb dX11_feed_32 (by decide) ?_
  refine lv_icmp_ge (tgt := 40) hx hb dX11_feed_33 (by decide) (fun c_18 => absurd c_18 (by decide)) (fun _ => ?_)
  refine lv_iload_n hx hb dX11_feed_36 rfl (lv_at hl 3 rfl) ?_
  refine lv_goto (tgt := 76) hx hb dX11_feed_37 (by decide) ?_
  refine lv_istore (lv' := [(7, .int a1), (6, .int 3), (0, .ref h0), (1, .int a1), (2, .int a2), (3, .int a3), (4, .int a4), (5, .int a5)]) hx hb dX11_feed_76 hl (by decide) rfl (fun ls hl => ?_)
  refine lv_aload_n hx hb dX11_feed_78 rfl (lv_at hl 2 rfl) ?_
  refine va_get (D := G) (ci := 11) (v := .ref m_tape) (C := RX11) (T := TX11) (N := 66) hx hb hts inX11 hown hK.1 hP 0 rfl rfl 6 (by decide) (hts (.fieldLink RX11 22 "NestQueryModel" "tape" "[I") (by decide +kernel)) (fun _ h9 => h9) rfl dX11_feed_79 ?_
  refine lv_aload_n hx hb dX11_feed_82 rfl (lv_at hl 2 rfl) ?_
  refine va_get (D := G) (ci := 11) (v := .int 3) (C := RX11) (T := TX11) (N := 66) hx hb hts inX11 hown hK.1 hP 0 rfl rfl 12 (by decide) (hts (.fieldLink RX11 114 "NestQueryModel" "taped" "I") (by decide +kernel)) (fun _ h9 => h9) rfl dX11_feed_83 ?_
  refine lv_iload hx hb dX11_feed_86 (lv_at hl 0 rfl) ?_
  refine lv_bipush (v := 24) hx hb dX11_feed_88 (by decide) ?_
  refine lv_bipush (v := 8) hx hb dX11_feed_90 (by decide) ?_
  refine lv_iload hx hb dX11_feed_92 (lv_at hl 1 rfl) ?_
  refine lv_iconst (v := 4) hx hb dX11_feed_94 (by decide) ?_
  refine lv_irem hx hb dX11_feed_95 (by decide) ?_
  refine nq_top (z := 3) (by decide) ?_
  refine lv_imul hx hb dX11_feed_96 ?_
  refine nq_top (z := 24) (by decide) ?_
  refine lv_isub hx hb dX11_feed_97 ?_
  refine nq_top (z := 0) (by decide) ?_
  refine lv_ishr hx hb dX11_feed_98 ?_
  refine lv_topi (fun w_19 _ => ?_)
  refine lv_sipush (v := 255) hx hb dX11_feed_99 (by decide) ?_
  refine lv_iand hx hb dX11_feed_102 ?_
  refine lv_topi (fun w_20 _ => ?_)
  refine va_iast hx hb hK.1 hP hD hS 1 0 rfl rfl (i := 3) (nq_in (by decide)) dX11_feed_103 (fun H locs hP hD hS => ?_)
  have hP : va_P G vwCl [(h0, .inr (11, [.int 0, .ref m_tree, .ref m_data, .ref m_made, .ref m_status, .int 0, .ref m_tape, .ref m_paths, .ref m_pathSize, .null, .int 0, .int 0, .int 3, .int 0, .int 0, .int 0, .int 0, .int 0, .int 0, .int 0, .int 0, .int (-1), .int 0, .ref m_set, .ref m_to, .int 0, .int 0, .int 0, .int 0, .int 0, .int 0, .ref m_lifted, .int 0, .int 0, .int 0, .ref m_order, .int 0, .ref m_past, .int 0, .ref m_rowKind, .ref m_rowSteps, .ref m_rowPath, .ref m_rowWas, .ref m_rowIs, .ref m_pool, .ref m_rowsMany, .ref m_poolMany, .ref m_way, .int 0, .ref m_out, .int 0, .int 0, .ref m_notedThing, .ref m_notedIs, .ref m_votes, .int 0, .int 0, .ref m_treeThen, .int 0, .int 0, .int 0, .ref m_imageTree, .ref m_pastThen, .ref m_notedThingThen, .ref m_notedIsThen, .ref m_statusThen])), (m_tape, .inl (y 0, 400, .inl (upd f_16 3 w_20)))] H := hP
  have hD : va_D A [(h0, .inr (11, [.int 0, .ref m_tree, .ref m_data, .ref m_made, .ref m_status, .int 0, .ref m_tape, .ref m_paths, .ref m_pathSize, .null, .int 0, .int 0, .int 3, .int 0, .int 0, .int 0, .int 0, .int 0, .int 0, .int 0, .int 0, .int (-1), .int 0, .ref m_set, .ref m_to, .int 0, .int 0, .int 0, .int 0, .int 0, .int 0, .ref m_lifted, .int 0, .int 0, .int 0, .ref m_order, .int 0, .ref m_past, .int 0, .ref m_rowKind, .ref m_rowSteps, .ref m_rowPath, .ref m_rowWas, .ref m_rowIs, .ref m_pool, .ref m_rowsMany, .ref m_poolMany, .ref m_way, .int 0, .ref m_out, .int 0, .int 0, .ref m_notedThing, .ref m_notedIs, .ref m_votes, .int 0, .int 0, .ref m_treeThen, .int 0, .int 0, .int 0, .ref m_imageTree, .ref m_pastThen, .ref m_notedThingThen, .ref m_notedIsThen, .ref m_statusThen])), (m_tape, .inl (y 0, 400, .inl (upd f_16 3 w_20)))] := hD
  generalize (upd f_16 3 w_20) = f_21 at hP hD
  refine lv_aload_n hx hb dX11_feed_104 rfl (lv_at hl 2 rfl) ?_
  refine lv_dup hx hb dX11_feed_105 rfl ?_
  refine va_get (D := G) (ci := 11) (v := .int 3) (C := RX11) (T := TX11) (N := 66) hx hb hts inX11 hown hK.1 hP 0 rfl rfl 12 (by decide) (hts (.fieldLink RX11 114 "NestQueryModel" "taped" "I") (by decide +kernel)) (fun _ h9 => h9) rfl dX11_feed_106 ?_
  refine lv_iconst (v := 1) hx hb dX11_feed_109 (by decide) ?_
  refine lv_iadd hx hb dX11_feed_110 ?_
  refine nq_top (z := 4) (by decide) ?_
  refine va_put (D := G) (ci := 11) (v := .int 4) (ty := .int) (C := RX11) (T := TX11) (N := 66) hx hb hts inX11 tyX11 tyX11_ok nmX11 hown hK.1 hP hD hS 0 rfl rfl 12 (by decide) (hts (.fieldLink RX11 114 "NestQueryModel" "taped" "I") (by decide +kernel)) (fun _ h9 => h9) rfl (by decide +kernel) rfl rfl (Nat.le_of_ble_eq_true rfl) dX11_feed_111 (fun H locs hP hD hS => ?_)
  have hP : va_P G vwCl [(h0, .inr (11, [.int 0, .ref m_tree, .ref m_data, .ref m_made, .ref m_status, .int 0, .ref m_tape, .ref m_paths, .ref m_pathSize, .null, .int 0, .int 0, .int 4, .int 0, .int 0, .int 0, .int 0, .int 0, .int 0, .int 0, .int 0, .int (-1), .int 0, .ref m_set, .ref m_to, .int 0, .int 0, .int 0, .int 0, .int 0, .int 0, .ref m_lifted, .int 0, .int 0, .int 0, .ref m_order, .int 0, .ref m_past, .int 0, .ref m_rowKind, .ref m_rowSteps, .ref m_rowPath, .ref m_rowWas, .ref m_rowIs, .ref m_pool, .ref m_rowsMany, .ref m_poolMany, .ref m_way, .int 0, .ref m_out, .int 0, .int 0, .ref m_notedThing, .ref m_notedIs, .ref m_votes, .int 0, .int 0, .ref m_treeThen, .int 0, .int 0, .int 0, .ref m_imageTree, .ref m_pastThen, .ref m_notedThingThen, .ref m_notedIsThen, .ref m_statusThen])), (m_tape, .inl (y 0, 400, .inl f_21))] H := hP
  have hD : va_D A [(h0, .inr (11, [.int 0, .ref m_tree, .ref m_data, .ref m_made, .ref m_status, .int 0, .ref m_tape, .ref m_paths, .ref m_pathSize, .null, .int 0, .int 0, .int 4, .int 0, .int 0, .int 0, .int 0, .int 0, .int 0, .int 0, .int 0, .int (-1), .int 0, .ref m_set, .ref m_to, .int 0, .int 0, .int 0, .int 0, .int 0, .int 0, .ref m_lifted, .int 0, .int 0, .int 0, .ref m_order, .int 0, .ref m_past, .int 0, .ref m_rowKind, .ref m_rowSteps, .ref m_rowPath, .ref m_rowWas, .ref m_rowIs, .ref m_pool, .ref m_rowsMany, .ref m_poolMany, .ref m_way, .int 0, .ref m_out, .int 0, .int 0, .ref m_notedThing, .ref m_notedIs, .ref m_votes, .int 0, .int 0, .ref m_treeThen, .int 0, .int 0, .int 0, .ref m_imageTree, .ref m_pastThen, .ref m_notedThingThen, .ref m_notedIsThen, .ref m_statusThen])), (m_tape, .inl (y 0, 400, .inl f_21))] := hD
  refine lv_iinc (v := 4) (lv' := [(6, .int 4), (7, .int a1), (0, .ref h0), (1, .int a1), (2, .int a2), (3, .int a3), (4, .int a4), (5, .int a5)]) hx hb dX11_feed_114 hl (k := 1) rfl (by decide) (by decide) rfl (fun ls hl => ?_)
  refine lv_goto (tgt := 23) hx hb dX11_feed_117 (by decide) ?_
  refine lv_iload hx hb dX11_feed_23 (lv_at hl 0 rfl) ?_
  refine lv_bipush (v := 20) hx hb dX11_feed_25 (by decide) ?_
  refine lv_icmp_ge (tgt := 120) hx hb dX11_feed_27 (by decide) (fun c_22 => absurd c_22 (by decide)) (fun _ => ?_)
  refine lv_iload hx hb dX11_feed_30 (lv_at hl 0 rfl) ?_
  refine lv_iconst (v := 4) hx hb dX11_feed_32 (by decide) ?_
  refine lv_icmp_ge (tgt := 40) hx hb dX11_feed_33 (by decide) (fun _ => ?_) (fun c_23 => absurd c_23 (by decide))
  refine lv_iload hx hb dX11_feed_40 (lv_at hl 0 rfl) ?_
  refine lv_bipush (v := 8) hx hb dX11_feed_42 (by decide) ?_
  refine lv_icmp_ge (tgt := 51) hx hb dX11_feed_44 (by decide) (fun c_24 => absurd c_24 (by decide)) (fun _ => ?_)
  refine lv_iload_n hx hb dX11_feed_47 rfl (lv_at hl 4 rfl) ?_
  refine lv_goto (tgt := 76) hx hb dX11_feed_48 (by decide) ?_
  refine lv_istore (lv' := [(7, .int a2), (6, .int 4), (0, .ref h0), (1, .int a1), (2, .int a2), (3, .int a3), (4, .int a4), (5, .int a5)]) hx hb dX11_feed_76 hl (by decide) rfl (fun ls hl => ?_)
  refine lv_aload_n hx hb dX11_feed_78 rfl (lv_at hl 2 rfl) ?_
  refine va_get (D := G) (ci := 11) (v := .ref m_tape) (C := RX11) (T := TX11) (N := 66) hx hb hts inX11 hown hK.1 hP 0 rfl rfl 6 (by decide) (hts (.fieldLink RX11 22 "NestQueryModel" "tape" "[I") (by decide +kernel)) (fun _ h9 => h9) rfl dX11_feed_79 ?_
  refine lv_aload_n hx hb dX11_feed_82 rfl (lv_at hl 2 rfl) ?_
  refine va_get (D := G) (ci := 11) (v := .int 4) (C := RX11) (T := TX11) (N := 66) hx hb hts inX11 hown hK.1 hP 0 rfl rfl 12 (by decide) (hts (.fieldLink RX11 114 "NestQueryModel" "taped" "I") (by decide +kernel)) (fun _ h9 => h9) rfl dX11_feed_83 ?_
  refine lv_iload hx hb dX11_feed_86 (lv_at hl 0 rfl) ?_
  refine lv_bipush (v := 24) hx hb dX11_feed_88 (by decide) ?_
  refine lv_bipush (v := 8) hx hb dX11_feed_90 (by decide) ?_
  refine lv_iload hx hb dX11_feed_92 (lv_at hl 1 rfl) ?_
  refine lv_iconst (v := 4) hx hb dX11_feed_94 (by decide) ?_
  refine lv_irem hx hb dX11_feed_95 (by decide) ?_
  refine nq_top (z := 0) (by decide) ?_
  refine lv_imul hx hb dX11_feed_96 ?_
  refine nq_top (z := 0) (by decide) ?_
  refine lv_isub hx hb dX11_feed_97 ?_
  refine nq_top (z := 24) (by decide) ?_
  refine lv_ishr hx hb dX11_feed_98 ?_
  refine lv_topi (fun w_25 _ => ?_)
  refine lv_sipush (v := 255) hx hb dX11_feed_99 (by decide) ?_
  refine lv_iand hx hb dX11_feed_102 ?_
  refine lv_topi (fun w_26 _ => ?_)
  refine va_iast hx hb hK.1 hP hD hS 1 0 rfl rfl (i := 4) (nq_in (by decide)) dX11_feed_103 (fun H locs hP hD hS => ?_)
  have hP : va_P G vwCl [(h0, .inr (11, [.int 0, .ref m_tree, .ref m_data, .ref m_made, .ref m_status, .int 0, .ref m_tape, .ref m_paths, .ref m_pathSize, .null, .int 0, .int 0, .int 4, .int 0, .int 0, .int 0, .int 0, .int 0, .int 0, .int 0, .int 0, .int (-1), .int 0, .ref m_set, .ref m_to, .int 0, .int 0, .int 0, .int 0, .int 0, .int 0, .ref m_lifted, .int 0, .int 0, .int 0, .ref m_order, .int 0, .ref m_past, .int 0, .ref m_rowKind, .ref m_rowSteps, .ref m_rowPath, .ref m_rowWas, .ref m_rowIs, .ref m_pool, .ref m_rowsMany, .ref m_poolMany, .ref m_way, .int 0, .ref m_out, .int 0, .int 0, .ref m_notedThing, .ref m_notedIs, .ref m_votes, .int 0, .int 0, .ref m_treeThen, .int 0, .int 0, .int 0, .ref m_imageTree, .ref m_pastThen, .ref m_notedThingThen, .ref m_notedIsThen, .ref m_statusThen])), (m_tape, .inl (y 0, 400, .inl (upd f_21 4 w_26)))] H := hP
  have hD : va_D A [(h0, .inr (11, [.int 0, .ref m_tree, .ref m_data, .ref m_made, .ref m_status, .int 0, .ref m_tape, .ref m_paths, .ref m_pathSize, .null, .int 0, .int 0, .int 4, .int 0, .int 0, .int 0, .int 0, .int 0, .int 0, .int 0, .int 0, .int (-1), .int 0, .ref m_set, .ref m_to, .int 0, .int 0, .int 0, .int 0, .int 0, .int 0, .ref m_lifted, .int 0, .int 0, .int 0, .ref m_order, .int 0, .ref m_past, .int 0, .ref m_rowKind, .ref m_rowSteps, .ref m_rowPath, .ref m_rowWas, .ref m_rowIs, .ref m_pool, .ref m_rowsMany, .ref m_poolMany, .ref m_way, .int 0, .ref m_out, .int 0, .int 0, .ref m_notedThing, .ref m_notedIs, .ref m_votes, .int 0, .int 0, .ref m_treeThen, .int 0, .int 0, .int 0, .ref m_imageTree, .ref m_pastThen, .ref m_notedThingThen, .ref m_notedIsThen, .ref m_statusThen])), (m_tape, .inl (y 0, 400, .inl (upd f_21 4 w_26)))] := hD
  generalize (upd f_21 4 w_26) = f_27 at hP hD
  refine lv_aload_n hx hb dX11_feed_104 rfl (lv_at hl 2 rfl) ?_
  refine lv_dup hx hb dX11_feed_105 rfl ?_
  refine va_get (D := G) (ci := 11) (v := .int 4) (C := RX11) (T := TX11) (N := 66) hx hb hts inX11 hown hK.1 hP 0 rfl rfl 12 (by decide) (hts (.fieldLink RX11 114 "NestQueryModel" "taped" "I") (by decide +kernel)) (fun _ h9 => h9) rfl dX11_feed_106 ?_
  refine lv_iconst (v := 1) hx hb dX11_feed_109 (by decide) ?_
  refine lv_iadd hx hb dX11_feed_110 ?_
  refine nq_top (z := 5) (by decide) ?_
  refine va_put (D := G) (ci := 11) (v := .int 5) (ty := .int) (C := RX11) (T := TX11) (N := 66) hx hb hts inX11 tyX11 tyX11_ok nmX11 hown hK.1 hP hD hS 0 rfl rfl 12 (by decide) (hts (.fieldLink RX11 114 "NestQueryModel" "taped" "I") (by decide +kernel)) (fun _ h9 => h9) rfl (by decide +kernel) rfl rfl (Nat.le_of_ble_eq_true rfl) dX11_feed_111 (fun H locs hP hD hS => ?_)
  have hP : va_P G vwCl [(h0, .inr (11, [.int 0, .ref m_tree, .ref m_data, .ref m_made, .ref m_status, .int 0, .ref m_tape, .ref m_paths, .ref m_pathSize, .null, .int 0, .int 0, .int 5, .int 0, .int 0, .int 0, .int 0, .int 0, .int 0, .int 0, .int 0, .int (-1), .int 0, .ref m_set, .ref m_to, .int 0, .int 0, .int 0, .int 0, .int 0, .int 0, .ref m_lifted, .int 0, .int 0, .int 0, .ref m_order, .int 0, .ref m_past, .int 0, .ref m_rowKind, .ref m_rowSteps, .ref m_rowPath, .ref m_rowWas, .ref m_rowIs, .ref m_pool, .ref m_rowsMany, .ref m_poolMany, .ref m_way, .int 0, .ref m_out, .int 0, .int 0, .ref m_notedThing, .ref m_notedIs, .ref m_votes, .int 0, .int 0, .ref m_treeThen, .int 0, .int 0, .int 0, .ref m_imageTree, .ref m_pastThen, .ref m_notedThingThen, .ref m_notedIsThen, .ref m_statusThen])), (m_tape, .inl (y 0, 400, .inl f_27))] H := hP
  have hD : va_D A [(h0, .inr (11, [.int 0, .ref m_tree, .ref m_data, .ref m_made, .ref m_status, .int 0, .ref m_tape, .ref m_paths, .ref m_pathSize, .null, .int 0, .int 0, .int 5, .int 0, .int 0, .int 0, .int 0, .int 0, .int 0, .int 0, .int 0, .int (-1), .int 0, .ref m_set, .ref m_to, .int 0, .int 0, .int 0, .int 0, .int 0, .int 0, .ref m_lifted, .int 0, .int 0, .int 0, .ref m_order, .int 0, .ref m_past, .int 0, .ref m_rowKind, .ref m_rowSteps, .ref m_rowPath, .ref m_rowWas, .ref m_rowIs, .ref m_pool, .ref m_rowsMany, .ref m_poolMany, .ref m_way, .int 0, .ref m_out, .int 0, .int 0, .ref m_notedThing, .ref m_notedIs, .ref m_votes, .int 0, .int 0, .ref m_treeThen, .int 0, .int 0, .int 0, .ref m_imageTree, .ref m_pastThen, .ref m_notedThingThen, .ref m_notedIsThen, .ref m_statusThen])), (m_tape, .inl (y 0, 400, .inl f_27))] := hD
  refine lv_iinc (v := 5) (lv' := [(6, .int 5), (7, .int a2), (0, .ref h0), (1, .int a1), (2, .int a2), (3, .int a3), (4, .int a4), (5, .int a5)]) hx hb dX11_feed_114 hl (k := 1) rfl (by decide) (by decide) rfl (fun ls hl => ?_)
  refine lv_goto (tgt := 23) hx hb dX11_feed_117 (by decide) ?_
  refine lv_iload hx hb dX11_feed_23 (lv_at hl 0 rfl) ?_
  refine lv_bipush (v := 20) hx hb dX11_feed_25 (by decide) ?_
  refine lv_icmp_ge (tgt := 120) hx hb dX11_feed_27 (by decide) (fun c_28 => absurd c_28 (by decide)) (fun _ => ?_)
  refine lv_iload hx hb dX11_feed_30 (lv_at hl 0 rfl) ?_
  refine lv_iconst (v := 4) hx hb dX11_feed_32 (by decide) ?_
  refine lv_icmp_ge (tgt := 40) hx hb dX11_feed_33 (by decide) (fun _ => ?_) (fun c_29 => absurd c_29 (by decide))
  refine lv_iload hx hb dX11_feed_40 (lv_at hl 0 rfl) ?_
  refine lv_bipush (v := 8) hx hb dX11_feed_42 (by decide) ?_
  refine lv_icmp_ge (tgt := 51) hx hb dX11_feed_44 (by decide) (fun c_30 => absurd c_30 (by decide)) (fun _ => ?_)
  refine lv_iload_n hx hb dX11_feed_47 rfl (lv_at hl 4 rfl) ?_
  refine lv_goto (tgt := 76) hx hb dX11_feed_48 (by decide) ?_
  refine lv_istore (lv' := [(7, .int a2), (6, .int 5), (0, .ref h0), (1, .int a1), (2, .int a2), (3, .int a3), (4, .int a4), (5, .int a5)]) hx hb dX11_feed_76 hl (by decide) rfl (fun ls hl => ?_)
  refine lv_aload_n hx hb dX11_feed_78 rfl (lv_at hl 2 rfl) ?_
  refine va_get (D := G) (ci := 11) (v := .ref m_tape) (C := RX11) (T := TX11) (N := 66) hx hb hts inX11 hown hK.1 hP 0 rfl rfl 6 (by decide) (hts (.fieldLink RX11 22 "NestQueryModel" "tape" "[I") (by decide +kernel)) (fun _ h9 => h9) rfl dX11_feed_79 ?_
  refine lv_aload_n hx hb dX11_feed_82 rfl (lv_at hl 2 rfl) ?_
  refine va_get (D := G) (ci := 11) (v := .int 5) (C := RX11) (T := TX11) (N := 66) hx hb hts inX11 hown hK.1 hP 0 rfl rfl 12 (by decide) (hts (.fieldLink RX11 114 "NestQueryModel" "taped" "I") (by decide +kernel)) (fun _ h9 => h9) rfl dX11_feed_83 ?_
  refine lv_iload hx hb dX11_feed_86 (lv_at hl 0 rfl) ?_
  refine lv_bipush (v := 24) hx hb dX11_feed_88 (by decide) ?_
  refine lv_bipush (v := 8) hx hb dX11_feed_90 (by decide) ?_
  refine lv_iload hx hb dX11_feed_92 (lv_at hl 1 rfl) ?_
  refine lv_iconst (v := 4) hx hb dX11_feed_94 (by decide) ?_
  refine lv_irem hx hb dX11_feed_95 (by decide) ?_
  refine nq_top (z := 1) (by decide) ?_
  refine lv_imul hx hb dX11_feed_96 ?_
  refine nq_top (z := 8) (by decide) ?_
  refine lv_isub hx hb dX11_feed_97 ?_
  refine nq_top (z := 16) (by decide) ?_
  refine lv_ishr hx hb dX11_feed_98 ?_
  refine lv_topi (fun w_31 _ => ?_)
  refine lv_sipush (v := 255) hx hb dX11_feed_99 (by decide) ?_
  refine lv_iand hx hb dX11_feed_102 ?_
  refine lv_topi (fun w_32 _ => ?_)
  refine va_iast hx hb hK.1 hP hD hS 1 0 rfl rfl (i := 5) (nq_in (by decide)) dX11_feed_103 (fun H locs hP hD hS => ?_)
  have hP : va_P G vwCl [(h0, .inr (11, [.int 0, .ref m_tree, .ref m_data, .ref m_made, .ref m_status, .int 0, .ref m_tape, .ref m_paths, .ref m_pathSize, .null, .int 0, .int 0, .int 5, .int 0, .int 0, .int 0, .int 0, .int 0, .int 0, .int 0, .int 0, .int (-1), .int 0, .ref m_set, .ref m_to, .int 0, .int 0, .int 0, .int 0, .int 0, .int 0, .ref m_lifted, .int 0, .int 0, .int 0, .ref m_order, .int 0, .ref m_past, .int 0, .ref m_rowKind, .ref m_rowSteps, .ref m_rowPath, .ref m_rowWas, .ref m_rowIs, .ref m_pool, .ref m_rowsMany, .ref m_poolMany, .ref m_way, .int 0, .ref m_out, .int 0, .int 0, .ref m_notedThing, .ref m_notedIs, .ref m_votes, .int 0, .int 0, .ref m_treeThen, .int 0, .int 0, .int 0, .ref m_imageTree, .ref m_pastThen, .ref m_notedThingThen, .ref m_notedIsThen, .ref m_statusThen])), (m_tape, .inl (y 0, 400, .inl (upd f_27 5 w_32)))] H := hP
  have hD : va_D A [(h0, .inr (11, [.int 0, .ref m_tree, .ref m_data, .ref m_made, .ref m_status, .int 0, .ref m_tape, .ref m_paths, .ref m_pathSize, .null, .int 0, .int 0, .int 5, .int 0, .int 0, .int 0, .int 0, .int 0, .int 0, .int 0, .int 0, .int (-1), .int 0, .ref m_set, .ref m_to, .int 0, .int 0, .int 0, .int 0, .int 0, .int 0, .ref m_lifted, .int 0, .int 0, .int 0, .ref m_order, .int 0, .ref m_past, .int 0, .ref m_rowKind, .ref m_rowSteps, .ref m_rowPath, .ref m_rowWas, .ref m_rowIs, .ref m_pool, .ref m_rowsMany, .ref m_poolMany, .ref m_way, .int 0, .ref m_out, .int 0, .int 0, .ref m_notedThing, .ref m_notedIs, .ref m_votes, .int 0, .int 0, .ref m_treeThen, .int 0, .int 0, .int 0, .ref m_imageTree, .ref m_pastThen, .ref m_notedThingThen, .ref m_notedIsThen, .ref m_statusThen])), (m_tape, .inl (y 0, 400, .inl (upd f_27 5 w_32)))] := hD
  generalize (upd f_27 5 w_32) = f_33 at hP hD
  refine lv_aload_n hx hb dX11_feed_104 rfl (lv_at hl 2 rfl) ?_
  refine lv_dup hx hb dX11_feed_105 rfl ?_
  refine va_get (D := G) (ci := 11) (v := .int 5) (C := RX11) (T := TX11) (N := 66) hx hb hts inX11 hown hK.1 hP 0 rfl rfl 12 (by decide) (hts (.fieldLink RX11 114 "NestQueryModel" "taped" "I") (by decide +kernel)) (fun _ h9 => h9) rfl dX11_feed_106 ?_
  refine lv_iconst (v := 1) hx hb dX11_feed_109 (by decide) ?_
  refine lv_iadd hx hb dX11_feed_110 ?_
  refine nq_top (z := 6) (by decide) ?_
  refine va_put (D := G) (ci := 11) (v := .int 6) (ty := .int) (C := RX11) (T := TX11) (N := 66) hx hb hts inX11 tyX11 tyX11_ok nmX11 hown hK.1 hP hD hS 0 rfl rfl 12 (by decide) (hts (.fieldLink RX11 114 "NestQueryModel" "taped" "I") (by decide +kernel)) (fun _ h9 => h9) rfl (by decide +kernel) rfl rfl (Nat.le_of_ble_eq_true rfl) dX11_feed_111 (fun H locs hP hD hS => ?_)
  have hP : va_P G vwCl [(h0, .inr (11, [.int 0, .ref m_tree, .ref m_data, .ref m_made, .ref m_status, .int 0, .ref m_tape, .ref m_paths, .ref m_pathSize, .null, .int 0, .int 0, .int 6, .int 0, .int 0, .int 0, .int 0, .int 0, .int 0, .int 0, .int 0, .int (-1), .int 0, .ref m_set, .ref m_to, .int 0, .int 0, .int 0, .int 0, .int 0, .int 0, .ref m_lifted, .int 0, .int 0, .int 0, .ref m_order, .int 0, .ref m_past, .int 0, .ref m_rowKind, .ref m_rowSteps, .ref m_rowPath, .ref m_rowWas, .ref m_rowIs, .ref m_pool, .ref m_rowsMany, .ref m_poolMany, .ref m_way, .int 0, .ref m_out, .int 0, .int 0, .ref m_notedThing, .ref m_notedIs, .ref m_votes, .int 0, .int 0, .ref m_treeThen, .int 0, .int 0, .int 0, .ref m_imageTree, .ref m_pastThen, .ref m_notedThingThen, .ref m_notedIsThen, .ref m_statusThen])), (m_tape, .inl (y 0, 400, .inl f_33))] H := hP
  have hD : va_D A [(h0, .inr (11, [.int 0, .ref m_tree, .ref m_data, .ref m_made, .ref m_status, .int 0, .ref m_tape, .ref m_paths, .ref m_pathSize, .null, .int 0, .int 0, .int 6, .int 0, .int 0, .int 0, .int 0, .int 0, .int 0, .int 0, .int 0, .int (-1), .int 0, .ref m_set, .ref m_to, .int 0, .int 0, .int 0, .int 0, .int 0, .int 0, .ref m_lifted, .int 0, .int 0, .int 0, .ref m_order, .int 0, .ref m_past, .int 0, .ref m_rowKind, .ref m_rowSteps, .ref m_rowPath, .ref m_rowWas, .ref m_rowIs, .ref m_pool, .ref m_rowsMany, .ref m_poolMany, .ref m_way, .int 0, .ref m_out, .int 0, .int 0, .ref m_notedThing, .ref m_notedIs, .ref m_votes, .int 0, .int 0, .ref m_treeThen, .int 0, .int 0, .int 0, .ref m_imageTree, .ref m_pastThen, .ref m_notedThingThen, .ref m_notedIsThen, .ref m_statusThen])), (m_tape, .inl (y 0, 400, .inl f_33))] := hD
  refine lv_iinc (v := 6) (lv' := [(6, .int 6), (7, .int a2), (0, .ref h0), (1, .int a1), (2, .int a2), (3, .int a3), (4, .int a4), (5, .int a5)]) hx hb dX11_feed_114 hl (k := 1) rfl (by decide) (by decide) rfl (fun ls hl => ?_)
  refine lv_goto (tgt := 23) hx hb dX11_feed_117 (by decide) ?_
  refine lv_iload hx hb dX11_feed_23 (lv_at hl 0 rfl) ?_
  refine lv_bipush (v := 20) hx hb dX11_feed_25 (by decide) ?_
  refine lv_icmp_ge (tgt := 120) hx hb dX11_feed_27 (by decide) (fun c_34 => absurd c_34 (by decide)) (fun _ => ?_)
  refine lv_iload hx hb dX11_feed_30 (lv_at hl 0 rfl) ?_
  refine lv_iconst (v := 4) hx hb dX11_feed_32 (by decide) ?_
  refine lv_icmp_ge (tgt := 40) hx hb dX11_feed_33 (by decide) (fun _ => ?_) (fun c_35 => absurd c_35 (by decide))
  refine lv_iload hx hb dX11_feed_40 (lv_at hl 0 rfl) ?_
  refine lv_bipush (v := 8) hx hb dX11_feed_42 (by decide) ?_
  refine lv_icmp_ge (tgt := 51) hx hb dX11_feed_44 (by decide) (fun c_36 => absurd c_36 (by decide)) (fun _ => ?_)
  refine lv_iload_n hx hb dX11_feed_47 rfl (lv_at hl 4 rfl) ?_
  refine lv_goto (tgt := 76) hx hb dX11_feed_48 (by decide) ?_
  refine lv_istore (lv' := [(7, .int a2), (6, .int 6), (0, .ref h0), (1, .int a1), (2, .int a2), (3, .int a3), (4, .int a4), (5, .int a5)]) hx hb dX11_feed_76 hl (by decide) rfl (fun ls hl => ?_)
  refine lv_aload_n hx hb dX11_feed_78 rfl (lv_at hl 2 rfl) ?_
  refine va_get (D := G) (ci := 11) (v := .ref m_tape) (C := RX11) (T := TX11) (N := 66) hx hb hts inX11 hown hK.1 hP 0 rfl rfl 6 (by decide) (hts (.fieldLink RX11 22 "NestQueryModel" "tape" "[I") (by decide +kernel)) (fun _ h9 => h9) rfl dX11_feed_79 ?_
  refine lv_aload_n hx hb dX11_feed_82 rfl (lv_at hl 2 rfl) ?_
  refine va_get (D := G) (ci := 11) (v := .int 6) (C := RX11) (T := TX11) (N := 66) hx hb hts inX11 hown hK.1 hP 0 rfl rfl 12 (by decide) (hts (.fieldLink RX11 114 "NestQueryModel" "taped" "I") (by decide +kernel)) (fun _ h9 => h9) rfl dX11_feed_83 ?_
  refine lv_iload hx hb dX11_feed_86 (lv_at hl 0 rfl) ?_
  refine lv_bipush (v := 24) hx hb dX11_feed_88 (by decide) ?_
  refine lv_bipush (v := 8) hx hb dX11_feed_90 (by decide) ?_
  refine lv_iload hx hb dX11_feed_92 (lv_at hl 1 rfl) ?_
  refine lv_iconst (v := 4) hx hb dX11_feed_94 (by decide) ?_
  refine lv_irem hx hb dX11_feed_95 (by decide) ?_
  refine nq_top (z := 2) (by decide) ?_
  refine lv_imul hx hb dX11_feed_96 ?_
  refine nq_top (z := 16) (by decide) ?_
  refine lv_isub hx hb dX11_feed_97 ?_
  refine nq_top (z := 8) (by decide) ?_
  refine lv_ishr hx hb dX11_feed_98 ?_
  refine lv_topi (fun w_37 _ => ?_)
  refine lv_sipush (v := 255) hx hb dX11_feed_99 (by decide) ?_
  refine lv_iand hx hb dX11_feed_102 ?_
  refine lv_topi (fun w_38 _ => ?_)
  refine va_iast hx hb hK.1 hP hD hS 1 0 rfl rfl (i := 6) (nq_in (by decide)) dX11_feed_103 (fun H locs hP hD hS => ?_)
  have hP : va_P G vwCl [(h0, .inr (11, [.int 0, .ref m_tree, .ref m_data, .ref m_made, .ref m_status, .int 0, .ref m_tape, .ref m_paths, .ref m_pathSize, .null, .int 0, .int 0, .int 6, .int 0, .int 0, .int 0, .int 0, .int 0, .int 0, .int 0, .int 0, .int (-1), .int 0, .ref m_set, .ref m_to, .int 0, .int 0, .int 0, .int 0, .int 0, .int 0, .ref m_lifted, .int 0, .int 0, .int 0, .ref m_order, .int 0, .ref m_past, .int 0, .ref m_rowKind, .ref m_rowSteps, .ref m_rowPath, .ref m_rowWas, .ref m_rowIs, .ref m_pool, .ref m_rowsMany, .ref m_poolMany, .ref m_way, .int 0, .ref m_out, .int 0, .int 0, .ref m_notedThing, .ref m_notedIs, .ref m_votes, .int 0, .int 0, .ref m_treeThen, .int 0, .int 0, .int 0, .ref m_imageTree, .ref m_pastThen, .ref m_notedThingThen, .ref m_notedIsThen, .ref m_statusThen])), (m_tape, .inl (y 0, 400, .inl (upd f_33 6 w_38)))] H := hP
  have hD : va_D A [(h0, .inr (11, [.int 0, .ref m_tree, .ref m_data, .ref m_made, .ref m_status, .int 0, .ref m_tape, .ref m_paths, .ref m_pathSize, .null, .int 0, .int 0, .int 6, .int 0, .int 0, .int 0, .int 0, .int 0, .int 0, .int 0, .int 0, .int (-1), .int 0, .ref m_set, .ref m_to, .int 0, .int 0, .int 0, .int 0, .int 0, .int 0, .ref m_lifted, .int 0, .int 0, .int 0, .ref m_order, .int 0, .ref m_past, .int 0, .ref m_rowKind, .ref m_rowSteps, .ref m_rowPath, .ref m_rowWas, .ref m_rowIs, .ref m_pool, .ref m_rowsMany, .ref m_poolMany, .ref m_way, .int 0, .ref m_out, .int 0, .int 0, .ref m_notedThing, .ref m_notedIs, .ref m_votes, .int 0, .int 0, .ref m_treeThen, .int 0, .int 0, .int 0, .ref m_imageTree, .ref m_pastThen, .ref m_notedThingThen, .ref m_notedIsThen, .ref m_statusThen])), (m_tape, .inl (y 0, 400, .inl (upd f_33 6 w_38)))] := hD
  generalize (upd f_33 6 w_38) = f_39 at hP hD
  refine lv_aload_n hx hb dX11_feed_104 rfl (lv_at hl 2 rfl) ?_
  refine lv_dup hx hb dX11_feed_105 rfl ?_
  refine va_get (D := G) (ci := 11) (v := .int 6) (C := RX11) (T := TX11) (N := 66) hx hb hts inX11 hown hK.1 hP 0 rfl rfl 12 (by decide) (hts (.fieldLink RX11 114 "NestQueryModel" "taped" "I") (by decide +kernel)) (fun _ h9 => h9) rfl dX11_feed_106 ?_
  refine lv_iconst (v := 1) hx hb dX11_feed_109 (by decide) ?_
  refine lv_iadd hx hb dX11_feed_110 ?_
  refine nq_top (z := 7) (by decide) ?_
  refine va_put (D := G) (ci := 11) (v := .int 7) (ty := .int) (C := RX11) (T := TX11) (N := 66) hx hb hts inX11 tyX11 tyX11_ok nmX11 hown hK.1 hP hD hS 0 rfl rfl 12 (by decide) (hts (.fieldLink RX11 114 "NestQueryModel" "taped" "I") (by decide +kernel)) (fun _ h9 => h9) rfl (by decide +kernel) rfl rfl (Nat.le_of_ble_eq_true rfl) dX11_feed_111 (fun H locs hP hD hS => ?_)
  have hP : va_P G vwCl [(h0, .inr (11, [.int 0, .ref m_tree, .ref m_data, .ref m_made, .ref m_status, .int 0, .ref m_tape, .ref m_paths, .ref m_pathSize, .null, .int 0, .int 0, .int 7, .int 0, .int 0, .int 0, .int 0, .int 0, .int 0, .int 0, .int 0, .int (-1), .int 0, .ref m_set, .ref m_to, .int 0, .int 0, .int 0, .int 0, .int 0, .int 0, .ref m_lifted, .int 0, .int 0, .int 0, .ref m_order, .int 0, .ref m_past, .int 0, .ref m_rowKind, .ref m_rowSteps, .ref m_rowPath, .ref m_rowWas, .ref m_rowIs, .ref m_pool, .ref m_rowsMany, .ref m_poolMany, .ref m_way, .int 0, .ref m_out, .int 0, .int 0, .ref m_notedThing, .ref m_notedIs, .ref m_votes, .int 0, .int 0, .ref m_treeThen, .int 0, .int 0, .int 0, .ref m_imageTree, .ref m_pastThen, .ref m_notedThingThen, .ref m_notedIsThen, .ref m_statusThen])), (m_tape, .inl (y 0, 400, .inl f_39))] H := hP
  have hD : va_D A [(h0, .inr (11, [.int 0, .ref m_tree, .ref m_data, .ref m_made, .ref m_status, .int 0, .ref m_tape, .ref m_paths, .ref m_pathSize, .null, .int 0, .int 0, .int 7, .int 0, .int 0, .int 0, .int 0, .int 0, .int 0, .int 0, .int 0, .int (-1), .int 0, .ref m_set, .ref m_to, .int 0, .int 0, .int 0, .int 0, .int 0, .int 0, .ref m_lifted, .int 0, .int 0, .int 0, .ref m_order, .int 0, .ref m_past, .int 0, .ref m_rowKind, .ref m_rowSteps, .ref m_rowPath, .ref m_rowWas, .ref m_rowIs, .ref m_pool, .ref m_rowsMany, .ref m_poolMany, .ref m_way, .int 0, .ref m_out, .int 0, .int 0, .ref m_notedThing, .ref m_notedIs, .ref m_votes, .int 0, .int 0, .ref m_treeThen, .int 0, .int 0, .int 0, .ref m_imageTree, .ref m_pastThen, .ref m_notedThingThen, .ref m_notedIsThen, .ref m_statusThen])), (m_tape, .inl (y 0, 400, .inl f_39))] := hD
  refine lv_iinc (v := 7) (lv' := [(6, .int 7), (7, .int a2), (0, .ref h0), (1, .int a1), (2, .int a2), (3, .int a3), (4, .int a4), (5, .int a5)]) hx hb dX11_feed_114 hl (k := 1) rfl (by decide) (by decide) rfl (fun ls hl => ?_)
  refine lv_goto (tgt := 23) hx hb dX11_feed_117 (by decide) ?_
  refine lv_iload hx hb dX11_feed_23 (lv_at hl 0 rfl) ?_
  refine lv_bipush (v := 20) hx hb dX11_feed_25 (by decide) ?_
  refine lv_icmp_ge (tgt := 120) hx hb dX11_feed_27 (by decide) (fun c_40 => absurd c_40 (by decide)) (fun _ => ?_)
  refine lv_iload hx hb dX11_feed_30 (lv_at hl 0 rfl) ?_
  refine lv_iconst (v := 4) hx hb dX11_feed_32 (by decide) ?_
  refine lv_icmp_ge (tgt := 40) hx hb dX11_feed_33 (by decide) (fun _ => ?_) (fun c_41 => absurd c_41 (by decide))
  refine lv_iload hx hb dX11_feed_40 (lv_at hl 0 rfl) ?_
  refine lv_bipush (v := 8) hx hb dX11_feed_42 (by decide) ?_
  refine lv_icmp_ge (tgt := 51) hx hb dX11_feed_44 (by decide) (fun c_42 => absurd c_42 (by decide)) (fun _ => ?_)
  refine lv_iload_n hx hb dX11_feed_47 rfl (lv_at hl 4 rfl) ?_
  refine lv_goto (tgt := 76) hx hb dX11_feed_48 (by decide) ?_
  refine lv_istore (lv' := [(7, .int a2), (6, .int 7), (0, .ref h0), (1, .int a1), (2, .int a2), (3, .int a3), (4, .int a4), (5, .int a5)]) hx hb dX11_feed_76 hl (by decide) rfl (fun ls hl => ?_)
  refine lv_aload_n hx hb dX11_feed_78 rfl (lv_at hl 2 rfl) ?_
  refine va_get (D := G) (ci := 11) (v := .ref m_tape) (C := RX11) (T := TX11) (N := 66) hx hb hts inX11 hown hK.1 hP 0 rfl rfl 6 (by decide) (hts (.fieldLink RX11 22 "NestQueryModel" "tape" "[I") (by decide +kernel)) (fun _ h9 => h9) rfl dX11_feed_79 ?_
  refine lv_aload_n hx hb dX11_feed_82 rfl (lv_at hl 2 rfl) ?_
  refine va_get (D := G) (ci := 11) (v := .int 7) (C := RX11) (T := TX11) (N := 66) hx hb hts inX11 hown hK.1 hP 0 rfl rfl 12 (by decide) (hts (.fieldLink RX11 114 "NestQueryModel" "taped" "I") (by decide +kernel)) (fun _ h9 => h9) rfl dX11_feed_83 ?_
  refine lv_iload hx hb dX11_feed_86 (lv_at hl 0 rfl) ?_
  refine lv_bipush (v := 24) hx hb dX11_feed_88 (by decide) ?_
  refine lv_bipush (v := 8) hx hb dX11_feed_90 (by decide) ?_
  refine lv_iload hx hb dX11_feed_92 (lv_at hl 1 rfl) ?_
  refine lv_iconst (v := 4) hx hb dX11_feed_94 (by decide) ?_
  refine lv_irem hx hb dX11_feed_95 (by decide) ?_
  refine nq_top (z := 3) (by decide) ?_
  refine lv_imul hx hb dX11_feed_96 ?_
  refine nq_top (z := 24) (by decide) ?_
  refine lv_isub hx hb dX11_feed_97 ?_
  refine nq_top (z := 0) (by decide) ?_
  refine lv_ishr hx hb dX11_feed_98 ?_
  refine lv_topi (fun w_43 _ => ?_)
  refine lv_sipush (v := 255) hx hb dX11_feed_99 (by decide) ?_
  refine lv_iand hx hb dX11_feed_102 ?_
  refine lv_topi (fun w_44 _ => ?_)
  refine va_iast hx hb hK.1 hP hD hS 1 0 rfl rfl (i := 7) (nq_in (by decide)) dX11_feed_103 (fun H locs hP hD hS => ?_)
  have hP : va_P G vwCl [(h0, .inr (11, [.int 0, .ref m_tree, .ref m_data, .ref m_made, .ref m_status, .int 0, .ref m_tape, .ref m_paths, .ref m_pathSize, .null, .int 0, .int 0, .int 7, .int 0, .int 0, .int 0, .int 0, .int 0, .int 0, .int 0, .int 0, .int (-1), .int 0, .ref m_set, .ref m_to, .int 0, .int 0, .int 0, .int 0, .int 0, .int 0, .ref m_lifted, .int 0, .int 0, .int 0, .ref m_order, .int 0, .ref m_past, .int 0, .ref m_rowKind, .ref m_rowSteps, .ref m_rowPath, .ref m_rowWas, .ref m_rowIs, .ref m_pool, .ref m_rowsMany, .ref m_poolMany, .ref m_way, .int 0, .ref m_out, .int 0, .int 0, .ref m_notedThing, .ref m_notedIs, .ref m_votes, .int 0, .int 0, .ref m_treeThen, .int 0, .int 0, .int 0, .ref m_imageTree, .ref m_pastThen, .ref m_notedThingThen, .ref m_notedIsThen, .ref m_statusThen])), (m_tape, .inl (y 0, 400, .inl (upd f_39 7 w_44)))] H := hP
  have hD : va_D A [(h0, .inr (11, [.int 0, .ref m_tree, .ref m_data, .ref m_made, .ref m_status, .int 0, .ref m_tape, .ref m_paths, .ref m_pathSize, .null, .int 0, .int 0, .int 7, .int 0, .int 0, .int 0, .int 0, .int 0, .int 0, .int 0, .int 0, .int (-1), .int 0, .ref m_set, .ref m_to, .int 0, .int 0, .int 0, .int 0, .int 0, .int 0, .ref m_lifted, .int 0, .int 0, .int 0, .ref m_order, .int 0, .ref m_past, .int 0, .ref m_rowKind, .ref m_rowSteps, .ref m_rowPath, .ref m_rowWas, .ref m_rowIs, .ref m_pool, .ref m_rowsMany, .ref m_poolMany, .ref m_way, .int 0, .ref m_out, .int 0, .int 0, .ref m_notedThing, .ref m_notedIs, .ref m_votes, .int 0, .int 0, .ref m_treeThen, .int 0, .int 0, .int 0, .ref m_imageTree, .ref m_pastThen, .ref m_notedThingThen, .ref m_notedIsThen, .ref m_statusThen])), (m_tape, .inl (y 0, 400, .inl (upd f_39 7 w_44)))] := hD
  generalize (upd f_39 7 w_44) = f_45 at hP hD
  refine lv_aload_n hx hb dX11_feed_104 rfl (lv_at hl 2 rfl) ?_
  refine lv_dup hx hb dX11_feed_105 rfl ?_
  refine va_get (D := G) (ci := 11) (v := .int 7) (C := RX11) (T := TX11) (N := 66) hx hb hts inX11 hown hK.1 hP 0 rfl rfl 12 (by decide) (hts (.fieldLink RX11 114 "NestQueryModel" "taped" "I") (by decide +kernel)) (fun _ h9 => h9) rfl dX11_feed_106 ?_
  refine lv_iconst (v := 1) hx hb dX11_feed_109 (by decide) ?_
  refine lv_iadd hx hb dX11_feed_110 ?_
  refine nq_top (z := 8) (by decide) ?_
  refine va_put (D := G) (ci := 11) (v := .int 8) (ty := .int) (C := RX11) (T := TX11) (N := 66) hx hb hts inX11 tyX11 tyX11_ok nmX11 hown hK.1 hP hD hS 0 rfl rfl 12 (by decide) (hts (.fieldLink RX11 114 "NestQueryModel" "taped" "I") (by decide +kernel)) (fun _ h9 => h9) rfl (by decide +kernel) rfl rfl (Nat.le_of_ble_eq_true rfl) dX11_feed_111 (fun H locs hP hD hS => ?_)
  have hP : va_P G vwCl [(h0, .inr (11, [.int 0, .ref m_tree, .ref m_data, .ref m_made, .ref m_status, .int 0, .ref m_tape, .ref m_paths, .ref m_pathSize, .null, .int 0, .int 0, .int 8, .int 0, .int 0, .int 0, .int 0, .int 0, .int 0, .int 0, .int 0, .int (-1), .int 0, .ref m_set, .ref m_to, .int 0, .int 0, .int 0, .int 0, .int 0, .int 0, .ref m_lifted, .int 0, .int 0, .int 0, .ref m_order, .int 0, .ref m_past, .int 0, .ref m_rowKind, .ref m_rowSteps, .ref m_rowPath, .ref m_rowWas, .ref m_rowIs, .ref m_pool, .ref m_rowsMany, .ref m_poolMany, .ref m_way, .int 0, .ref m_out, .int 0, .int 0, .ref m_notedThing, .ref m_notedIs, .ref m_votes, .int 0, .int 0, .ref m_treeThen, .int 0, .int 0, .int 0, .ref m_imageTree, .ref m_pastThen, .ref m_notedThingThen, .ref m_notedIsThen, .ref m_statusThen])), (m_tape, .inl (y 0, 400, .inl f_45))] H := hP
  have hD : va_D A [(h0, .inr (11, [.int 0, .ref m_tree, .ref m_data, .ref m_made, .ref m_status, .int 0, .ref m_tape, .ref m_paths, .ref m_pathSize, .null, .int 0, .int 0, .int 8, .int 0, .int 0, .int 0, .int 0, .int 0, .int 0, .int 0, .int 0, .int (-1), .int 0, .ref m_set, .ref m_to, .int 0, .int 0, .int 0, .int 0, .int 0, .int 0, .ref m_lifted, .int 0, .int 0, .int 0, .ref m_order, .int 0, .ref m_past, .int 0, .ref m_rowKind, .ref m_rowSteps, .ref m_rowPath, .ref m_rowWas, .ref m_rowIs, .ref m_pool, .ref m_rowsMany, .ref m_poolMany, .ref m_way, .int 0, .ref m_out, .int 0, .int 0, .ref m_notedThing, .ref m_notedIs, .ref m_votes, .int 0, .int 0, .ref m_treeThen, .int 0, .int 0, .int 0, .ref m_imageTree, .ref m_pastThen, .ref m_notedThingThen, .ref m_notedIsThen, .ref m_statusThen])), (m_tape, .inl (y 0, 400, .inl f_45))] := hD
  refine lv_iinc (v := 8) (lv' := [(6, .int 8), (7, .int a2), (0, .ref h0), (1, .int a1), (2, .int a2), (3, .int a3), (4, .int a4), (5, .int a5)]) hx hb dX11_feed_114 hl (k := 1) rfl (by decide) (by decide) rfl (fun ls hl => ?_)
  refine lv_goto (tgt := 23) hx hb dX11_feed_117 (by decide) ?_
  refine lv_iload hx hb dX11_feed_23 (lv_at hl 0 rfl) ?_
  refine lv_bipush (v := 20) hx hb dX11_feed_25 (by decide) ?_
  refine lv_icmp_ge (tgt := 120) hx hb dX11_feed_27 (by decide) (fun c_46 => absurd c_46 (by decide)) (fun _ => ?_)
  refine lv_iload hx hb dX11_feed_30 (lv_at hl 0 rfl) ?_
  refine lv_iconst (v := 4) hx hb dX11_feed_32 (by decide) ?_
  refine lv_icmp_ge (tgt := 40) hx hb dX11_feed_33 (by decide) (fun _ => ?_) (fun c_47 => absurd c_47 (by decide))
  refine lv_iload hx hb dX11_feed_40 (lv_at hl 0 rfl) ?_
  refine lv_bipush (v := 8) hx hb dX11_feed_42 (by decide) ?_
  refine lv_icmp_ge (tgt := 51) hx hb dX11_feed_44 (by decide) (fun _ => ?_) (fun c_48 => absurd c_48 (by decide))
  refine lv_iload hx hb dX11_feed_51 (lv_at hl 0 rfl) ?_
  refine lv_bipush (v := 12) hx hb dX11_feed_53 (by decide) ?_
  refine lv_icmp_ge (tgt := 62) hx hb dX11_feed_55 (by decide) (fun c_49 => absurd c_49 (by decide)) (fun _ => ?_)
  refine lv_iload_n hx hb dX11_feed_58 rfl (lv_at hl 5 rfl) ?_
  refine lv_goto (tgt := 76) hx hb dX11_feed_59 (by decide) ?_
  refine lv_istore (lv' := [(7, .int a3), (6, .int 8), (0, .ref h0), (1, .int a1), (2, .int a2), (3, .int a3), (4, .int a4), (5, .int a5)]) hx hb dX11_feed_76 hl (by decide) rfl (fun ls hl => ?_)
  refine lv_aload_n hx hb dX11_feed_78 rfl (lv_at hl 2 rfl) ?_
  refine va_get (D := G) (ci := 11) (v := .ref m_tape) (C := RX11) (T := TX11) (N := 66) hx hb hts inX11 hown hK.1 hP 0 rfl rfl 6 (by decide) (hts (.fieldLink RX11 22 "NestQueryModel" "tape" "[I") (by decide +kernel)) (fun _ h9 => h9) rfl dX11_feed_79 ?_
  refine lv_aload_n hx hb dX11_feed_82 rfl (lv_at hl 2 rfl) ?_
  refine va_get (D := G) (ci := 11) (v := .int 8) (C := RX11) (T := TX11) (N := 66) hx hb hts inX11 hown hK.1 hP 0 rfl rfl 12 (by decide) (hts (.fieldLink RX11 114 "NestQueryModel" "taped" "I") (by decide +kernel)) (fun _ h9 => h9) rfl dX11_feed_83 ?_
  refine lv_iload hx hb dX11_feed_86 (lv_at hl 0 rfl) ?_
  refine lv_bipush (v := 24) hx hb dX11_feed_88 (by decide) ?_
  refine lv_bipush (v := 8) hx hb dX11_feed_90 (by decide) ?_
  refine lv_iload hx hb dX11_feed_92 (lv_at hl 1 rfl) ?_
  refine lv_iconst (v := 4) hx hb dX11_feed_94 (by decide) ?_
  refine lv_irem hx hb dX11_feed_95 (by decide) ?_
  refine nq_top (z := 0) (by decide) ?_
  refine lv_imul hx hb dX11_feed_96 ?_
  refine nq_top (z := 0) (by decide) ?_
  refine lv_isub hx hb dX11_feed_97 ?_
  refine nq_top (z := 24) (by decide) ?_
  refine lv_ishr hx hb dX11_feed_98 ?_
  refine lv_topi (fun w_50 _ => ?_)
  refine lv_sipush (v := 255) hx hb dX11_feed_99 (by decide) ?_
  refine lv_iand hx hb dX11_feed_102 ?_
  refine lv_topi (fun w_51 _ => ?_)
  refine va_iast hx hb hK.1 hP hD hS 1 0 rfl rfl (i := 8) (nq_in (by decide)) dX11_feed_103 (fun H locs hP hD hS => ?_)
  have hP : va_P G vwCl [(h0, .inr (11, [.int 0, .ref m_tree, .ref m_data, .ref m_made, .ref m_status, .int 0, .ref m_tape, .ref m_paths, .ref m_pathSize, .null, .int 0, .int 0, .int 8, .int 0, .int 0, .int 0, .int 0, .int 0, .int 0, .int 0, .int 0, .int (-1), .int 0, .ref m_set, .ref m_to, .int 0, .int 0, .int 0, .int 0, .int 0, .int 0, .ref m_lifted, .int 0, .int 0, .int 0, .ref m_order, .int 0, .ref m_past, .int 0, .ref m_rowKind, .ref m_rowSteps, .ref m_rowPath, .ref m_rowWas, .ref m_rowIs, .ref m_pool, .ref m_rowsMany, .ref m_poolMany, .ref m_way, .int 0, .ref m_out, .int 0, .int 0, .ref m_notedThing, .ref m_notedIs, .ref m_votes, .int 0, .int 0, .ref m_treeThen, .int 0, .int 0, .int 0, .ref m_imageTree, .ref m_pastThen, .ref m_notedThingThen, .ref m_notedIsThen, .ref m_statusThen])), (m_tape, .inl (y 0, 400, .inl (upd f_45 8 w_51)))] H := hP
  have hD : va_D A [(h0, .inr (11, [.int 0, .ref m_tree, .ref m_data, .ref m_made, .ref m_status, .int 0, .ref m_tape, .ref m_paths, .ref m_pathSize, .null, .int 0, .int 0, .int 8, .int 0, .int 0, .int 0, .int 0, .int 0, .int 0, .int 0, .int 0, .int (-1), .int 0, .ref m_set, .ref m_to, .int 0, .int 0, .int 0, .int 0, .int 0, .int 0, .ref m_lifted, .int 0, .int 0, .int 0, .ref m_order, .int 0, .ref m_past, .int 0, .ref m_rowKind, .ref m_rowSteps, .ref m_rowPath, .ref m_rowWas, .ref m_rowIs, .ref m_pool, .ref m_rowsMany, .ref m_poolMany, .ref m_way, .int 0, .ref m_out, .int 0, .int 0, .ref m_notedThing, .ref m_notedIs, .ref m_votes, .int 0, .int 0, .ref m_treeThen, .int 0, .int 0, .int 0, .ref m_imageTree, .ref m_pastThen, .ref m_notedThingThen, .ref m_notedIsThen, .ref m_statusThen])), (m_tape, .inl (y 0, 400, .inl (upd f_45 8 w_51)))] := hD
  generalize (upd f_45 8 w_51) = f_52 at hP hD
  refine lv_aload_n hx hb dX11_feed_104 rfl (lv_at hl 2 rfl) ?_
  refine lv_dup hx hb dX11_feed_105 rfl ?_
  refine va_get (D := G) (ci := 11) (v := .int 8) (C := RX11) (T := TX11) (N := 66) hx hb hts inX11 hown hK.1 hP 0 rfl rfl 12 (by decide) (hts (.fieldLink RX11 114 "NestQueryModel" "taped" "I") (by decide +kernel)) (fun _ h9 => h9) rfl dX11_feed_106 ?_
  refine lv_iconst (v := 1) hx hb dX11_feed_109 (by decide) ?_
  refine lv_iadd hx hb dX11_feed_110 ?_
  refine nq_top (z := 9) (by decide) ?_
  refine va_put (D := G) (ci := 11) (v := .int 9) (ty := .int) (C := RX11) (T := TX11) (N := 66) hx hb hts inX11 tyX11 tyX11_ok nmX11 hown hK.1 hP hD hS 0 rfl rfl 12 (by decide) (hts (.fieldLink RX11 114 "NestQueryModel" "taped" "I") (by decide +kernel)) (fun _ h9 => h9) rfl (by decide +kernel) rfl rfl (Nat.le_of_ble_eq_true rfl) dX11_feed_111 (fun H locs hP hD hS => ?_)
  have hP : va_P G vwCl [(h0, .inr (11, [.int 0, .ref m_tree, .ref m_data, .ref m_made, .ref m_status, .int 0, .ref m_tape, .ref m_paths, .ref m_pathSize, .null, .int 0, .int 0, .int 9, .int 0, .int 0, .int 0, .int 0, .int 0, .int 0, .int 0, .int 0, .int (-1), .int 0, .ref m_set, .ref m_to, .int 0, .int 0, .int 0, .int 0, .int 0, .int 0, .ref m_lifted, .int 0, .int 0, .int 0, .ref m_order, .int 0, .ref m_past, .int 0, .ref m_rowKind, .ref m_rowSteps, .ref m_rowPath, .ref m_rowWas, .ref m_rowIs, .ref m_pool, .ref m_rowsMany, .ref m_poolMany, .ref m_way, .int 0, .ref m_out, .int 0, .int 0, .ref m_notedThing, .ref m_notedIs, .ref m_votes, .int 0, .int 0, .ref m_treeThen, .int 0, .int 0, .int 0, .ref m_imageTree, .ref m_pastThen, .ref m_notedThingThen, .ref m_notedIsThen, .ref m_statusThen])), (m_tape, .inl (y 0, 400, .inl f_52))] H := hP
  have hD : va_D A [(h0, .inr (11, [.int 0, .ref m_tree, .ref m_data, .ref m_made, .ref m_status, .int 0, .ref m_tape, .ref m_paths, .ref m_pathSize, .null, .int 0, .int 0, .int 9, .int 0, .int 0, .int 0, .int 0, .int 0, .int 0, .int 0, .int 0, .int (-1), .int 0, .ref m_set, .ref m_to, .int 0, .int 0, .int 0, .int 0, .int 0, .int 0, .ref m_lifted, .int 0, .int 0, .int 0, .ref m_order, .int 0, .ref m_past, .int 0, .ref m_rowKind, .ref m_rowSteps, .ref m_rowPath, .ref m_rowWas, .ref m_rowIs, .ref m_pool, .ref m_rowsMany, .ref m_poolMany, .ref m_way, .int 0, .ref m_out, .int 0, .int 0, .ref m_notedThing, .ref m_notedIs, .ref m_votes, .int 0, .int 0, .ref m_treeThen, .int 0, .int 0, .int 0, .ref m_imageTree, .ref m_pastThen, .ref m_notedThingThen, .ref m_notedIsThen, .ref m_statusThen])), (m_tape, .inl (y 0, 400, .inl f_52))] := hD
  refine lv_iinc (v := 9) (lv' := [(6, .int 9), (7, .int a3), (0, .ref h0), (1, .int a1), (2, .int a2), (3, .int a3), (4, .int a4), (5, .int a5)]) hx hb dX11_feed_114 hl (k := 1) rfl (by decide) (by decide) rfl (fun ls hl => ?_)
  refine lv_goto (tgt := 23) hx hb dX11_feed_117 (by decide) ?_
  refine lv_iload hx hb dX11_feed_23 (lv_at hl 0 rfl) ?_
  refine lv_bipush (v := 20) hx hb dX11_feed_25 (by decide) ?_
  refine lv_icmp_ge (tgt := 120) hx hb dX11_feed_27 (by decide) (fun c_53 => absurd c_53 (by decide)) (fun _ => ?_)
  refine lv_iload hx hb dX11_feed_30 (lv_at hl 0 rfl) ?_
  refine lv_iconst (v := 4) hx hb dX11_feed_32 (by decide) ?_
  refine lv_icmp_ge (tgt := 40) hx hb dX11_feed_33 (by decide) (fun _ => ?_) (fun c_54 => absurd c_54 (by decide))
  refine lv_iload hx hb dX11_feed_40 (lv_at hl 0 rfl) ?_
  refine lv_bipush (v := 8) hx hb dX11_feed_42 (by decide) ?_
  refine lv_icmp_ge (tgt := 51) hx hb dX11_feed_44 (by decide) (fun _ => ?_) (fun c_55 => absurd c_55 (by decide))
  refine lv_iload hx hb dX11_feed_51 (lv_at hl 0 rfl) ?_
  refine lv_bipush (v := 12) hx hb dX11_feed_53 (by decide) ?_
  refine lv_icmp_ge (tgt := 62) hx hb dX11_feed_55 (by decide) (fun c_56 => absurd c_56 (by decide)) (fun _ => ?_)
  refine lv_iload_n hx hb dX11_feed_58 rfl (lv_at hl 5 rfl) ?_
  refine lv_goto (tgt := 76) hx hb dX11_feed_59 (by decide) ?_
  refine lv_istore (lv' := [(7, .int a3), (6, .int 9), (0, .ref h0), (1, .int a1), (2, .int a2), (3, .int a3), (4, .int a4), (5, .int a5)]) hx hb dX11_feed_76 hl (by decide) rfl (fun ls hl => ?_)
  refine lv_aload_n hx hb dX11_feed_78 rfl (lv_at hl 2 rfl) ?_
  refine va_get (D := G) (ci := 11) (v := .ref m_tape) (C := RX11) (T := TX11) (N := 66) hx hb hts inX11 hown hK.1 hP 0 rfl rfl 6 (by decide) (hts (.fieldLink RX11 22 "NestQueryModel" "tape" "[I") (by decide +kernel)) (fun _ h9 => h9) rfl dX11_feed_79 ?_
  refine lv_aload_n hx hb dX11_feed_82 rfl (lv_at hl 2 rfl) ?_
  refine va_get (D := G) (ci := 11) (v := .int 9) (C := RX11) (T := TX11) (N := 66) hx hb hts inX11 hown hK.1 hP 0 rfl rfl 12 (by decide) (hts (.fieldLink RX11 114 "NestQueryModel" "taped" "I") (by decide +kernel)) (fun _ h9 => h9) rfl dX11_feed_83 ?_
  refine lv_iload hx hb dX11_feed_86 (lv_at hl 0 rfl) ?_
  refine lv_bipush (v := 24) hx hb dX11_feed_88 (by decide) ?_
  refine lv_bipush (v := 8) hx hb dX11_feed_90 (by decide) ?_
  refine lv_iload hx hb dX11_feed_92 (lv_at hl 1 rfl) ?_
  refine lv_iconst (v := 4) hx hb dX11_feed_94 (by decide) ?_
  refine lv_irem hx hb dX11_feed_95 (by decide) ?_
  refine nq_top (z := 1) (by decide) ?_
  refine lv_imul hx hb dX11_feed_96 ?_
  refine nq_top (z := 8) (by decide) ?_
  refine lv_isub hx hb dX11_feed_97 ?_
  refine nq_top (z := 16) (by decide) ?_
  refine lv_ishr hx hb dX11_feed_98 ?_
  refine lv_topi (fun w_57 _ => ?_)
  refine lv_sipush (v := 255) hx hb dX11_feed_99 (by decide) ?_
  refine lv_iand hx hb dX11_feed_102 ?_
  refine lv_topi (fun w_58 _ => ?_)
  refine va_iast hx hb hK.1 hP hD hS 1 0 rfl rfl (i := 9) (nq_in (by decide)) dX11_feed_103 (fun H locs hP hD hS => ?_)
  have hP : va_P G vwCl [(h0, .inr (11, [.int 0, .ref m_tree, .ref m_data, .ref m_made, .ref m_status, .int 0, .ref m_tape, .ref m_paths, .ref m_pathSize, .null, .int 0, .int 0, .int 9, .int 0, .int 0, .int 0, .int 0, .int 0, .int 0, .int 0, .int 0, .int (-1), .int 0, .ref m_set, .ref m_to, .int 0, .int 0, .int 0, .int 0, .int 0, .int 0, .ref m_lifted, .int 0, .int 0, .int 0, .ref m_order, .int 0, .ref m_past, .int 0, .ref m_rowKind, .ref m_rowSteps, .ref m_rowPath, .ref m_rowWas, .ref m_rowIs, .ref m_pool, .ref m_rowsMany, .ref m_poolMany, .ref m_way, .int 0, .ref m_out, .int 0, .int 0, .ref m_notedThing, .ref m_notedIs, .ref m_votes, .int 0, .int 0, .ref m_treeThen, .int 0, .int 0, .int 0, .ref m_imageTree, .ref m_pastThen, .ref m_notedThingThen, .ref m_notedIsThen, .ref m_statusThen])), (m_tape, .inl (y 0, 400, .inl (upd f_52 9 w_58)))] H := hP
  have hD : va_D A [(h0, .inr (11, [.int 0, .ref m_tree, .ref m_data, .ref m_made, .ref m_status, .int 0, .ref m_tape, .ref m_paths, .ref m_pathSize, .null, .int 0, .int 0, .int 9, .int 0, .int 0, .int 0, .int 0, .int 0, .int 0, .int 0, .int 0, .int (-1), .int 0, .ref m_set, .ref m_to, .int 0, .int 0, .int 0, .int 0, .int 0, .int 0, .ref m_lifted, .int 0, .int 0, .int 0, .ref m_order, .int 0, .ref m_past, .int 0, .ref m_rowKind, .ref m_rowSteps, .ref m_rowPath, .ref m_rowWas, .ref m_rowIs, .ref m_pool, .ref m_rowsMany, .ref m_poolMany, .ref m_way, .int 0, .ref m_out, .int 0, .int 0, .ref m_notedThing, .ref m_notedIs, .ref m_votes, .int 0, .int 0, .ref m_treeThen, .int 0, .int 0, .int 0, .ref m_imageTree, .ref m_pastThen, .ref m_notedThingThen, .ref m_notedIsThen, .ref m_statusThen])), (m_tape, .inl (y 0, 400, .inl (upd f_52 9 w_58)))] := hD
  generalize (upd f_52 9 w_58) = f_59 at hP hD
  refine lv_aload_n hx hb dX11_feed_104 rfl (lv_at hl 2 rfl) ?_
  refine lv_dup hx hb dX11_feed_105 rfl ?_
  refine va_get (D := G) (ci := 11) (v := .int 9) (C := RX11) (T := TX11) (N := 66) hx hb hts inX11 hown hK.1 hP 0 rfl rfl 12 (by decide) (hts (.fieldLink RX11 114 "NestQueryModel" "taped" "I") (by decide +kernel)) (fun _ h9 => h9) rfl dX11_feed_106 ?_
  refine lv_iconst (v := 1) hx hb dX11_feed_109 (by decide) ?_
  refine lv_iadd hx hb dX11_feed_110 ?_
  refine nq_top (z := 10) (by decide) ?_
  refine va_put (D := G) (ci := 11) (v := .int 10) (ty := .int) (C := RX11) (T := TX11) (N := 66) hx hb hts inX11 tyX11 tyX11_ok nmX11 hown hK.1 hP hD hS 0 rfl rfl 12 (by decide) (hts (.fieldLink RX11 114 "NestQueryModel" "taped" "I") (by decide +kernel)) (fun _ h9 => h9) rfl (by decide +kernel) rfl rfl (Nat.le_of_ble_eq_true rfl) dX11_feed_111 (fun H locs hP hD hS => ?_)
  have hP : va_P G vwCl [(h0, .inr (11, [.int 0, .ref m_tree, .ref m_data, .ref m_made, .ref m_status, .int 0, .ref m_tape, .ref m_paths, .ref m_pathSize, .null, .int 0, .int 0, .int 10, .int 0, .int 0, .int 0, .int 0, .int 0, .int 0, .int 0, .int 0, .int (-1), .int 0, .ref m_set, .ref m_to, .int 0, .int 0, .int 0, .int 0, .int 0, .int 0, .ref m_lifted, .int 0, .int 0, .int 0, .ref m_order, .int 0, .ref m_past, .int 0, .ref m_rowKind, .ref m_rowSteps, .ref m_rowPath, .ref m_rowWas, .ref m_rowIs, .ref m_pool, .ref m_rowsMany, .ref m_poolMany, .ref m_way, .int 0, .ref m_out, .int 0, .int 0, .ref m_notedThing, .ref m_notedIs, .ref m_votes, .int 0, .int 0, .ref m_treeThen, .int 0, .int 0, .int 0, .ref m_imageTree, .ref m_pastThen, .ref m_notedThingThen, .ref m_notedIsThen, .ref m_statusThen])), (m_tape, .inl (y 0, 400, .inl f_59))] H := hP
  have hD : va_D A [(h0, .inr (11, [.int 0, .ref m_tree, .ref m_data, .ref m_made, .ref m_status, .int 0, .ref m_tape, .ref m_paths, .ref m_pathSize, .null, .int 0, .int 0, .int 10, .int 0, .int 0, .int 0, .int 0, .int 0, .int 0, .int 0, .int 0, .int (-1), .int 0, .ref m_set, .ref m_to, .int 0, .int 0, .int 0, .int 0, .int 0, .int 0, .ref m_lifted, .int 0, .int 0, .int 0, .ref m_order, .int 0, .ref m_past, .int 0, .ref m_rowKind, .ref m_rowSteps, .ref m_rowPath, .ref m_rowWas, .ref m_rowIs, .ref m_pool, .ref m_rowsMany, .ref m_poolMany, .ref m_way, .int 0, .ref m_out, .int 0, .int 0, .ref m_notedThing, .ref m_notedIs, .ref m_votes, .int 0, .int 0, .ref m_treeThen, .int 0, .int 0, .int 0, .ref m_imageTree, .ref m_pastThen, .ref m_notedThingThen, .ref m_notedIsThen, .ref m_statusThen])), (m_tape, .inl (y 0, 400, .inl f_59))] := hD
  refine lv_iinc (v := 10) (lv' := [(6, .int 10), (7, .int a3), (0, .ref h0), (1, .int a1), (2, .int a2), (3, .int a3), (4, .int a4), (5, .int a5)]) hx hb dX11_feed_114 hl (k := 1) rfl (by decide) (by decide) rfl (fun ls hl => ?_)
  refine lv_goto (tgt := 23) hx hb dX11_feed_117 (by decide) ?_
  refine lv_iload hx hb dX11_feed_23 (lv_at hl 0 rfl) ?_
  refine lv_bipush (v := 20) hx hb dX11_feed_25 (by decide) ?_
  refine lv_icmp_ge (tgt := 120) hx hb dX11_feed_27 (by decide) (fun c_60 => absurd c_60 (by decide)) (fun _ => ?_)
  refine lv_iload hx hb dX11_feed_30 (lv_at hl 0 rfl) ?_
  refine lv_iconst (v := 4) hx hb dX11_feed_32 (by decide) ?_
  refine lv_icmp_ge (tgt := 40) hx hb dX11_feed_33 (by decide) (fun _ => ?_) (fun c_61 => absurd c_61 (by decide))
  refine lv_iload hx hb dX11_feed_40 (lv_at hl 0 rfl) ?_
  refine lv_bipush (v := 8) hx hb dX11_feed_42 (by decide) ?_
  refine lv_icmp_ge (tgt := 51) hx hb dX11_feed_44 (by decide) (fun _ => ?_) (fun c_62 => absurd c_62 (by decide))
  refine lv_iload hx hb dX11_feed_51 (lv_at hl 0 rfl) ?_
  refine lv_bipush (v := 12) hx hb dX11_feed_53 (by decide) ?_
  refine lv_icmp_ge (tgt := 62) hx hb dX11_feed_55 (by decide) (fun c_63 => absurd c_63 (by decide)) (fun _ => ?_)
  refine lv_iload_n hx hb dX11_feed_58 rfl (lv_at hl 5 rfl) ?_
  refine lv_goto (tgt := 76) hx hb dX11_feed_59 (by decide) ?_
  refine lv_istore (lv' := [(7, .int a3), (6, .int 10), (0, .ref h0), (1, .int a1), (2, .int a2), (3, .int a3), (4, .int a4), (5, .int a5)]) hx hb dX11_feed_76 hl (by decide) rfl (fun ls hl => ?_)
  refine lv_aload_n hx hb dX11_feed_78 rfl (lv_at hl 2 rfl) ?_
  refine va_get (D := G) (ci := 11) (v := .ref m_tape) (C := RX11) (T := TX11) (N := 66) hx hb hts inX11 hown hK.1 hP 0 rfl rfl 6 (by decide) (hts (.fieldLink RX11 22 "NestQueryModel" "tape" "[I") (by decide +kernel)) (fun _ h9 => h9) rfl dX11_feed_79 ?_
  refine lv_aload_n hx hb dX11_feed_82 rfl (lv_at hl 2 rfl) ?_
  refine va_get (D := G) (ci := 11) (v := .int 10) (C := RX11) (T := TX11) (N := 66) hx hb hts inX11 hown hK.1 hP 0 rfl rfl 12 (by decide) (hts (.fieldLink RX11 114 "NestQueryModel" "taped" "I") (by decide +kernel)) (fun _ h9 => h9) rfl dX11_feed_83 ?_
  refine lv_iload hx hb dX11_feed_86 (lv_at hl 0 rfl) ?_
  refine lv_bipush (v := 24) hx hb dX11_feed_88 (by decide) ?_
  refine lv_bipush (v := 8) hx hb dX11_feed_90 (by decide) ?_
  refine lv_iload hx hb dX11_feed_92 (lv_at hl 1 rfl) ?_
  refine lv_iconst (v := 4) hx hb dX11_feed_94 (by decide) ?_
  refine lv_irem hx hb dX11_feed_95 (by decide) ?_
  refine nq_top (z := 2) (by decide) ?_
  refine lv_imul hx hb dX11_feed_96 ?_
  refine nq_top (z := 16) (by decide) ?_
  refine lv_isub hx hb dX11_feed_97 ?_
  refine nq_top (z := 8) (by decide) ?_
  refine lv_ishr hx hb dX11_feed_98 ?_
  refine lv_topi (fun w_64 _ => ?_)
  refine lv_sipush (v := 255) hx hb dX11_feed_99 (by decide) ?_
  refine lv_iand hx hb dX11_feed_102 ?_
  refine lv_topi (fun w_65 _ => ?_)
  refine va_iast hx hb hK.1 hP hD hS 1 0 rfl rfl (i := 10) (nq_in (by decide)) dX11_feed_103 (fun H locs hP hD hS => ?_)
  have hP : va_P G vwCl [(h0, .inr (11, [.int 0, .ref m_tree, .ref m_data, .ref m_made, .ref m_status, .int 0, .ref m_tape, .ref m_paths, .ref m_pathSize, .null, .int 0, .int 0, .int 10, .int 0, .int 0, .int 0, .int 0, .int 0, .int 0, .int 0, .int 0, .int (-1), .int 0, .ref m_set, .ref m_to, .int 0, .int 0, .int 0, .int 0, .int 0, .int 0, .ref m_lifted, .int 0, .int 0, .int 0, .ref m_order, .int 0, .ref m_past, .int 0, .ref m_rowKind, .ref m_rowSteps, .ref m_rowPath, .ref m_rowWas, .ref m_rowIs, .ref m_pool, .ref m_rowsMany, .ref m_poolMany, .ref m_way, .int 0, .ref m_out, .int 0, .int 0, .ref m_notedThing, .ref m_notedIs, .ref m_votes, .int 0, .int 0, .ref m_treeThen, .int 0, .int 0, .int 0, .ref m_imageTree, .ref m_pastThen, .ref m_notedThingThen, .ref m_notedIsThen, .ref m_statusThen])), (m_tape, .inl (y 0, 400, .inl (upd f_59 10 w_65)))] H := hP
  have hD : va_D A [(h0, .inr (11, [.int 0, .ref m_tree, .ref m_data, .ref m_made, .ref m_status, .int 0, .ref m_tape, .ref m_paths, .ref m_pathSize, .null, .int 0, .int 0, .int 10, .int 0, .int 0, .int 0, .int 0, .int 0, .int 0, .int 0, .int 0, .int (-1), .int 0, .ref m_set, .ref m_to, .int 0, .int 0, .int 0, .int 0, .int 0, .int 0, .ref m_lifted, .int 0, .int 0, .int 0, .ref m_order, .int 0, .ref m_past, .int 0, .ref m_rowKind, .ref m_rowSteps, .ref m_rowPath, .ref m_rowWas, .ref m_rowIs, .ref m_pool, .ref m_rowsMany, .ref m_poolMany, .ref m_way, .int 0, .ref m_out, .int 0, .int 0, .ref m_notedThing, .ref m_notedIs, .ref m_votes, .int 0, .int 0, .ref m_treeThen, .int 0, .int 0, .int 0, .ref m_imageTree, .ref m_pastThen, .ref m_notedThingThen, .ref m_notedIsThen, .ref m_statusThen])), (m_tape, .inl (y 0, 400, .inl (upd f_59 10 w_65)))] := hD
  generalize (upd f_59 10 w_65) = f_66 at hP hD
  refine lv_aload_n hx hb dX11_feed_104 rfl (lv_at hl 2 rfl) ?_
  refine lv_dup hx hb dX11_feed_105 rfl ?_
  refine va_get (D := G) (ci := 11) (v := .int 10) (C := RX11) (T := TX11) (N := 66) hx hb hts inX11 hown hK.1 hP 0 rfl rfl 12 (by decide) (hts (.fieldLink RX11 114 "NestQueryModel" "taped" "I") (by decide +kernel)) (fun _ h9 => h9) rfl dX11_feed_106 ?_
  refine lv_iconst (v := 1) hx hb dX11_feed_109 (by decide) ?_
  refine lv_iadd hx hb dX11_feed_110 ?_
  refine nq_top (z := 11) (by decide) ?_
  refine va_put (D := G) (ci := 11) (v := .int 11) (ty := .int) (C := RX11) (T := TX11) (N := 66) hx hb hts inX11 tyX11 tyX11_ok nmX11 hown hK.1 hP hD hS 0 rfl rfl 12 (by decide) (hts (.fieldLink RX11 114 "NestQueryModel" "taped" "I") (by decide +kernel)) (fun _ h9 => h9) rfl (by decide +kernel) rfl rfl (Nat.le_of_ble_eq_true rfl) dX11_feed_111 (fun H locs hP hD hS => ?_)
  have hP : va_P G vwCl [(h0, .inr (11, [.int 0, .ref m_tree, .ref m_data, .ref m_made, .ref m_status, .int 0, .ref m_tape, .ref m_paths, .ref m_pathSize, .null, .int 0, .int 0, .int 11, .int 0, .int 0, .int 0, .int 0, .int 0, .int 0, .int 0, .int 0, .int (-1), .int 0, .ref m_set, .ref m_to, .int 0, .int 0, .int 0, .int 0, .int 0, .int 0, .ref m_lifted, .int 0, .int 0, .int 0, .ref m_order, .int 0, .ref m_past, .int 0, .ref m_rowKind, .ref m_rowSteps, .ref m_rowPath, .ref m_rowWas, .ref m_rowIs, .ref m_pool, .ref m_rowsMany, .ref m_poolMany, .ref m_way, .int 0, .ref m_out, .int 0, .int 0, .ref m_notedThing, .ref m_notedIs, .ref m_votes, .int 0, .int 0, .ref m_treeThen, .int 0, .int 0, .int 0, .ref m_imageTree, .ref m_pastThen, .ref m_notedThingThen, .ref m_notedIsThen, .ref m_statusThen])), (m_tape, .inl (y 0, 400, .inl f_66))] H := hP
  have hD : va_D A [(h0, .inr (11, [.int 0, .ref m_tree, .ref m_data, .ref m_made, .ref m_status, .int 0, .ref m_tape, .ref m_paths, .ref m_pathSize, .null, .int 0, .int 0, .int 11, .int 0, .int 0, .int 0, .int 0, .int 0, .int 0, .int 0, .int 0, .int (-1), .int 0, .ref m_set, .ref m_to, .int 0, .int 0, .int 0, .int 0, .int 0, .int 0, .ref m_lifted, .int 0, .int 0, .int 0, .ref m_order, .int 0, .ref m_past, .int 0, .ref m_rowKind, .ref m_rowSteps, .ref m_rowPath, .ref m_rowWas, .ref m_rowIs, .ref m_pool, .ref m_rowsMany, .ref m_poolMany, .ref m_way, .int 0, .ref m_out, .int 0, .int 0, .ref m_notedThing, .ref m_notedIs, .ref m_votes, .int 0, .int 0, .ref m_treeThen, .int 0, .int 0, .int 0, .ref m_imageTree, .ref m_pastThen, .ref m_notedThingThen, .ref m_notedIsThen, .ref m_statusThen])), (m_tape, .inl (y 0, 400, .inl f_66))] := hD
  refine lv_iinc (v := 11) (lv' := [(6, .int 11), (7, .int a3), (0, .ref h0), (1, .int a1), (2, .int a2), (3, .int a3), (4, .int a4), (5, .int a5)]) hx hb dX11_feed_114 hl (k := 1) rfl (by decide) (by decide) rfl (fun ls hl => ?_)
  refine lv_goto (tgt := 23) hx hb dX11_feed_117 (by decide) ?_
  refine lv_iload hx hb dX11_feed_23 (lv_at hl 0 rfl) ?_
  refine lv_bipush (v := 20) hx hb dX11_feed_25 (by decide) ?_
  refine lv_icmp_ge (tgt := 120) hx hb dX11_feed_27 (by decide) (fun c_67 => absurd c_67 (by decide)) (fun _ => ?_)
  refine lv_iload hx hb dX11_feed_30 (lv_at hl 0 rfl) ?_
  refine lv_iconst (v := 4) hx hb dX11_feed_32 (by decide) ?_
  refine lv_icmp_ge (tgt := 40) hx hb dX11_feed_33 (by decide) (fun _ => ?_) (fun c_68 => absurd c_68 (by decide))
  refine lv_iload hx hb dX11_feed_40 (lv_at hl 0 rfl) ?_
  refine lv_bipush (v := 8) hx hb dX11_feed_42 (by decide) ?_
  refine lv_icmp_ge (tgt := 51) hx hb dX11_feed_44 (by decide) (fun _ => ?_) (fun c_69 => absurd c_69 (by decide))
  refine lv_iload hx hb dX11_feed_51 (lv_at hl 0 rfl) ?_
  refine lv_bipush (v := 12) hx hb dX11_feed_53 (by decide) ?_
  refine lv_icmp_ge (tgt := 62) hx hb dX11_feed_55 (by decide) (fun c_70 => absurd c_70 (by decide)) (fun _ => ?_)
  refine lv_iload_n hx hb dX11_feed_58 rfl (lv_at hl 5 rfl) ?_
  refine lv_goto (tgt := 76) hx hb dX11_feed_59 (by decide) ?_
  refine lv_istore (lv' := [(7, .int a3), (6, .int 11), (0, .ref h0), (1, .int a1), (2, .int a2), (3, .int a3), (4, .int a4), (5, .int a5)]) hx hb dX11_feed_76 hl (by decide) rfl (fun ls hl => ?_)
  refine lv_aload_n hx hb dX11_feed_78 rfl (lv_at hl 2 rfl) ?_
  refine va_get (D := G) (ci := 11) (v := .ref m_tape) (C := RX11) (T := TX11) (N := 66) hx hb hts inX11 hown hK.1 hP 0 rfl rfl 6 (by decide) (hts (.fieldLink RX11 22 "NestQueryModel" "tape" "[I") (by decide +kernel)) (fun _ h9 => h9) rfl dX11_feed_79 ?_
  refine lv_aload_n hx hb dX11_feed_82 rfl (lv_at hl 2 rfl) ?_
  refine va_get (D := G) (ci := 11) (v := .int 11) (C := RX11) (T := TX11) (N := 66) hx hb hts inX11 hown hK.1 hP 0 rfl rfl 12 (by decide) (hts (.fieldLink RX11 114 "NestQueryModel" "taped" "I") (by decide +kernel)) (fun _ h9 => h9) rfl dX11_feed_83 ?_
  refine lv_iload hx hb dX11_feed_86 (lv_at hl 0 rfl) ?_
  refine lv_bipush (v := 24) hx hb dX11_feed_88 (by decide) ?_
  refine lv_bipush (v := 8) hx hb dX11_feed_90 (by decide) ?_
  refine lv_iload hx hb dX11_feed_92 (lv_at hl 1 rfl) ?_
  refine lv_iconst (v := 4) hx hb dX11_feed_94 (by decide) ?_
  refine lv_irem hx hb dX11_feed_95 (by decide) ?_
  refine nq_top (z := 3) (by decide) ?_
  refine lv_imul hx hb dX11_feed_96 ?_
  refine nq_top (z := 24) (by decide) ?_
  refine lv_isub hx hb dX11_feed_97 ?_
  refine nq_top (z := 0) (by decide) ?_
  refine lv_ishr hx hb dX11_feed_98 ?_
  refine lv_topi (fun w_71 _ => ?_)
  refine lv_sipush (v := 255) hx hb dX11_feed_99 (by decide) ?_
  refine lv_iand hx hb dX11_feed_102 ?_
  refine lv_topi (fun w_72 _ => ?_)
  refine va_iast hx hb hK.1 hP hD hS 1 0 rfl rfl (i := 11) (nq_in (by decide)) dX11_feed_103 (fun H locs hP hD hS => ?_)
  have hP : va_P G vwCl [(h0, .inr (11, [.int 0, .ref m_tree, .ref m_data, .ref m_made, .ref m_status, .int 0, .ref m_tape, .ref m_paths, .ref m_pathSize, .null, .int 0, .int 0, .int 11, .int 0, .int 0, .int 0, .int 0, .int 0, .int 0, .int 0, .int 0, .int (-1), .int 0, .ref m_set, .ref m_to, .int 0, .int 0, .int 0, .int 0, .int 0, .int 0, .ref m_lifted, .int 0, .int 0, .int 0, .ref m_order, .int 0, .ref m_past, .int 0, .ref m_rowKind, .ref m_rowSteps, .ref m_rowPath, .ref m_rowWas, .ref m_rowIs, .ref m_pool, .ref m_rowsMany, .ref m_poolMany, .ref m_way, .int 0, .ref m_out, .int 0, .int 0, .ref m_notedThing, .ref m_notedIs, .ref m_votes, .int 0, .int 0, .ref m_treeThen, .int 0, .int 0, .int 0, .ref m_imageTree, .ref m_pastThen, .ref m_notedThingThen, .ref m_notedIsThen, .ref m_statusThen])), (m_tape, .inl (y 0, 400, .inl (upd f_66 11 w_72)))] H := hP
  have hD : va_D A [(h0, .inr (11, [.int 0, .ref m_tree, .ref m_data, .ref m_made, .ref m_status, .int 0, .ref m_tape, .ref m_paths, .ref m_pathSize, .null, .int 0, .int 0, .int 11, .int 0, .int 0, .int 0, .int 0, .int 0, .int 0, .int 0, .int 0, .int (-1), .int 0, .ref m_set, .ref m_to, .int 0, .int 0, .int 0, .int 0, .int 0, .int 0, .ref m_lifted, .int 0, .int 0, .int 0, .ref m_order, .int 0, .ref m_past, .int 0, .ref m_rowKind, .ref m_rowSteps, .ref m_rowPath, .ref m_rowWas, .ref m_rowIs, .ref m_pool, .ref m_rowsMany, .ref m_poolMany, .ref m_way, .int 0, .ref m_out, .int 0, .int 0, .ref m_notedThing, .ref m_notedIs, .ref m_votes, .int 0, .int 0, .ref m_treeThen, .int 0, .int 0, .int 0, .ref m_imageTree, .ref m_pastThen, .ref m_notedThingThen, .ref m_notedIsThen, .ref m_statusThen])), (m_tape, .inl (y 0, 400, .inl (upd f_66 11 w_72)))] := hD
  generalize (upd f_66 11 w_72) = f_73 at hP hD
  refine lv_aload_n hx hb dX11_feed_104 rfl (lv_at hl 2 rfl) ?_
  refine lv_dup hx hb dX11_feed_105 rfl ?_
  refine va_get (D := G) (ci := 11) (v := .int 11) (C := RX11) (T := TX11) (N := 66) hx hb hts inX11 hown hK.1 hP 0 rfl rfl 12 (by decide) (hts (.fieldLink RX11 114 "NestQueryModel" "taped" "I") (by decide +kernel)) (fun _ h9 => h9) rfl dX11_feed_106 ?_
  refine lv_iconst (v := 1) hx hb dX11_feed_109 (by decide) ?_
  refine lv_iadd hx hb dX11_feed_110 ?_
  refine nq_top (z := 12) (by decide) ?_
  refine va_put (D := G) (ci := 11) (v := .int 12) (ty := .int) (C := RX11) (T := TX11) (N := 66) hx hb hts inX11 tyX11 tyX11_ok nmX11 hown hK.1 hP hD hS 0 rfl rfl 12 (by decide) (hts (.fieldLink RX11 114 "NestQueryModel" "taped" "I") (by decide +kernel)) (fun _ h9 => h9) rfl (by decide +kernel) rfl rfl (Nat.le_of_ble_eq_true rfl) dX11_feed_111 (fun H locs hP hD hS => ?_)
  have hP : va_P G vwCl [(h0, .inr (11, [.int 0, .ref m_tree, .ref m_data, .ref m_made, .ref m_status, .int 0, .ref m_tape, .ref m_paths, .ref m_pathSize, .null, .int 0, .int 0, .int 12, .int 0, .int 0, .int 0, .int 0, .int 0, .int 0, .int 0, .int 0, .int (-1), .int 0, .ref m_set, .ref m_to, .int 0, .int 0, .int 0, .int 0, .int 0, .int 0, .ref m_lifted, .int 0, .int 0, .int 0, .ref m_order, .int 0, .ref m_past, .int 0, .ref m_rowKind, .ref m_rowSteps, .ref m_rowPath, .ref m_rowWas, .ref m_rowIs, .ref m_pool, .ref m_rowsMany, .ref m_poolMany, .ref m_way, .int 0, .ref m_out, .int 0, .int 0, .ref m_notedThing, .ref m_notedIs, .ref m_votes, .int 0, .int 0, .ref m_treeThen, .int 0, .int 0, .int 0, .ref m_imageTree, .ref m_pastThen, .ref m_notedThingThen, .ref m_notedIsThen, .ref m_statusThen])), (m_tape, .inl (y 0, 400, .inl f_73))] H := hP
  have hD : va_D A [(h0, .inr (11, [.int 0, .ref m_tree, .ref m_data, .ref m_made, .ref m_status, .int 0, .ref m_tape, .ref m_paths, .ref m_pathSize, .null, .int 0, .int 0, .int 12, .int 0, .int 0, .int 0, .int 0, .int 0, .int 0, .int 0, .int 0, .int (-1), .int 0, .ref m_set, .ref m_to, .int 0, .int 0, .int 0, .int 0, .int 0, .int 0, .ref m_lifted, .int 0, .int 0, .int 0, .ref m_order, .int 0, .ref m_past, .int 0, .ref m_rowKind, .ref m_rowSteps, .ref m_rowPath, .ref m_rowWas, .ref m_rowIs, .ref m_pool, .ref m_rowsMany, .ref m_poolMany, .ref m_way, .int 0, .ref m_out, .int 0, .int 0, .ref m_notedThing, .ref m_notedIs, .ref m_votes, .int 0, .int 0, .ref m_treeThen, .int 0, .int 0, .int 0, .ref m_imageTree, .ref m_pastThen, .ref m_notedThingThen, .ref m_notedIsThen, .ref m_statusThen])), (m_tape, .inl (y 0, 400, .inl f_73))] := hD
  refine lv_iinc (v := 12) (lv' := [(6, .int 12), (7, .int a3), (0, .ref h0), (1, .int a1), (2, .int a2), (3, .int a3), (4, .int a4), (5, .int a5)]) hx hb dX11_feed_114 hl (k := 1) rfl (by decide) (by decide) rfl (fun ls hl => ?_)
  refine lv_goto (tgt := 23) hx hb dX11_feed_117 (by decide) ?_
  refine lv_iload hx hb dX11_feed_23 (lv_at hl 0 rfl) ?_
  refine lv_bipush (v := 20) hx hb dX11_feed_25 (by decide) ?_
  refine lv_icmp_ge (tgt := 120) hx hb dX11_feed_27 (by decide) (fun c_74 => absurd c_74 (by decide)) (fun _ => ?_)
  refine lv_iload hx hb dX11_feed_30 (lv_at hl 0 rfl) ?_
  refine lv_iconst (v := 4) hx hb dX11_feed_32 (by decide) ?_
  refine lv_icmp_ge (tgt := 40) hx hb dX11_feed_33 (by decide) (fun _ => ?_) (fun c_75 => absurd c_75 (by decide))
  refine lv_iload hx hb dX11_feed_40 (lv_at hl 0 rfl) ?_
  refine lv_bipush (v := 8) hx hb dX11_feed_42 (by decide) ?_
  refine lv_icmp_ge (tgt := 51) hx hb dX11_feed_44 (by decide) (fun _ => ?_) (fun c_76 => absurd c_76 (by decide))
  refine lv_iload hx hb dX11_feed_51 (lv_at hl 0 rfl) ?_
  refine lv_bipush (v := 12) hx hb dX11_feed_53 (by decide) ?_
  refine lv_icmp_ge (tgt := 62) hx hb dX11_feed_55 (by decide) (fun _ => ?_) (fun c_77 => absurd c_77 (by decide))
  refine lv_iload hx hb dX11_feed_62 (lv_at hl 0 rfl) ?_
  refine lv_bipush (v := 16) hx hb dX11_feed_64 (by decide) ?_
  refine lv_icmp_ge (tgt := 74) hx hb dX11_feed_66 (by decide) (fun c_78 => absurd c_78 (by decide)) (fun _ => ?_)
  refine lv_iload hx hb dX11_feed_69 (lv_at hl 6 rfl) ?_
  refine lv_goto (tgt := 76) hx hb dX11_feed_71 (by decide) ?_
  refine lv_istore (lv' := [(7, .int a4), (6, .int 12), (0, .ref h0), (1, .int a1), (2, .int a2), (3, .int a3), (4, .int a4), (5, .int a5)]) hx hb dX11_feed_76 hl (by decide) rfl (fun ls hl => ?_)
  refine lv_aload_n hx hb dX11_feed_78 rfl (lv_at hl 2 rfl) ?_
  refine va_get (D := G) (ci := 11) (v := .ref m_tape) (C := RX11) (T := TX11) (N := 66) hx hb hts inX11 hown hK.1 hP 0 rfl rfl 6 (by decide) (hts (.fieldLink RX11 22 "NestQueryModel" "tape" "[I") (by decide +kernel)) (fun _ h9 => h9) rfl dX11_feed_79 ?_
  refine lv_aload_n hx hb dX11_feed_82 rfl (lv_at hl 2 rfl) ?_
  refine va_get (D := G) (ci := 11) (v := .int 12) (C := RX11) (T := TX11) (N := 66) hx hb hts inX11 hown hK.1 hP 0 rfl rfl 12 (by decide) (hts (.fieldLink RX11 114 "NestQueryModel" "taped" "I") (by decide +kernel)) (fun _ h9 => h9) rfl dX11_feed_83 ?_
  refine lv_iload hx hb dX11_feed_86 (lv_at hl 0 rfl) ?_
  refine lv_bipush (v := 24) hx hb dX11_feed_88 (by decide) ?_
  refine lv_bipush (v := 8) hx hb dX11_feed_90 (by decide) ?_
  refine lv_iload hx hb dX11_feed_92 (lv_at hl 1 rfl) ?_
  refine lv_iconst (v := 4) hx hb dX11_feed_94 (by decide) ?_
  refine lv_irem hx hb dX11_feed_95 (by decide) ?_
  refine nq_top (z := 0) (by decide) ?_
  refine lv_imul hx hb dX11_feed_96 ?_
  refine nq_top (z := 0) (by decide) ?_
  refine lv_isub hx hb dX11_feed_97 ?_
  refine nq_top (z := 24) (by decide) ?_
  refine lv_ishr hx hb dX11_feed_98 ?_
  refine lv_topi (fun w_79 _ => ?_)
  refine lv_sipush (v := 255) hx hb dX11_feed_99 (by decide) ?_
  refine lv_iand hx hb dX11_feed_102 ?_
  refine lv_topi (fun w_80 _ => ?_)
  refine va_iast hx hb hK.1 hP hD hS 1 0 rfl rfl (i := 12) (nq_in (by decide)) dX11_feed_103 (fun H locs hP hD hS => ?_)
  have hP : va_P G vwCl [(h0, .inr (11, [.int 0, .ref m_tree, .ref m_data, .ref m_made, .ref m_status, .int 0, .ref m_tape, .ref m_paths, .ref m_pathSize, .null, .int 0, .int 0, .int 12, .int 0, .int 0, .int 0, .int 0, .int 0, .int 0, .int 0, .int 0, .int (-1), .int 0, .ref m_set, .ref m_to, .int 0, .int 0, .int 0, .int 0, .int 0, .int 0, .ref m_lifted, .int 0, .int 0, .int 0, .ref m_order, .int 0, .ref m_past, .int 0, .ref m_rowKind, .ref m_rowSteps, .ref m_rowPath, .ref m_rowWas, .ref m_rowIs, .ref m_pool, .ref m_rowsMany, .ref m_poolMany, .ref m_way, .int 0, .ref m_out, .int 0, .int 0, .ref m_notedThing, .ref m_notedIs, .ref m_votes, .int 0, .int 0, .ref m_treeThen, .int 0, .int 0, .int 0, .ref m_imageTree, .ref m_pastThen, .ref m_notedThingThen, .ref m_notedIsThen, .ref m_statusThen])), (m_tape, .inl (y 0, 400, .inl (upd f_73 12 w_80)))] H := hP
  have hD : va_D A [(h0, .inr (11, [.int 0, .ref m_tree, .ref m_data, .ref m_made, .ref m_status, .int 0, .ref m_tape, .ref m_paths, .ref m_pathSize, .null, .int 0, .int 0, .int 12, .int 0, .int 0, .int 0, .int 0, .int 0, .int 0, .int 0, .int 0, .int (-1), .int 0, .ref m_set, .ref m_to, .int 0, .int 0, .int 0, .int 0, .int 0, .int 0, .ref m_lifted, .int 0, .int 0, .int 0, .ref m_order, .int 0, .ref m_past, .int 0, .ref m_rowKind, .ref m_rowSteps, .ref m_rowPath, .ref m_rowWas, .ref m_rowIs, .ref m_pool, .ref m_rowsMany, .ref m_poolMany, .ref m_way, .int 0, .ref m_out, .int 0, .int 0, .ref m_notedThing, .ref m_notedIs, .ref m_votes, .int 0, .int 0, .ref m_treeThen, .int 0, .int 0, .int 0, .ref m_imageTree, .ref m_pastThen, .ref m_notedThingThen, .ref m_notedIsThen, .ref m_statusThen])), (m_tape, .inl (y 0, 400, .inl (upd f_73 12 w_80)))] := hD
  generalize (upd f_73 12 w_80) = f_81 at hP hD
  refine lv_aload_n hx hb dX11_feed_104 rfl (lv_at hl 2 rfl) ?_
  refine lv_dup hx hb dX11_feed_105 rfl ?_
  refine va_get (D := G) (ci := 11) (v := .int 12) (C := RX11) (T := TX11) (N := 66) hx hb hts inX11 hown hK.1 hP 0 rfl rfl 12 (by decide) (hts (.fieldLink RX11 114 "NestQueryModel" "taped" "I") (by decide +kernel)) (fun _ h9 => h9) rfl dX11_feed_106 ?_
  refine lv_iconst (v := 1) hx hb dX11_feed_109 (by decide) ?_
  refine lv_iadd hx hb dX11_feed_110 ?_
  refine nq_top (z := 13) (by decide) ?_
  refine va_put (D := G) (ci := 11) (v := .int 13) (ty := .int) (C := RX11) (T := TX11) (N := 66) hx hb hts inX11 tyX11 tyX11_ok nmX11 hown hK.1 hP hD hS 0 rfl rfl 12 (by decide) (hts (.fieldLink RX11 114 "NestQueryModel" "taped" "I") (by decide +kernel)) (fun _ h9 => h9) rfl (by decide +kernel) rfl rfl (Nat.le_of_ble_eq_true rfl) dX11_feed_111 (fun H locs hP hD hS => ?_)
  have hP : va_P G vwCl [(h0, .inr (11, [.int 0, .ref m_tree, .ref m_data, .ref m_made, .ref m_status, .int 0, .ref m_tape, .ref m_paths, .ref m_pathSize, .null, .int 0, .int 0, .int 13, .int 0, .int 0, .int 0, .int 0, .int 0, .int 0, .int 0, .int 0, .int (-1), .int 0, .ref m_set, .ref m_to, .int 0, .int 0, .int 0, .int 0, .int 0, .int 0, .ref m_lifted, .int 0, .int 0, .int 0, .ref m_order, .int 0, .ref m_past, .int 0, .ref m_rowKind, .ref m_rowSteps, .ref m_rowPath, .ref m_rowWas, .ref m_rowIs, .ref m_pool, .ref m_rowsMany, .ref m_poolMany, .ref m_way, .int 0, .ref m_out, .int 0, .int 0, .ref m_notedThing, .ref m_notedIs, .ref m_votes, .int 0, .int 0, .ref m_treeThen, .int 0, .int 0, .int 0, .ref m_imageTree, .ref m_pastThen, .ref m_notedThingThen, .ref m_notedIsThen, .ref m_statusThen])), (m_tape, .inl (y 0, 400, .inl f_81))] H := hP
  have hD : va_D A [(h0, .inr (11, [.int 0, .ref m_tree, .ref m_data, .ref m_made, .ref m_status, .int 0, .ref m_tape, .ref m_paths, .ref m_pathSize, .null, .int 0, .int 0, .int 13, .int 0, .int 0, .int 0, .int 0, .int 0, .int 0, .int 0, .int 0, .int (-1), .int 0, .ref m_set, .ref m_to, .int 0, .int 0, .int 0, .int 0, .int 0, .int 0, .ref m_lifted, .int 0, .int 0, .int 0, .ref m_order, .int 0, .ref m_past, .int 0, .ref m_rowKind, .ref m_rowSteps, .ref m_rowPath, .ref m_rowWas, .ref m_rowIs, .ref m_pool, .ref m_rowsMany, .ref m_poolMany, .ref m_way, .int 0, .ref m_out, .int 0, .int 0, .ref m_notedThing, .ref m_notedIs, .ref m_votes, .int 0, .int 0, .ref m_treeThen, .int 0, .int 0, .int 0, .ref m_imageTree, .ref m_pastThen, .ref m_notedThingThen, .ref m_notedIsThen, .ref m_statusThen])), (m_tape, .inl (y 0, 400, .inl f_81))] := hD
  refine lv_iinc (v := 13) (lv' := [(6, .int 13), (7, .int a4), (0, .ref h0), (1, .int a1), (2, .int a2), (3, .int a3), (4, .int a4), (5, .int a5)]) hx hb dX11_feed_114 hl (k := 1) rfl (by decide) (by decide) rfl (fun ls hl => ?_)
  refine lv_goto (tgt := 23) hx hb dX11_feed_117 (by decide) ?_
  refine lv_iload hx hb dX11_feed_23 (lv_at hl 0 rfl) ?_
  refine lv_bipush (v := 20) hx hb dX11_feed_25 (by decide) ?_
  refine lv_icmp_ge (tgt := 120) hx hb dX11_feed_27 (by decide) (fun c_82 => absurd c_82 (by decide)) (fun _ => ?_)
  refine lv_iload hx hb dX11_feed_30 (lv_at hl 0 rfl) ?_
  refine lv_iconst (v := 4) hx hb dX11_feed_32 (by decide) ?_
  refine lv_icmp_ge (tgt := 40) hx hb dX11_feed_33 (by decide) (fun _ => ?_) (fun c_83 => absurd c_83 (by decide))
  refine lv_iload hx hb dX11_feed_40 (lv_at hl 0 rfl) ?_
  refine lv_bipush (v := 8) hx hb dX11_feed_42 (by decide) ?_
  refine lv_icmp_ge (tgt := 51) hx hb dX11_feed_44 (by decide) (fun _ => ?_) (fun c_84 => absurd c_84 (by decide))
  refine lv_iload hx hb dX11_feed_51 (lv_at hl 0 rfl) ?_
  refine lv_bipush (v := 12) hx hb dX11_feed_53 (by decide) ?_
  refine lv_icmp_ge (tgt := 62) hx hb dX11_feed_55 (by decide) (fun _ => ?_) (fun c_85 => absurd c_85 (by decide))
  refine lv_iload hx hb dX11_feed_62 (lv_at hl 0 rfl) ?_
  refine lv_bipush (v := 16) hx hb dX11_feed_64 (by decide) ?_
  refine lv_icmp_ge (tgt := 74) hx hb dX11_feed_66 (by decide) (fun c_86 => absurd c_86 (by decide)) (fun _ => ?_)
  refine lv_iload hx hb dX11_feed_69 (lv_at hl 6 rfl) ?_
  refine lv_goto (tgt := 76) hx hb dX11_feed_71 (by decide) ?_
  refine lv_istore (lv' := [(7, .int a4), (6, .int 13), (0, .ref h0), (1, .int a1), (2, .int a2), (3, .int a3), (4, .int a4), (5, .int a5)]) hx hb dX11_feed_76 hl (by decide) rfl (fun ls hl => ?_)
  refine lv_aload_n hx hb dX11_feed_78 rfl (lv_at hl 2 rfl) ?_
  refine va_get (D := G) (ci := 11) (v := .ref m_tape) (C := RX11) (T := TX11) (N := 66) hx hb hts inX11 hown hK.1 hP 0 rfl rfl 6 (by decide) (hts (.fieldLink RX11 22 "NestQueryModel" "tape" "[I") (by decide +kernel)) (fun _ h9 => h9) rfl dX11_feed_79 ?_
  refine lv_aload_n hx hb dX11_feed_82 rfl (lv_at hl 2 rfl) ?_
  refine va_get (D := G) (ci := 11) (v := .int 13) (C := RX11) (T := TX11) (N := 66) hx hb hts inX11 hown hK.1 hP 0 rfl rfl 12 (by decide) (hts (.fieldLink RX11 114 "NestQueryModel" "taped" "I") (by decide +kernel)) (fun _ h9 => h9) rfl dX11_feed_83 ?_
  refine lv_iload hx hb dX11_feed_86 (lv_at hl 0 rfl) ?_
  refine lv_bipush (v := 24) hx hb dX11_feed_88 (by decide) ?_
  refine lv_bipush (v := 8) hx hb dX11_feed_90 (by decide) ?_
  refine lv_iload hx hb dX11_feed_92 (lv_at hl 1 rfl) ?_
  refine lv_iconst (v := 4) hx hb dX11_feed_94 (by decide) ?_
  refine lv_irem hx hb dX11_feed_95 (by decide) ?_
  refine nq_top (z := 1) (by decide) ?_
  refine lv_imul hx hb dX11_feed_96 ?_
  refine nq_top (z := 8) (by decide) ?_
  refine lv_isub hx hb dX11_feed_97 ?_
  refine nq_top (z := 16) (by decide) ?_
  refine lv_ishr hx hb dX11_feed_98 ?_
  refine lv_topi (fun w_87 _ => ?_)
  refine lv_sipush (v := 255) hx hb dX11_feed_99 (by decide) ?_
  refine lv_iand hx hb dX11_feed_102 ?_
  refine lv_topi (fun w_88 _ => ?_)
  refine va_iast hx hb hK.1 hP hD hS 1 0 rfl rfl (i := 13) (nq_in (by decide)) dX11_feed_103 (fun H locs hP hD hS => ?_)
  have hP : va_P G vwCl [(h0, .inr (11, [.int 0, .ref m_tree, .ref m_data, .ref m_made, .ref m_status, .int 0, .ref m_tape, .ref m_paths, .ref m_pathSize, .null, .int 0, .int 0, .int 13, .int 0, .int 0, .int 0, .int 0, .int 0, .int 0, .int 0, .int 0, .int (-1), .int 0, .ref m_set, .ref m_to, .int 0, .int 0, .int 0, .int 0, .int 0, .int 0, .ref m_lifted, .int 0, .int 0, .int 0, .ref m_order, .int 0, .ref m_past, .int 0, .ref m_rowKind, .ref m_rowSteps, .ref m_rowPath, .ref m_rowWas, .ref m_rowIs, .ref m_pool, .ref m_rowsMany, .ref m_poolMany, .ref m_way, .int 0, .ref m_out, .int 0, .int 0, .ref m_notedThing, .ref m_notedIs, .ref m_votes, .int 0, .int 0, .ref m_treeThen, .int 0, .int 0, .int 0, .ref m_imageTree, .ref m_pastThen, .ref m_notedThingThen, .ref m_notedIsThen, .ref m_statusThen])), (m_tape, .inl (y 0, 400, .inl (upd f_81 13 w_88)))] H := hP
  have hD : va_D A [(h0, .inr (11, [.int 0, .ref m_tree, .ref m_data, .ref m_made, .ref m_status, .int 0, .ref m_tape, .ref m_paths, .ref m_pathSize, .null, .int 0, .int 0, .int 13, .int 0, .int 0, .int 0, .int 0, .int 0, .int 0, .int 0, .int 0, .int (-1), .int 0, .ref m_set, .ref m_to, .int 0, .int 0, .int 0, .int 0, .int 0, .int 0, .ref m_lifted, .int 0, .int 0, .int 0, .ref m_order, .int 0, .ref m_past, .int 0, .ref m_rowKind, .ref m_rowSteps, .ref m_rowPath, .ref m_rowWas, .ref m_rowIs, .ref m_pool, .ref m_rowsMany, .ref m_poolMany, .ref m_way, .int 0, .ref m_out, .int 0, .int 0, .ref m_notedThing, .ref m_notedIs, .ref m_votes, .int 0, .int 0, .ref m_treeThen, .int 0, .int 0, .int 0, .ref m_imageTree, .ref m_pastThen, .ref m_notedThingThen, .ref m_notedIsThen, .ref m_statusThen])), (m_tape, .inl (y 0, 400, .inl (upd f_81 13 w_88)))] := hD
  generalize (upd f_81 13 w_88) = f_89 at hP hD
  refine lv_aload_n hx hb dX11_feed_104 rfl (lv_at hl 2 rfl) ?_
  refine lv_dup hx hb dX11_feed_105 rfl ?_
  refine va_get (D := G) (ci := 11) (v := .int 13) (C := RX11) (T := TX11) (N := 66) hx hb hts inX11 hown hK.1 hP 0 rfl rfl 12 (by decide) (hts (.fieldLink RX11 114 "NestQueryModel" "taped" "I") (by decide +kernel)) (fun _ h9 => h9) rfl dX11_feed_106 ?_
  refine lv_iconst (v := 1) hx hb dX11_feed_109 (by decide) ?_
  refine lv_iadd hx hb dX11_feed_110 ?_
  refine nq_top (z := 14) (by decide) ?_
  refine va_put (D := G) (ci := 11) (v := .int 14) (ty := .int) (C := RX11) (T := TX11) (N := 66) hx hb hts inX11 tyX11 tyX11_ok nmX11 hown hK.1 hP hD hS 0 rfl rfl 12 (by decide) (hts (.fieldLink RX11 114 "NestQueryModel" "taped" "I") (by decide +kernel)) (fun _ h9 => h9) rfl (by decide +kernel) rfl rfl (Nat.le_of_ble_eq_true rfl) dX11_feed_111 (fun H locs hP hD hS => ?_)
  have hP : va_P G vwCl [(h0, .inr (11, [.int 0, .ref m_tree, .ref m_data, .ref m_made, .ref m_status, .int 0, .ref m_tape, .ref m_paths, .ref m_pathSize, .null, .int 0, .int 0, .int 14, .int 0, .int 0, .int 0, .int 0, .int 0, .int 0, .int 0, .int 0, .int (-1), .int 0, .ref m_set, .ref m_to, .int 0, .int 0, .int 0, .int 0, .int 0, .int 0, .ref m_lifted, .int 0, .int 0, .int 0, .ref m_order, .int 0, .ref m_past, .int 0, .ref m_rowKind, .ref m_rowSteps, .ref m_rowPath, .ref m_rowWas, .ref m_rowIs, .ref m_pool, .ref m_rowsMany, .ref m_poolMany, .ref m_way, .int 0, .ref m_out, .int 0, .int 0, .ref m_notedThing, .ref m_notedIs, .ref m_votes, .int 0, .int 0, .ref m_treeThen, .int 0, .int 0, .int 0, .ref m_imageTree, .ref m_pastThen, .ref m_notedThingThen, .ref m_notedIsThen, .ref m_statusThen])), (m_tape, .inl (y 0, 400, .inl f_89))] H := hP
  have hD : va_D A [(h0, .inr (11, [.int 0, .ref m_tree, .ref m_data, .ref m_made, .ref m_status, .int 0, .ref m_tape, .ref m_paths, .ref m_pathSize, .null, .int 0, .int 0, .int 14, .int 0, .int 0, .int 0, .int 0, .int 0, .int 0, .int 0, .int 0, .int (-1), .int 0, .ref m_set, .ref m_to, .int 0, .int 0, .int 0, .int 0, .int 0, .int 0, .ref m_lifted, .int 0, .int 0, .int 0, .ref m_order, .int 0, .ref m_past, .int 0, .ref m_rowKind, .ref m_rowSteps, .ref m_rowPath, .ref m_rowWas, .ref m_rowIs, .ref m_pool, .ref m_rowsMany, .ref m_poolMany, .ref m_way, .int 0, .ref m_out, .int 0, .int 0, .ref m_notedThing, .ref m_notedIs, .ref m_votes, .int 0, .int 0, .ref m_treeThen, .int 0, .int 0, .int 0, .ref m_imageTree, .ref m_pastThen, .ref m_notedThingThen, .ref m_notedIsThen, .ref m_statusThen])), (m_tape, .inl (y 0, 400, .inl f_89))] := hD
  refine lv_iinc (v := 14) (lv' := [(6, .int 14), (7, .int a4), (0, .ref h0), (1, .int a1), (2, .int a2), (3, .int a3), (4, .int a4), (5, .int a5)]) hx hb dX11_feed_114 hl (k := 1) rfl (by decide) (by decide) rfl (fun ls hl => ?_)
  refine lv_goto (tgt := 23) hx hb dX11_feed_117 (by decide) ?_
  refine lv_iload hx hb dX11_feed_23 (lv_at hl 0 rfl) ?_
  refine lv_bipush (v := 20) hx hb dX11_feed_25 (by decide) ?_
  refine lv_icmp_ge (tgt := 120) hx hb dX11_feed_27 (by decide) (fun c_90 => absurd c_90 (by decide)) (fun _ => ?_)
  refine lv_iload hx hb dX11_feed_30 (lv_at hl 0 rfl) ?_
  refine lv_iconst (v := 4) hx hb dX11_feed_32 (by decide) ?_
  refine lv_icmp_ge (tgt := 40) hx hb dX11_feed_33 (by decide) (fun _ => ?_) (fun c_91 => absurd c_91 (by decide))
  refine lv_iload hx hb dX11_feed_40 (lv_at hl 0 rfl) ?_
  refine lv_bipush (v := 8) hx hb dX11_feed_42 (by decide) ?_
  refine lv_icmp_ge (tgt := 51) hx hb dX11_feed_44 (by decide) (fun _ => ?_) (fun c_92 => absurd c_92 (by decide))
  refine lv_iload hx hb dX11_feed_51 (lv_at hl 0 rfl) ?_
  refine lv_bipush (v := 12) hx hb dX11_feed_53 (by decide) ?_
  refine lv_icmp_ge (tgt := 62) hx hb dX11_feed_55 (by decide) (fun _ => ?_) (fun c_93 => absurd c_93 (by decide))
  refine lv_iload hx hb dX11_feed_62 (lv_at hl 0 rfl) ?_
  refine lv_bipush (v := 16) hx hb dX11_feed_64 (by decide) ?_
  refine lv_icmp_ge (tgt := 74) hx hb dX11_feed_66 (by decide) (fun c_94 => absurd c_94 (by decide)) (fun _ => ?_)
  refine lv_iload hx hb dX11_feed_69 (lv_at hl 6 rfl) ?_
  refine lv_goto (tgt := 76) hx hb dX11_feed_71 (by decide) ?_
  refine lv_istore (lv' := [(7, .int a4), (6, .int 14), (0, .ref h0), (1, .int a1), (2, .int a2), (3, .int a3), (4, .int a4), (5, .int a5)]) hx hb dX11_feed_76 hl (by decide) rfl (fun ls hl => ?_)
  refine lv_aload_n hx hb dX11_feed_78 rfl (lv_at hl 2 rfl) ?_
  refine va_get (D := G) (ci := 11) (v := .ref m_tape) (C := RX11) (T := TX11) (N := 66) hx hb hts inX11 hown hK.1 hP 0 rfl rfl 6 (by decide) (hts (.fieldLink RX11 22 "NestQueryModel" "tape" "[I") (by decide +kernel)) (fun _ h9 => h9) rfl dX11_feed_79 ?_
  refine lv_aload_n hx hb dX11_feed_82 rfl (lv_at hl 2 rfl) ?_
  refine va_get (D := G) (ci := 11) (v := .int 14) (C := RX11) (T := TX11) (N := 66) hx hb hts inX11 hown hK.1 hP 0 rfl rfl 12 (by decide) (hts (.fieldLink RX11 114 "NestQueryModel" "taped" "I") (by decide +kernel)) (fun _ h9 => h9) rfl dX11_feed_83 ?_
  refine lv_iload hx hb dX11_feed_86 (lv_at hl 0 rfl) ?_
  refine lv_bipush (v := 24) hx hb dX11_feed_88 (by decide) ?_
  refine lv_bipush (v := 8) hx hb dX11_feed_90 (by decide) ?_
  refine lv_iload hx hb dX11_feed_92 (lv_at hl 1 rfl) ?_
  refine lv_iconst (v := 4) hx hb dX11_feed_94 (by decide) ?_
  refine lv_irem hx hb dX11_feed_95 (by decide) ?_
  refine nq_top (z := 2) (by decide) ?_
  refine lv_imul hx hb dX11_feed_96 ?_
  refine nq_top (z := 16) (by decide) ?_
  refine lv_isub hx hb dX11_feed_97 ?_
  refine nq_top (z := 8) (by decide) ?_
  refine lv_ishr hx hb dX11_feed_98 ?_
  refine lv_topi (fun w_95 _ => ?_)
  refine lv_sipush (v := 255) hx hb dX11_feed_99 (by decide) ?_
  refine lv_iand hx hb dX11_feed_102 ?_
  refine lv_topi (fun w_96 _ => ?_)
  refine va_iast hx hb hK.1 hP hD hS 1 0 rfl rfl (i := 14) (nq_in (by decide)) dX11_feed_103 (fun H locs hP hD hS => ?_)
  have hP : va_P G vwCl [(h0, .inr (11, [.int 0, .ref m_tree, .ref m_data, .ref m_made, .ref m_status, .int 0, .ref m_tape, .ref m_paths, .ref m_pathSize, .null, .int 0, .int 0, .int 14, .int 0, .int 0, .int 0, .int 0, .int 0, .int 0, .int 0, .int 0, .int (-1), .int 0, .ref m_set, .ref m_to, .int 0, .int 0, .int 0, .int 0, .int 0, .int 0, .ref m_lifted, .int 0, .int 0, .int 0, .ref m_order, .int 0, .ref m_past, .int 0, .ref m_rowKind, .ref m_rowSteps, .ref m_rowPath, .ref m_rowWas, .ref m_rowIs, .ref m_pool, .ref m_rowsMany, .ref m_poolMany, .ref m_way, .int 0, .ref m_out, .int 0, .int 0, .ref m_notedThing, .ref m_notedIs, .ref m_votes, .int 0, .int 0, .ref m_treeThen, .int 0, .int 0, .int 0, .ref m_imageTree, .ref m_pastThen, .ref m_notedThingThen, .ref m_notedIsThen, .ref m_statusThen])), (m_tape, .inl (y 0, 400, .inl (upd f_89 14 w_96)))] H := hP
  have hD : va_D A [(h0, .inr (11, [.int 0, .ref m_tree, .ref m_data, .ref m_made, .ref m_status, .int 0, .ref m_tape, .ref m_paths, .ref m_pathSize, .null, .int 0, .int 0, .int 14, .int 0, .int 0, .int 0, .int 0, .int 0, .int 0, .int 0, .int 0, .int (-1), .int 0, .ref m_set, .ref m_to, .int 0, .int 0, .int 0, .int 0, .int 0, .int 0, .ref m_lifted, .int 0, .int 0, .int 0, .ref m_order, .int 0, .ref m_past, .int 0, .ref m_rowKind, .ref m_rowSteps, .ref m_rowPath, .ref m_rowWas, .ref m_rowIs, .ref m_pool, .ref m_rowsMany, .ref m_poolMany, .ref m_way, .int 0, .ref m_out, .int 0, .int 0, .ref m_notedThing, .ref m_notedIs, .ref m_votes, .int 0, .int 0, .ref m_treeThen, .int 0, .int 0, .int 0, .ref m_imageTree, .ref m_pastThen, .ref m_notedThingThen, .ref m_notedIsThen, .ref m_statusThen])), (m_tape, .inl (y 0, 400, .inl (upd f_89 14 w_96)))] := hD
  generalize (upd f_89 14 w_96) = f_97 at hP hD
  refine lv_aload_n hx hb dX11_feed_104 rfl (lv_at hl 2 rfl) ?_
  refine lv_dup hx hb dX11_feed_105 rfl ?_
  refine va_get (D := G) (ci := 11) (v := .int 14) (C := RX11) (T := TX11) (N := 66) hx hb hts inX11 hown hK.1 hP 0 rfl rfl 12 (by decide) (hts (.fieldLink RX11 114 "NestQueryModel" "taped" "I") (by decide +kernel)) (fun _ h9 => h9) rfl dX11_feed_106 ?_
  refine lv_iconst (v := 1) hx hb dX11_feed_109 (by decide) ?_
  refine lv_iadd hx hb dX11_feed_110 ?_
  refine nq_top (z := 15) (by decide) ?_
  refine va_put (D := G) (ci := 11) (v := .int 15) (ty := .int) (C := RX11) (T := TX11) (N := 66) hx hb hts inX11 tyX11 tyX11_ok nmX11 hown hK.1 hP hD hS 0 rfl rfl 12 (by decide) (hts (.fieldLink RX11 114 "NestQueryModel" "taped" "I") (by decide +kernel)) (fun _ h9 => h9) rfl (by decide +kernel) rfl rfl (Nat.le_of_ble_eq_true rfl) dX11_feed_111 (fun H locs hP hD hS => ?_)
  have hP : va_P G vwCl [(h0, .inr (11, [.int 0, .ref m_tree, .ref m_data, .ref m_made, .ref m_status, .int 0, .ref m_tape, .ref m_paths, .ref m_pathSize, .null, .int 0, .int 0, .int 15, .int 0, .int 0, .int 0, .int 0, .int 0, .int 0, .int 0, .int 0, .int (-1), .int 0, .ref m_set, .ref m_to, .int 0, .int 0, .int 0, .int 0, .int 0, .int 0, .ref m_lifted, .int 0, .int 0, .int 0, .ref m_order, .int 0, .ref m_past, .int 0, .ref m_rowKind, .ref m_rowSteps, .ref m_rowPath, .ref m_rowWas, .ref m_rowIs, .ref m_pool, .ref m_rowsMany, .ref m_poolMany, .ref m_way, .int 0, .ref m_out, .int 0, .int 0, .ref m_notedThing, .ref m_notedIs, .ref m_votes, .int 0, .int 0, .ref m_treeThen, .int 0, .int 0, .int 0, .ref m_imageTree, .ref m_pastThen, .ref m_notedThingThen, .ref m_notedIsThen, .ref m_statusThen])), (m_tape, .inl (y 0, 400, .inl f_97))] H := hP
  have hD : va_D A [(h0, .inr (11, [.int 0, .ref m_tree, .ref m_data, .ref m_made, .ref m_status, .int 0, .ref m_tape, .ref m_paths, .ref m_pathSize, .null, .int 0, .int 0, .int 15, .int 0, .int 0, .int 0, .int 0, .int 0, .int 0, .int 0, .int 0, .int (-1), .int 0, .ref m_set, .ref m_to, .int 0, .int 0, .int 0, .int 0, .int 0, .int 0, .ref m_lifted, .int 0, .int 0, .int 0, .ref m_order, .int 0, .ref m_past, .int 0, .ref m_rowKind, .ref m_rowSteps, .ref m_rowPath, .ref m_rowWas, .ref m_rowIs, .ref m_pool, .ref m_rowsMany, .ref m_poolMany, .ref m_way, .int 0, .ref m_out, .int 0, .int 0, .ref m_notedThing, .ref m_notedIs, .ref m_votes, .int 0, .int 0, .ref m_treeThen, .int 0, .int 0, .int 0, .ref m_imageTree, .ref m_pastThen, .ref m_notedThingThen, .ref m_notedIsThen, .ref m_statusThen])), (m_tape, .inl (y 0, 400, .inl f_97))] := hD
  refine lv_iinc (v := 15) (lv' := [(6, .int 15), (7, .int a4), (0, .ref h0), (1, .int a1), (2, .int a2), (3, .int a3), (4, .int a4), (5, .int a5)]) hx hb dX11_feed_114 hl (k := 1) rfl (by decide) (by decide) rfl (fun ls hl => ?_)
  refine lv_goto (tgt := 23) hx hb dX11_feed_117 (by decide) ?_
  refine lv_iload hx hb dX11_feed_23 (lv_at hl 0 rfl) ?_
  refine lv_bipush (v := 20) hx hb dX11_feed_25 (by decide) ?_
  refine lv_icmp_ge (tgt := 120) hx hb dX11_feed_27 (by decide) (fun c_98 => absurd c_98 (by decide)) (fun _ => ?_)
  refine lv_iload hx hb dX11_feed_30 (lv_at hl 0 rfl) ?_
  refine lv_iconst (v := 4) hx hb dX11_feed_32 (by decide) ?_
  refine lv_icmp_ge (tgt := 40) hx hb dX11_feed_33 (by decide) (fun _ => ?_) (fun c_99 => absurd c_99 (by decide))
  refine lv_iload hx hb dX11_feed_40 (lv_at hl 0 rfl) ?_
  refine lv_bipush (v := 8) hx hb dX11_feed_42 (by decide) ?_
  refine lv_icmp_ge (tgt := 51) hx hb dX11_feed_44 (by decide) (fun _ => ?_) (fun c_100 => absurd c_100 (by decide))
  refine lv_iload hx hb dX11_feed_51 (lv_at hl 0 rfl) ?_
  refine lv_bipush (v := 12) hx hb dX11_feed_53 (by decide) ?_
  refine lv_icmp_ge (tgt := 62) hx hb dX11_feed_55 (by decide) (fun _ => ?_) (fun c_101 => absurd c_101 (by decide))
  refine lv_iload hx hb dX11_feed_62 (lv_at hl 0 rfl) ?_
  refine lv_bipush (v := 16) hx hb dX11_feed_64 (by decide) ?_
  refine lv_icmp_ge (tgt := 74) hx hb dX11_feed_66 (by decide) (fun c_102 => absurd c_102 (by decide)) (fun _ => ?_)
  refine lv_iload hx hb dX11_feed_69 (lv_at hl 6 rfl) ?_
  refine lv_goto (tgt := 76) hx hb dX11_feed_71 (by decide) ?_
  refine lv_istore (lv' := [(7, .int a4), (6, .int 15), (0, .ref h0), (1, .int a1), (2, .int a2), (3, .int a3), (4, .int a4), (5, .int a5)]) hx hb dX11_feed_76 hl (by decide) rfl (fun ls hl => ?_)
  refine lv_aload_n hx hb dX11_feed_78 rfl (lv_at hl 2 rfl) ?_
  refine va_get (D := G) (ci := 11) (v := .ref m_tape) (C := RX11) (T := TX11) (N := 66) hx hb hts inX11 hown hK.1 hP 0 rfl rfl 6 (by decide) (hts (.fieldLink RX11 22 "NestQueryModel" "tape" "[I") (by decide +kernel)) (fun _ h9 => h9) rfl dX11_feed_79 ?_
  refine lv_aload_n hx hb dX11_feed_82 rfl (lv_at hl 2 rfl) ?_
  refine va_get (D := G) (ci := 11) (v := .int 15) (C := RX11) (T := TX11) (N := 66) hx hb hts inX11 hown hK.1 hP 0 rfl rfl 12 (by decide) (hts (.fieldLink RX11 114 "NestQueryModel" "taped" "I") (by decide +kernel)) (fun _ h9 => h9) rfl dX11_feed_83 ?_
  refine lv_iload hx hb dX11_feed_86 (lv_at hl 0 rfl) ?_
  refine lv_bipush (v := 24) hx hb dX11_feed_88 (by decide) ?_
  refine lv_bipush (v := 8) hx hb dX11_feed_90 (by decide) ?_
  refine lv_iload hx hb dX11_feed_92 (lv_at hl 1 rfl) ?_
  refine lv_iconst (v := 4) hx hb dX11_feed_94 (by decide) ?_
  refine lv_irem hx hb dX11_feed_95 (by decide) ?_
  refine nq_top (z := 3) (by decide) ?_
  refine lv_imul hx hb dX11_feed_96 ?_
  refine nq_top (z := 24) (by decide) ?_
  refine lv_isub hx hb dX11_feed_97 ?_
  refine nq_top (z := 0) (by decide) ?_
  refine lv_ishr hx hb dX11_feed_98 ?_
  refine lv_topi (fun w_103 _ => ?_)
  refine lv_sipush (v := 255) hx hb dX11_feed_99 (by decide) ?_
  refine lv_iand hx hb dX11_feed_102 ?_
  refine lv_topi (fun w_104 _ => ?_)
  refine va_iast hx hb hK.1 hP hD hS 1 0 rfl rfl (i := 15) (nq_in (by decide)) dX11_feed_103 (fun H locs hP hD hS => ?_)
  have hP : va_P G vwCl [(h0, .inr (11, [.int 0, .ref m_tree, .ref m_data, .ref m_made, .ref m_status, .int 0, .ref m_tape, .ref m_paths, .ref m_pathSize, .null, .int 0, .int 0, .int 15, .int 0, .int 0, .int 0, .int 0, .int 0, .int 0, .int 0, .int 0, .int (-1), .int 0, .ref m_set, .ref m_to, .int 0, .int 0, .int 0, .int 0, .int 0, .int 0, .ref m_lifted, .int 0, .int 0, .int 0, .ref m_order, .int 0, .ref m_past, .int 0, .ref m_rowKind, .ref m_rowSteps, .ref m_rowPath, .ref m_rowWas, .ref m_rowIs, .ref m_pool, .ref m_rowsMany, .ref m_poolMany, .ref m_way, .int 0, .ref m_out, .int 0, .int 0, .ref m_notedThing, .ref m_notedIs, .ref m_votes, .int 0, .int 0, .ref m_treeThen, .int 0, .int 0, .int 0, .ref m_imageTree, .ref m_pastThen, .ref m_notedThingThen, .ref m_notedIsThen, .ref m_statusThen])), (m_tape, .inl (y 0, 400, .inl (upd f_97 15 w_104)))] H := hP
  have hD : va_D A [(h0, .inr (11, [.int 0, .ref m_tree, .ref m_data, .ref m_made, .ref m_status, .int 0, .ref m_tape, .ref m_paths, .ref m_pathSize, .null, .int 0, .int 0, .int 15, .int 0, .int 0, .int 0, .int 0, .int 0, .int 0, .int 0, .int 0, .int (-1), .int 0, .ref m_set, .ref m_to, .int 0, .int 0, .int 0, .int 0, .int 0, .int 0, .ref m_lifted, .int 0, .int 0, .int 0, .ref m_order, .int 0, .ref m_past, .int 0, .ref m_rowKind, .ref m_rowSteps, .ref m_rowPath, .ref m_rowWas, .ref m_rowIs, .ref m_pool, .ref m_rowsMany, .ref m_poolMany, .ref m_way, .int 0, .ref m_out, .int 0, .int 0, .ref m_notedThing, .ref m_notedIs, .ref m_votes, .int 0, .int 0, .ref m_treeThen, .int 0, .int 0, .int 0, .ref m_imageTree, .ref m_pastThen, .ref m_notedThingThen, .ref m_notedIsThen, .ref m_statusThen])), (m_tape, .inl (y 0, 400, .inl (upd f_97 15 w_104)))] := hD
  generalize (upd f_97 15 w_104) = f_105 at hP hD
  refine lv_aload_n hx hb dX11_feed_104 rfl (lv_at hl 2 rfl) ?_
  refine lv_dup hx hb dX11_feed_105 rfl ?_
  refine va_get (D := G) (ci := 11) (v := .int 15) (C := RX11) (T := TX11) (N := 66) hx hb hts inX11 hown hK.1 hP 0 rfl rfl 12 (by decide) (hts (.fieldLink RX11 114 "NestQueryModel" "taped" "I") (by decide +kernel)) (fun _ h9 => h9) rfl dX11_feed_106 ?_
  refine lv_iconst (v := 1) hx hb dX11_feed_109 (by decide) ?_
  refine lv_iadd hx hb dX11_feed_110 ?_
  refine nq_top (z := 16) (by decide) ?_
  refine va_put (D := G) (ci := 11) (v := .int 16) (ty := .int) (C := RX11) (T := TX11) (N := 66) hx hb hts inX11 tyX11 tyX11_ok nmX11 hown hK.1 hP hD hS 0 rfl rfl 12 (by decide) (hts (.fieldLink RX11 114 "NestQueryModel" "taped" "I") (by decide +kernel)) (fun _ h9 => h9) rfl (by decide +kernel) rfl rfl (Nat.le_of_ble_eq_true rfl) dX11_feed_111 (fun H locs hP hD hS => ?_)
  have hP : va_P G vwCl [(h0, .inr (11, [.int 0, .ref m_tree, .ref m_data, .ref m_made, .ref m_status, .int 0, .ref m_tape, .ref m_paths, .ref m_pathSize, .null, .int 0, .int 0, .int 16, .int 0, .int 0, .int 0, .int 0, .int 0, .int 0, .int 0, .int 0, .int (-1), .int 0, .ref m_set, .ref m_to, .int 0, .int 0, .int 0, .int 0, .int 0, .int 0, .ref m_lifted, .int 0, .int 0, .int 0, .ref m_order, .int 0, .ref m_past, .int 0, .ref m_rowKind, .ref m_rowSteps, .ref m_rowPath, .ref m_rowWas, .ref m_rowIs, .ref m_pool, .ref m_rowsMany, .ref m_poolMany, .ref m_way, .int 0, .ref m_out, .int 0, .int 0, .ref m_notedThing, .ref m_notedIs, .ref m_votes, .int 0, .int 0, .ref m_treeThen, .int 0, .int 0, .int 0, .ref m_imageTree, .ref m_pastThen, .ref m_notedThingThen, .ref m_notedIsThen, .ref m_statusThen])), (m_tape, .inl (y 0, 400, .inl f_105))] H := hP
  have hD : va_D A [(h0, .inr (11, [.int 0, .ref m_tree, .ref m_data, .ref m_made, .ref m_status, .int 0, .ref m_tape, .ref m_paths, .ref m_pathSize, .null, .int 0, .int 0, .int 16, .int 0, .int 0, .int 0, .int 0, .int 0, .int 0, .int 0, .int 0, .int (-1), .int 0, .ref m_set, .ref m_to, .int 0, .int 0, .int 0, .int 0, .int 0, .int 0, .ref m_lifted, .int 0, .int 0, .int 0, .ref m_order, .int 0, .ref m_past, .int 0, .ref m_rowKind, .ref m_rowSteps, .ref m_rowPath, .ref m_rowWas, .ref m_rowIs, .ref m_pool, .ref m_rowsMany, .ref m_poolMany, .ref m_way, .int 0, .ref m_out, .int 0, .int 0, .ref m_notedThing, .ref m_notedIs, .ref m_votes, .int 0, .int 0, .ref m_treeThen, .int 0, .int 0, .int 0, .ref m_imageTree, .ref m_pastThen, .ref m_notedThingThen, .ref m_notedIsThen, .ref m_statusThen])), (m_tape, .inl (y 0, 400, .inl f_105))] := hD
  refine lv_iinc (v := 16) (lv' := [(6, .int 16), (7, .int a4), (0, .ref h0), (1, .int a1), (2, .int a2), (3, .int a3), (4, .int a4), (5, .int a5)]) hx hb dX11_feed_114 hl (k := 1) rfl (by decide) (by decide) rfl (fun ls hl => ?_)
  refine lv_goto (tgt := 23) hx hb dX11_feed_117 (by decide) ?_
  refine lv_iload hx hb dX11_feed_23 (lv_at hl 0 rfl) ?_
  refine lv_bipush (v := 20) hx hb dX11_feed_25 (by decide) ?_
  refine lv_icmp_ge (tgt := 120) hx hb dX11_feed_27 (by decide) (fun c_106 => absurd c_106 (by decide)) (fun _ => ?_)
  refine lv_iload hx hb dX11_feed_30 (lv_at hl 0 rfl) ?_
  refine lv_iconst (v := 4) hx hb dX11_feed_32 (by decide) ?_
  refine lv_icmp_ge (tgt := 40) hx hb dX11_feed_33 (by decide) (fun _ => ?_) (fun c_107 => absurd c_107 (by decide))
  refine lv_iload hx hb dX11_feed_40 (lv_at hl 0 rfl) ?_
  refine lv_bipush (v := 8) hx hb dX11_feed_42 (by decide) ?_
  refine lv_icmp_ge (tgt := 51) hx hb dX11_feed_44 (by decide) (fun _ => ?_) (fun c_108 => absurd c_108 (by decide))
  refine lv_iload hx hb dX11_feed_51 (lv_at hl 0 rfl) ?_
  refine lv_bipush (v := 12) hx hb dX11_feed_53 (by decide) ?_
  refine lv_icmp_ge (tgt := 62) hx hb dX11_feed_55 (by decide) (fun _ => ?_) (fun c_109 => absurd c_109 (by decide))
  refine lv_iload hx hb dX11_feed_62 (lv_at hl 0 rfl) ?_
  refine lv_bipush (v := 16) hx hb dX11_feed_64 (by decide) ?_
  refine lv_icmp_ge (tgt := 74) hx hb dX11_feed_66 (by decide) (fun _ => ?_) (fun c_110 => absurd c_110 (by decide))
  refine lv_iload hx hb dX11_feed_74 (lv_at hl 7 rfl) ?_
  refine lv_istore (lv' := [(7, .int a5), (6, .int 16), (0, .ref h0), (1, .int a1), (2, .int a2), (3, .int a3), (4, .int a4), (5, .int a5)]) hx hb dX11_feed_76 hl (by decide) rfl (fun ls hl => ?_)
  refine lv_aload_n hx hb dX11_feed_78 rfl (lv_at hl 2 rfl) ?_
  refine va_get (D := G) (ci := 11) (v := .ref m_tape) (C := RX11) (T := TX11) (N := 66) hx hb hts inX11 hown hK.1 hP 0 rfl rfl 6 (by decide) (hts (.fieldLink RX11 22 "NestQueryModel" "tape" "[I") (by decide +kernel)) (fun _ h9 => h9) rfl dX11_feed_79 ?_
  refine lv_aload_n hx hb dX11_feed_82 rfl (lv_at hl 2 rfl) ?_
  refine va_get (D := G) (ci := 11) (v := .int 16) (C := RX11) (T := TX11) (N := 66) hx hb hts inX11 hown hK.1 hP 0 rfl rfl 12 (by decide) (hts (.fieldLink RX11 114 "NestQueryModel" "taped" "I") (by decide +kernel)) (fun _ h9 => h9) rfl dX11_feed_83 ?_
  refine lv_iload hx hb dX11_feed_86 (lv_at hl 0 rfl) ?_
  refine lv_bipush (v := 24) hx hb dX11_feed_88 (by decide) ?_
  refine lv_bipush (v := 8) hx hb dX11_feed_90 (by decide) ?_
  refine lv_iload hx hb dX11_feed_92 (lv_at hl 1 rfl) ?_
  refine lv_iconst (v := 4) hx hb dX11_feed_94 (by decide) ?_
  refine lv_irem hx hb dX11_feed_95 (by decide) ?_
  refine nq_top (z := 0) (by decide) ?_
  refine lv_imul hx hb dX11_feed_96 ?_
  refine nq_top (z := 0) (by decide) ?_
  refine lv_isub hx hb dX11_feed_97 ?_
  refine nq_top (z := 24) (by decide) ?_
  refine lv_ishr hx hb dX11_feed_98 ?_
  refine lv_topi (fun w_111 _ => ?_)
  refine lv_sipush (v := 255) hx hb dX11_feed_99 (by decide) ?_
  refine lv_iand hx hb dX11_feed_102 ?_
  refine lv_topi (fun w_112 _ => ?_)
  refine va_iast hx hb hK.1 hP hD hS 1 0 rfl rfl (i := 16) (nq_in (by decide)) dX11_feed_103 (fun H locs hP hD hS => ?_)
  have hP : va_P G vwCl [(h0, .inr (11, [.int 0, .ref m_tree, .ref m_data, .ref m_made, .ref m_status, .int 0, .ref m_tape, .ref m_paths, .ref m_pathSize, .null, .int 0, .int 0, .int 16, .int 0, .int 0, .int 0, .int 0, .int 0, .int 0, .int 0, .int 0, .int (-1), .int 0, .ref m_set, .ref m_to, .int 0, .int 0, .int 0, .int 0, .int 0, .int 0, .ref m_lifted, .int 0, .int 0, .int 0, .ref m_order, .int 0, .ref m_past, .int 0, .ref m_rowKind, .ref m_rowSteps, .ref m_rowPath, .ref m_rowWas, .ref m_rowIs, .ref m_pool, .ref m_rowsMany, .ref m_poolMany, .ref m_way, .int 0, .ref m_out, .int 0, .int 0, .ref m_notedThing, .ref m_notedIs, .ref m_votes, .int 0, .int 0, .ref m_treeThen, .int 0, .int 0, .int 0, .ref m_imageTree, .ref m_pastThen, .ref m_notedThingThen, .ref m_notedIsThen, .ref m_statusThen])), (m_tape, .inl (y 0, 400, .inl (upd f_105 16 w_112)))] H := hP
  have hD : va_D A [(h0, .inr (11, [.int 0, .ref m_tree, .ref m_data, .ref m_made, .ref m_status, .int 0, .ref m_tape, .ref m_paths, .ref m_pathSize, .null, .int 0, .int 0, .int 16, .int 0, .int 0, .int 0, .int 0, .int 0, .int 0, .int 0, .int 0, .int (-1), .int 0, .ref m_set, .ref m_to, .int 0, .int 0, .int 0, .int 0, .int 0, .int 0, .ref m_lifted, .int 0, .int 0, .int 0, .ref m_order, .int 0, .ref m_past, .int 0, .ref m_rowKind, .ref m_rowSteps, .ref m_rowPath, .ref m_rowWas, .ref m_rowIs, .ref m_pool, .ref m_rowsMany, .ref m_poolMany, .ref m_way, .int 0, .ref m_out, .int 0, .int 0, .ref m_notedThing, .ref m_notedIs, .ref m_votes, .int 0, .int 0, .ref m_treeThen, .int 0, .int 0, .int 0, .ref m_imageTree, .ref m_pastThen, .ref m_notedThingThen, .ref m_notedIsThen, .ref m_statusThen])), (m_tape, .inl (y 0, 400, .inl (upd f_105 16 w_112)))] := hD
  generalize (upd f_105 16 w_112) = f_113 at hP hD
  refine lv_aload_n hx hb dX11_feed_104 rfl (lv_at hl 2 rfl) ?_
  refine lv_dup hx hb dX11_feed_105 rfl ?_
  refine va_get (D := G) (ci := 11) (v := .int 16) (C := RX11) (T := TX11) (N := 66) hx hb hts inX11 hown hK.1 hP 0 rfl rfl 12 (by decide) (hts (.fieldLink RX11 114 "NestQueryModel" "taped" "I") (by decide +kernel)) (fun _ h9 => h9) rfl dX11_feed_106 ?_
  refine lv_iconst (v := 1) hx hb dX11_feed_109 (by decide) ?_
  refine lv_iadd hx hb dX11_feed_110 ?_
  refine nq_top (z := 17) (by decide) ?_
  refine va_put (D := G) (ci := 11) (v := .int 17) (ty := .int) (C := RX11) (T := TX11) (N := 66) hx hb hts inX11 tyX11 tyX11_ok nmX11 hown hK.1 hP hD hS 0 rfl rfl 12 (by decide) (hts (.fieldLink RX11 114 "NestQueryModel" "taped" "I") (by decide +kernel)) (fun _ h9 => h9) rfl (by decide +kernel) rfl rfl (Nat.le_of_ble_eq_true rfl) dX11_feed_111 (fun H locs hP hD hS => ?_)
  have hP : va_P G vwCl [(h0, .inr (11, [.int 0, .ref m_tree, .ref m_data, .ref m_made, .ref m_status, .int 0, .ref m_tape, .ref m_paths, .ref m_pathSize, .null, .int 0, .int 0, .int 17, .int 0, .int 0, .int 0, .int 0, .int 0, .int 0, .int 0, .int 0, .int (-1), .int 0, .ref m_set, .ref m_to, .int 0, .int 0, .int 0, .int 0, .int 0, .int 0, .ref m_lifted, .int 0, .int 0, .int 0, .ref m_order, .int 0, .ref m_past, .int 0, .ref m_rowKind, .ref m_rowSteps, .ref m_rowPath, .ref m_rowWas, .ref m_rowIs, .ref m_pool, .ref m_rowsMany, .ref m_poolMany, .ref m_way, .int 0, .ref m_out, .int 0, .int 0, .ref m_notedThing, .ref m_notedIs, .ref m_votes, .int 0, .int 0, .ref m_treeThen, .int 0, .int 0, .int 0, .ref m_imageTree, .ref m_pastThen, .ref m_notedThingThen, .ref m_notedIsThen, .ref m_statusThen])), (m_tape, .inl (y 0, 400, .inl f_113))] H := hP
  have hD : va_D A [(h0, .inr (11, [.int 0, .ref m_tree, .ref m_data, .ref m_made, .ref m_status, .int 0, .ref m_tape, .ref m_paths, .ref m_pathSize, .null, .int 0, .int 0, .int 17, .int 0, .int 0, .int 0, .int 0, .int 0, .int 0, .int 0, .int 0, .int (-1), .int 0, .ref m_set, .ref m_to, .int 0, .int 0, .int 0, .int 0, .int 0, .int 0, .ref m_lifted, .int 0, .int 0, .int 0, .ref m_order, .int 0, .ref m_past, .int 0, .ref m_rowKind, .ref m_rowSteps, .ref m_rowPath, .ref m_rowWas, .ref m_rowIs, .ref m_pool, .ref m_rowsMany, .ref m_poolMany, .ref m_way, .int 0, .ref m_out, .int 0, .int 0, .ref m_notedThing, .ref m_notedIs, .ref m_votes, .int 0, .int 0, .ref m_treeThen, .int 0, .int 0, .int 0, .ref m_imageTree, .ref m_pastThen, .ref m_notedThingThen, .ref m_notedIsThen, .ref m_statusThen])), (m_tape, .inl (y 0, 400, .inl f_113))] := hD
  refine lv_iinc (v := 17) (lv' := [(6, .int 17), (7, .int a5), (0, .ref h0), (1, .int a1), (2, .int a2), (3, .int a3), (4, .int a4), (5, .int a5)]) hx hb dX11_feed_114 hl (k := 1) rfl (by decide) (by decide) rfl (fun ls hl => ?_)
  refine lv_goto (tgt := 23) hx hb dX11_feed_117 (by decide) ?_
  refine lv_iload hx hb dX11_feed_23 (lv_at hl 0 rfl) ?_
  refine lv_bipush (v := 20) hx hb dX11_feed_25 (by decide) ?_
  refine lv_icmp_ge (tgt := 120) hx hb dX11_feed_27 (by decide) (fun c_114 => absurd c_114 (by decide)) (fun _ => ?_)
  refine lv_iload hx hb dX11_feed_30 (lv_at hl 0 rfl) ?_
  refine lv_iconst (v := 4) hx hb dX11_feed_32 (by decide) ?_
  refine lv_icmp_ge (tgt := 40) hx hb dX11_feed_33 (by decide) (fun _ => ?_) (fun c_115 => absurd c_115 (by decide))
  refine lv_iload hx hb dX11_feed_40 (lv_at hl 0 rfl) ?_
  refine lv_bipush (v := 8) hx hb dX11_feed_42 (by decide) ?_
  refine lv_icmp_ge (tgt := 51) hx hb dX11_feed_44 (by decide) (fun _ => ?_) (fun c_116 => absurd c_116 (by decide))
  refine lv_iload hx hb dX11_feed_51 (lv_at hl 0 rfl) ?_
  refine lv_bipush (v := 12) hx hb dX11_feed_53 (by decide) ?_
  refine lv_icmp_ge (tgt := 62) hx hb dX11_feed_55 (by decide) (fun _ => ?_) (fun c_117 => absurd c_117 (by decide))
  refine lv_iload hx hb dX11_feed_62 (lv_at hl 0 rfl) ?_
  refine lv_bipush (v := 16) hx hb dX11_feed_64 (by decide) ?_
  refine lv_icmp_ge (tgt := 74) hx hb dX11_feed_66 (by decide) (fun _ => ?_) (fun c_118 => absurd c_118 (by decide))
  refine lv_iload hx hb dX11_feed_74 (lv_at hl 7 rfl) ?_
  refine lv_istore (lv' := [(7, .int a5), (6, .int 17), (0, .ref h0), (1, .int a1), (2, .int a2), (3, .int a3), (4, .int a4), (5, .int a5)]) hx hb dX11_feed_76 hl (by decide) rfl (fun ls hl => ?_)
  refine lv_aload_n hx hb dX11_feed_78 rfl (lv_at hl 2 rfl) ?_
  refine va_get (D := G) (ci := 11) (v := .ref m_tape) (C := RX11) (T := TX11) (N := 66) hx hb hts inX11 hown hK.1 hP 0 rfl rfl 6 (by decide) (hts (.fieldLink RX11 22 "NestQueryModel" "tape" "[I") (by decide +kernel)) (fun _ h9 => h9) rfl dX11_feed_79 ?_
  refine lv_aload_n hx hb dX11_feed_82 rfl (lv_at hl 2 rfl) ?_
  refine va_get (D := G) (ci := 11) (v := .int 17) (C := RX11) (T := TX11) (N := 66) hx hb hts inX11 hown hK.1 hP 0 rfl rfl 12 (by decide) (hts (.fieldLink RX11 114 "NestQueryModel" "taped" "I") (by decide +kernel)) (fun _ h9 => h9) rfl dX11_feed_83 ?_
  refine lv_iload hx hb dX11_feed_86 (lv_at hl 0 rfl) ?_
  refine lv_bipush (v := 24) hx hb dX11_feed_88 (by decide) ?_
  refine lv_bipush (v := 8) hx hb dX11_feed_90 (by decide) ?_
  refine lv_iload hx hb dX11_feed_92 (lv_at hl 1 rfl) ?_
  refine lv_iconst (v := 4) hx hb dX11_feed_94 (by decide) ?_
  refine lv_irem hx hb dX11_feed_95 (by decide) ?_
  refine nq_top (z := 1) (by decide) ?_
  refine lv_imul hx hb dX11_feed_96 ?_
  refine nq_top (z := 8) (by decide) ?_
  refine lv_isub hx hb dX11_feed_97 ?_
  refine nq_top (z := 16) (by decide) ?_
  refine lv_ishr hx hb dX11_feed_98 ?_
  refine lv_topi (fun w_119 _ => ?_)
  refine lv_sipush (v := 255) hx hb dX11_feed_99 (by decide) ?_
  refine lv_iand hx hb dX11_feed_102 ?_
  refine lv_topi (fun w_120 _ => ?_)
  refine va_iast hx hb hK.1 hP hD hS 1 0 rfl rfl (i := 17) (nq_in (by decide)) dX11_feed_103 (fun H locs hP hD hS => ?_)
  have hP : va_P G vwCl [(h0, .inr (11, [.int 0, .ref m_tree, .ref m_data, .ref m_made, .ref m_status, .int 0, .ref m_tape, .ref m_paths, .ref m_pathSize, .null, .int 0, .int 0, .int 17, .int 0, .int 0, .int 0, .int 0, .int 0, .int 0, .int 0, .int 0, .int (-1), .int 0, .ref m_set, .ref m_to, .int 0, .int 0, .int 0, .int 0, .int 0, .int 0, .ref m_lifted, .int 0, .int 0, .int 0, .ref m_order, .int 0, .ref m_past, .int 0, .ref m_rowKind, .ref m_rowSteps, .ref m_rowPath, .ref m_rowWas, .ref m_rowIs, .ref m_pool, .ref m_rowsMany, .ref m_poolMany, .ref m_way, .int 0, .ref m_out, .int 0, .int 0, .ref m_notedThing, .ref m_notedIs, .ref m_votes, .int 0, .int 0, .ref m_treeThen, .int 0, .int 0, .int 0, .ref m_imageTree, .ref m_pastThen, .ref m_notedThingThen, .ref m_notedIsThen, .ref m_statusThen])), (m_tape, .inl (y 0, 400, .inl (upd f_113 17 w_120)))] H := hP
  have hD : va_D A [(h0, .inr (11, [.int 0, .ref m_tree, .ref m_data, .ref m_made, .ref m_status, .int 0, .ref m_tape, .ref m_paths, .ref m_pathSize, .null, .int 0, .int 0, .int 17, .int 0, .int 0, .int 0, .int 0, .int 0, .int 0, .int 0, .int 0, .int (-1), .int 0, .ref m_set, .ref m_to, .int 0, .int 0, .int 0, .int 0, .int 0, .int 0, .ref m_lifted, .int 0, .int 0, .int 0, .ref m_order, .int 0, .ref m_past, .int 0, .ref m_rowKind, .ref m_rowSteps, .ref m_rowPath, .ref m_rowWas, .ref m_rowIs, .ref m_pool, .ref m_rowsMany, .ref m_poolMany, .ref m_way, .int 0, .ref m_out, .int 0, .int 0, .ref m_notedThing, .ref m_notedIs, .ref m_votes, .int 0, .int 0, .ref m_treeThen, .int 0, .int 0, .int 0, .ref m_imageTree, .ref m_pastThen, .ref m_notedThingThen, .ref m_notedIsThen, .ref m_statusThen])), (m_tape, .inl (y 0, 400, .inl (upd f_113 17 w_120)))] := hD
  generalize (upd f_113 17 w_120) = f_121 at hP hD
  refine lv_aload_n hx hb dX11_feed_104 rfl (lv_at hl 2 rfl) ?_
  refine lv_dup hx hb dX11_feed_105 rfl ?_
  refine va_get (D := G) (ci := 11) (v := .int 17) (C := RX11) (T := TX11) (N := 66) hx hb hts inX11 hown hK.1 hP 0 rfl rfl 12 (by decide) (hts (.fieldLink RX11 114 "NestQueryModel" "taped" "I") (by decide +kernel)) (fun _ h9 => h9) rfl dX11_feed_106 ?_
  refine lv_iconst (v := 1) hx hb dX11_feed_109 (by decide) ?_
  refine lv_iadd hx hb dX11_feed_110 ?_
  refine nq_top (z := 18) (by decide) ?_
  refine va_put (D := G) (ci := 11) (v := .int 18) (ty := .int) (C := RX11) (T := TX11) (N := 66) hx hb hts inX11 tyX11 tyX11_ok nmX11 hown hK.1 hP hD hS 0 rfl rfl 12 (by decide) (hts (.fieldLink RX11 114 "NestQueryModel" "taped" "I") (by decide +kernel)) (fun _ h9 => h9) rfl (by decide +kernel) rfl rfl (Nat.le_of_ble_eq_true rfl) dX11_feed_111 (fun H locs hP hD hS => ?_)
  have hP : va_P G vwCl [(h0, .inr (11, [.int 0, .ref m_tree, .ref m_data, .ref m_made, .ref m_status, .int 0, .ref m_tape, .ref m_paths, .ref m_pathSize, .null, .int 0, .int 0, .int 18, .int 0, .int 0, .int 0, .int 0, .int 0, .int 0, .int 0, .int 0, .int (-1), .int 0, .ref m_set, .ref m_to, .int 0, .int 0, .int 0, .int 0, .int 0, .int 0, .ref m_lifted, .int 0, .int 0, .int 0, .ref m_order, .int 0, .ref m_past, .int 0, .ref m_rowKind, .ref m_rowSteps, .ref m_rowPath, .ref m_rowWas, .ref m_rowIs, .ref m_pool, .ref m_rowsMany, .ref m_poolMany, .ref m_way, .int 0, .ref m_out, .int 0, .int 0, .ref m_notedThing, .ref m_notedIs, .ref m_votes, .int 0, .int 0, .ref m_treeThen, .int 0, .int 0, .int 0, .ref m_imageTree, .ref m_pastThen, .ref m_notedThingThen, .ref m_notedIsThen, .ref m_statusThen])), (m_tape, .inl (y 0, 400, .inl f_121))] H := hP
  have hD : va_D A [(h0, .inr (11, [.int 0, .ref m_tree, .ref m_data, .ref m_made, .ref m_status, .int 0, .ref m_tape, .ref m_paths, .ref m_pathSize, .null, .int 0, .int 0, .int 18, .int 0, .int 0, .int 0, .int 0, .int 0, .int 0, .int 0, .int 0, .int (-1), .int 0, .ref m_set, .ref m_to, .int 0, .int 0, .int 0, .int 0, .int 0, .int 0, .ref m_lifted, .int 0, .int 0, .int 0, .ref m_order, .int 0, .ref m_past, .int 0, .ref m_rowKind, .ref m_rowSteps, .ref m_rowPath, .ref m_rowWas, .ref m_rowIs, .ref m_pool, .ref m_rowsMany, .ref m_poolMany, .ref m_way, .int 0, .ref m_out, .int 0, .int 0, .ref m_notedThing, .ref m_notedIs, .ref m_votes, .int 0, .int 0, .ref m_treeThen, .int 0, .int 0, .int 0, .ref m_imageTree, .ref m_pastThen, .ref m_notedThingThen, .ref m_notedIsThen, .ref m_statusThen])), (m_tape, .inl (y 0, 400, .inl f_121))] := hD
  refine lv_iinc (v := 18) (lv' := [(6, .int 18), (7, .int a5), (0, .ref h0), (1, .int a1), (2, .int a2), (3, .int a3), (4, .int a4), (5, .int a5)]) hx hb dX11_feed_114 hl (k := 1) rfl (by decide) (by decide) rfl (fun ls hl => ?_)
  refine lv_goto (tgt := 23) hx hb dX11_feed_117 (by decide) ?_
  refine lv_iload hx hb dX11_feed_23 (lv_at hl 0 rfl) ?_
  refine lv_bipush (v := 20) hx hb dX11_feed_25 (by decide) ?_
  refine lv_icmp_ge (tgt := 120) hx hb dX11_feed_27 (by decide) (fun c_122 => absurd c_122 (by decide)) (fun _ => ?_)
  refine lv_iload hx hb dX11_feed_30 (lv_at hl 0 rfl) ?_
  refine lv_iconst (v := 4) hx hb dX11_feed_32 (by decide) ?_
  refine lv_icmp_ge (tgt := 40) hx hb dX11_feed_33 (by decide) (fun _ => ?_) (fun c_123 => absurd c_123 (by decide))
  refine lv_iload hx hb dX11_feed_40 (lv_at hl 0 rfl) ?_
  refine lv_bipush (v := 8) hx hb dX11_feed_42 (by decide) ?_
  refine lv_icmp_ge (tgt := 51) hx hb dX11_feed_44 (by decide) (fun _ => ?_) (fun c_124 => absurd c_124 (by decide))
  refine lv_iload hx hb dX11_feed_51 (lv_at hl 0 rfl) ?_
  refine lv_bipush (v := 12) hx hb dX11_feed_53 (by decide) ?_
  refine lv_icmp_ge (tgt := 62) hx hb dX11_feed_55 (by decide) (fun _ => ?_) (fun c_125 => absurd c_125 (by decide))
  refine lv_iload hx hb dX11_feed_62 (lv_at hl 0 rfl) ?_
  refine lv_bipush (v := 16) hx hb dX11_feed_64 (by decide) ?_
  refine lv_icmp_ge (tgt := 74) hx hb dX11_feed_66 (by decide) (fun _ => ?_) (fun c_126 => absurd c_126 (by decide))
  refine lv_iload hx hb dX11_feed_74 (lv_at hl 7 rfl) ?_
  refine lv_istore (lv' := [(7, .int a5), (6, .int 18), (0, .ref h0), (1, .int a1), (2, .int a2), (3, .int a3), (4, .int a4), (5, .int a5)]) hx hb dX11_feed_76 hl (by decide) rfl (fun ls hl => ?_)
  refine lv_aload_n hx hb dX11_feed_78 rfl (lv_at hl 2 rfl) ?_
  refine va_get (D := G) (ci := 11) (v := .ref m_tape) (C := RX11) (T := TX11) (N := 66) hx hb hts inX11 hown hK.1 hP 0 rfl rfl 6 (by decide) (hts (.fieldLink RX11 22 "NestQueryModel" "tape" "[I") (by decide +kernel)) (fun _ h9 => h9) rfl dX11_feed_79 ?_
  refine lv_aload_n hx hb dX11_feed_82 rfl (lv_at hl 2 rfl) ?_
  refine va_get (D := G) (ci := 11) (v := .int 18) (C := RX11) (T := TX11) (N := 66) hx hb hts inX11 hown hK.1 hP 0 rfl rfl 12 (by decide) (hts (.fieldLink RX11 114 "NestQueryModel" "taped" "I") (by decide +kernel)) (fun _ h9 => h9) rfl dX11_feed_83 ?_
  refine lv_iload hx hb dX11_feed_86 (lv_at hl 0 rfl) ?_
  refine lv_bipush (v := 24) hx hb dX11_feed_88 (by decide) ?_
  refine lv_bipush (v := 8) hx hb dX11_feed_90 (by decide) ?_
  refine lv_iload hx hb dX11_feed_92 (lv_at hl 1 rfl) ?_
  refine lv_iconst (v := 4) hx hb dX11_feed_94 (by decide) ?_
  refine lv_irem hx hb dX11_feed_95 (by decide) ?_
  refine nq_top (z := 2) (by decide) ?_
  refine lv_imul hx hb dX11_feed_96 ?_
  refine nq_top (z := 16) (by decide) ?_
  refine lv_isub hx hb dX11_feed_97 ?_
  refine nq_top (z := 8) (by decide) ?_
  refine lv_ishr hx hb dX11_feed_98 ?_
  refine lv_topi (fun w_127 _ => ?_)
  refine lv_sipush (v := 255) hx hb dX11_feed_99 (by decide) ?_
  refine lv_iand hx hb dX11_feed_102 ?_
  refine lv_topi (fun w_128 _ => ?_)
  refine va_iast hx hb hK.1 hP hD hS 1 0 rfl rfl (i := 18) (nq_in (by decide)) dX11_feed_103 (fun H locs hP hD hS => ?_)
  have hP : va_P G vwCl [(h0, .inr (11, [.int 0, .ref m_tree, .ref m_data, .ref m_made, .ref m_status, .int 0, .ref m_tape, .ref m_paths, .ref m_pathSize, .null, .int 0, .int 0, .int 18, .int 0, .int 0, .int 0, .int 0, .int 0, .int 0, .int 0, .int 0, .int (-1), .int 0, .ref m_set, .ref m_to, .int 0, .int 0, .int 0, .int 0, .int 0, .int 0, .ref m_lifted, .int 0, .int 0, .int 0, .ref m_order, .int 0, .ref m_past, .int 0, .ref m_rowKind, .ref m_rowSteps, .ref m_rowPath, .ref m_rowWas, .ref m_rowIs, .ref m_pool, .ref m_rowsMany, .ref m_poolMany, .ref m_way, .int 0, .ref m_out, .int 0, .int 0, .ref m_notedThing, .ref m_notedIs, .ref m_votes, .int 0, .int 0, .ref m_treeThen, .int 0, .int 0, .int 0, .ref m_imageTree, .ref m_pastThen, .ref m_notedThingThen, .ref m_notedIsThen, .ref m_statusThen])), (m_tape, .inl (y 0, 400, .inl (upd f_121 18 w_128)))] H := hP
  have hD : va_D A [(h0, .inr (11, [.int 0, .ref m_tree, .ref m_data, .ref m_made, .ref m_status, .int 0, .ref m_tape, .ref m_paths, .ref m_pathSize, .null, .int 0, .int 0, .int 18, .int 0, .int 0, .int 0, .int 0, .int 0, .int 0, .int 0, .int 0, .int (-1), .int 0, .ref m_set, .ref m_to, .int 0, .int 0, .int 0, .int 0, .int 0, .int 0, .ref m_lifted, .int 0, .int 0, .int 0, .ref m_order, .int 0, .ref m_past, .int 0, .ref m_rowKind, .ref m_rowSteps, .ref m_rowPath, .ref m_rowWas, .ref m_rowIs, .ref m_pool, .ref m_rowsMany, .ref m_poolMany, .ref m_way, .int 0, .ref m_out, .int 0, .int 0, .ref m_notedThing, .ref m_notedIs, .ref m_votes, .int 0, .int 0, .ref m_treeThen, .int 0, .int 0, .int 0, .ref m_imageTree, .ref m_pastThen, .ref m_notedThingThen, .ref m_notedIsThen, .ref m_statusThen])), (m_tape, .inl (y 0, 400, .inl (upd f_121 18 w_128)))] := hD
  generalize (upd f_121 18 w_128) = f_129 at hP hD
  refine lv_aload_n hx hb dX11_feed_104 rfl (lv_at hl 2 rfl) ?_
  refine lv_dup hx hb dX11_feed_105 rfl ?_
  refine va_get (D := G) (ci := 11) (v := .int 18) (C := RX11) (T := TX11) (N := 66) hx hb hts inX11 hown hK.1 hP 0 rfl rfl 12 (by decide) (hts (.fieldLink RX11 114 "NestQueryModel" "taped" "I") (by decide +kernel)) (fun _ h9 => h9) rfl dX11_feed_106 ?_
  refine lv_iconst (v := 1) hx hb dX11_feed_109 (by decide) ?_
  refine lv_iadd hx hb dX11_feed_110 ?_
  refine nq_top (z := 19) (by decide) ?_
  refine va_put (D := G) (ci := 11) (v := .int 19) (ty := .int) (C := RX11) (T := TX11) (N := 66) hx hb hts inX11 tyX11 tyX11_ok nmX11 hown hK.1 hP hD hS 0 rfl rfl 12 (by decide) (hts (.fieldLink RX11 114 "NestQueryModel" "taped" "I") (by decide +kernel)) (fun _ h9 => h9) rfl (by decide +kernel) rfl rfl (Nat.le_of_ble_eq_true rfl) dX11_feed_111 (fun H locs hP hD hS => ?_)
  have hP : va_P G vwCl [(h0, .inr (11, [.int 0, .ref m_tree, .ref m_data, .ref m_made, .ref m_status, .int 0, .ref m_tape, .ref m_paths, .ref m_pathSize, .null, .int 0, .int 0, .int 19, .int 0, .int 0, .int 0, .int 0, .int 0, .int 0, .int 0, .int 0, .int (-1), .int 0, .ref m_set, .ref m_to, .int 0, .int 0, .int 0, .int 0, .int 0, .int 0, .ref m_lifted, .int 0, .int 0, .int 0, .ref m_order, .int 0, .ref m_past, .int 0, .ref m_rowKind, .ref m_rowSteps, .ref m_rowPath, .ref m_rowWas, .ref m_rowIs, .ref m_pool, .ref m_rowsMany, .ref m_poolMany, .ref m_way, .int 0, .ref m_out, .int 0, .int 0, .ref m_notedThing, .ref m_notedIs, .ref m_votes, .int 0, .int 0, .ref m_treeThen, .int 0, .int 0, .int 0, .ref m_imageTree, .ref m_pastThen, .ref m_notedThingThen, .ref m_notedIsThen, .ref m_statusThen])), (m_tape, .inl (y 0, 400, .inl f_129))] H := hP
  have hD : va_D A [(h0, .inr (11, [.int 0, .ref m_tree, .ref m_data, .ref m_made, .ref m_status, .int 0, .ref m_tape, .ref m_paths, .ref m_pathSize, .null, .int 0, .int 0, .int 19, .int 0, .int 0, .int 0, .int 0, .int 0, .int 0, .int 0, .int 0, .int (-1), .int 0, .ref m_set, .ref m_to, .int 0, .int 0, .int 0, .int 0, .int 0, .int 0, .ref m_lifted, .int 0, .int 0, .int 0, .ref m_order, .int 0, .ref m_past, .int 0, .ref m_rowKind, .ref m_rowSteps, .ref m_rowPath, .ref m_rowWas, .ref m_rowIs, .ref m_pool, .ref m_rowsMany, .ref m_poolMany, .ref m_way, .int 0, .ref m_out, .int 0, .int 0, .ref m_notedThing, .ref m_notedIs, .ref m_votes, .int 0, .int 0, .ref m_treeThen, .int 0, .int 0, .int 0, .ref m_imageTree, .ref m_pastThen, .ref m_notedThingThen, .ref m_notedIsThen, .ref m_statusThen])), (m_tape, .inl (y 0, 400, .inl f_129))] := hD
  refine lv_iinc (v := 19) (lv' := [(6, .int 19), (7, .int a5), (0, .ref h0), (1, .int a1), (2, .int a2), (3, .int a3), (4, .int a4), (5, .int a5)]) hx hb dX11_feed_114 hl (k := 1) rfl (by decide) (by decide) rfl (fun ls hl => ?_)
  refine lv_goto (tgt := 23) hx hb dX11_feed_117 (by decide) ?_
  refine lv_iload hx hb dX11_feed_23 (lv_at hl 0 rfl) ?_
  refine lv_bipush (v := 20) hx hb dX11_feed_25 (by decide) ?_
  refine lv_icmp_ge (tgt := 120) hx hb dX11_feed_27 (by decide) (fun c_130 => absurd c_130 (by decide)) (fun _ => ?_)
  refine lv_iload hx hb dX11_feed_30 (lv_at hl 0 rfl) ?_
  refine lv_iconst (v := 4) hx hb dX11_feed_32 (by decide) ?_
  refine lv_icmp_ge (tgt := 40) hx hb dX11_feed_33 (by decide) (fun _ => ?_) (fun c_131 => absurd c_131 (by decide))
  refine lv_iload hx hb dX11_feed_40 (lv_at hl 0 rfl) ?_
  refine lv_bipush (v := 8) hx hb dX11_feed_42 (by decide) ?_
  refine lv_icmp_ge (tgt := 51) hx hb dX11_feed_44 (by decide) (fun _ => ?_) (fun c_132 => absurd c_132 (by decide))
  refine lv_iload hx hb dX11_feed_51 (lv_at hl 0 rfl) ?_
  refine lv_bipush (v := 12) hx hb dX11_feed_53 (by decide) ?_
  refine lv_icmp_ge (tgt := 62) hx hb dX11_feed_55 (by decide) (fun _ => ?_) (fun c_133 => absurd c_133 (by decide))
  refine lv_iload hx hb dX11_feed_62 (lv_at hl 0 rfl) ?_
  refine lv_bipush (v := 16) hx hb dX11_feed_64 (by decide) ?_
  refine lv_icmp_ge (tgt := 74) hx hb dX11_feed_66 (by decide) (fun _ => ?_) (fun c_134 => absurd c_134 (by decide))
  refine lv_iload hx hb dX11_feed_74 (lv_at hl 7 rfl) ?_
  refine lv_istore (lv' := [(7, .int a5), (6, .int 19), (0, .ref h0), (1, .int a1), (2, .int a2), (3, .int a3), (4, .int a4), (5, .int a5)]) hx hb dX11_feed_76 hl (by decide) rfl (fun ls hl => ?_)
  refine lv_aload_n hx hb dX11_feed_78 rfl (lv_at hl 2 rfl) ?_
  refine va_get (D := G) (ci := 11) (v := .ref m_tape) (C := RX11) (T := TX11) (N := 66) hx hb hts inX11 hown hK.1 hP 0 rfl rfl 6 (by decide) (hts (.fieldLink RX11 22 "NestQueryModel" "tape" "[I") (by decide +kernel)) (fun _ h9 => h9) rfl dX11_feed_79 ?_
  refine lv_aload_n hx hb dX11_feed_82 rfl (lv_at hl 2 rfl) ?_
  refine va_get (D := G) (ci := 11) (v := .int 19) (C := RX11) (T := TX11) (N := 66) hx hb hts inX11 hown hK.1 hP 0 rfl rfl 12 (by decide) (hts (.fieldLink RX11 114 "NestQueryModel" "taped" "I") (by decide +kernel)) (fun _ h9 => h9) rfl dX11_feed_83 ?_
  refine lv_iload hx hb dX11_feed_86 (lv_at hl 0 rfl) ?_
  refine lv_bipush (v := 24) hx hb dX11_feed_88 (by decide) ?_
  refine lv_bipush (v := 8) hx hb dX11_feed_90 (by decide) ?_
  refine lv_iload hx hb dX11_feed_92 (lv_at hl 1 rfl) ?_
  refine lv_iconst (v := 4) hx hb dX11_feed_94 (by decide) ?_
  refine lv_irem hx hb dX11_feed_95 (by decide) ?_
  refine nq_top (z := 3) (by decide) ?_
  refine lv_imul hx hb dX11_feed_96 ?_
  refine nq_top (z := 24) (by decide) ?_
  refine lv_isub hx hb dX11_feed_97 ?_
  refine nq_top (z := 0) (by decide) ?_
  refine lv_ishr hx hb dX11_feed_98 ?_
  refine lv_topi (fun w_135 _ => ?_)
  refine lv_sipush (v := 255) hx hb dX11_feed_99 (by decide) ?_
  refine lv_iand hx hb dX11_feed_102 ?_
  refine lv_topi (fun w_136 _ => ?_)
  refine va_iast hx hb hK.1 hP hD hS 1 0 rfl rfl (i := 19) (nq_in (by decide)) dX11_feed_103 (fun H locs hP hD hS => ?_)
  have hP : va_P G vwCl [(h0, .inr (11, [.int 0, .ref m_tree, .ref m_data, .ref m_made, .ref m_status, .int 0, .ref m_tape, .ref m_paths, .ref m_pathSize, .null, .int 0, .int 0, .int 19, .int 0, .int 0, .int 0, .int 0, .int 0, .int 0, .int 0, .int 0, .int (-1), .int 0, .ref m_set, .ref m_to, .int 0, .int 0, .int 0, .int 0, .int 0, .int 0, .ref m_lifted, .int 0, .int 0, .int 0, .ref m_order, .int 0, .ref m_past, .int 0, .ref m_rowKind, .ref m_rowSteps, .ref m_rowPath, .ref m_rowWas, .ref m_rowIs, .ref m_pool, .ref m_rowsMany, .ref m_poolMany, .ref m_way, .int 0, .ref m_out, .int 0, .int 0, .ref m_notedThing, .ref m_notedIs, .ref m_votes, .int 0, .int 0, .ref m_treeThen, .int 0, .int 0, .int 0, .ref m_imageTree, .ref m_pastThen, .ref m_notedThingThen, .ref m_notedIsThen, .ref m_statusThen])), (m_tape, .inl (y 0, 400, .inl (upd f_129 19 w_136)))] H := hP
  have hD : va_D A [(h0, .inr (11, [.int 0, .ref m_tree, .ref m_data, .ref m_made, .ref m_status, .int 0, .ref m_tape, .ref m_paths, .ref m_pathSize, .null, .int 0, .int 0, .int 19, .int 0, .int 0, .int 0, .int 0, .int 0, .int 0, .int 0, .int 0, .int (-1), .int 0, .ref m_set, .ref m_to, .int 0, .int 0, .int 0, .int 0, .int 0, .int 0, .ref m_lifted, .int 0, .int 0, .int 0, .ref m_order, .int 0, .ref m_past, .int 0, .ref m_rowKind, .ref m_rowSteps, .ref m_rowPath, .ref m_rowWas, .ref m_rowIs, .ref m_pool, .ref m_rowsMany, .ref m_poolMany, .ref m_way, .int 0, .ref m_out, .int 0, .int 0, .ref m_notedThing, .ref m_notedIs, .ref m_votes, .int 0, .int 0, .ref m_treeThen, .int 0, .int 0, .int 0, .ref m_imageTree, .ref m_pastThen, .ref m_notedThingThen, .ref m_notedIsThen, .ref m_statusThen])), (m_tape, .inl (y 0, 400, .inl (upd f_129 19 w_136)))] := hD
  generalize (upd f_129 19 w_136) = f_137 at hP hD
  refine lv_aload_n hx hb dX11_feed_104 rfl (lv_at hl 2 rfl) ?_
  refine lv_dup hx hb dX11_feed_105 rfl ?_
  refine va_get (D := G) (ci := 11) (v := .int 19) (C := RX11) (T := TX11) (N := 66) hx hb hts inX11 hown hK.1 hP 0 rfl rfl 12 (by decide) (hts (.fieldLink RX11 114 "NestQueryModel" "taped" "I") (by decide +kernel)) (fun _ h9 => h9) rfl dX11_feed_106 ?_
  refine lv_iconst (v := 1) hx hb dX11_feed_109 (by decide) ?_
  refine lv_iadd hx hb dX11_feed_110 ?_
  refine nq_top (z := 20) (by decide) ?_
  refine va_put (D := G) (ci := 11) (v := .int 20) (ty := .int) (C := RX11) (T := TX11) (N := 66) hx hb hts inX11 tyX11 tyX11_ok nmX11 hown hK.1 hP hD hS 0 rfl rfl 12 (by decide) (hts (.fieldLink RX11 114 "NestQueryModel" "taped" "I") (by decide +kernel)) (fun _ h9 => h9) rfl (by decide +kernel) rfl rfl (Nat.le_of_ble_eq_true rfl) dX11_feed_111 (fun H locs hP hD hS => ?_)
  have hP : va_P G vwCl [(h0, .inr (11, [.int 0, .ref m_tree, .ref m_data, .ref m_made, .ref m_status, .int 0, .ref m_tape, .ref m_paths, .ref m_pathSize, .null, .int 0, .int 0, .int 20, .int 0, .int 0, .int 0, .int 0, .int 0, .int 0, .int 0, .int 0, .int (-1), .int 0, .ref m_set, .ref m_to, .int 0, .int 0, .int 0, .int 0, .int 0, .int 0, .ref m_lifted, .int 0, .int 0, .int 0, .ref m_order, .int 0, .ref m_past, .int 0, .ref m_rowKind, .ref m_rowSteps, .ref m_rowPath, .ref m_rowWas, .ref m_rowIs, .ref m_pool, .ref m_rowsMany, .ref m_poolMany, .ref m_way, .int 0, .ref m_out, .int 0, .int 0, .ref m_notedThing, .ref m_notedIs, .ref m_votes, .int 0, .int 0, .ref m_treeThen, .int 0, .int 0, .int 0, .ref m_imageTree, .ref m_pastThen, .ref m_notedThingThen, .ref m_notedIsThen, .ref m_statusThen])), (m_tape, .inl (y 0, 400, .inl f_137))] H := hP
  have hD : va_D A [(h0, .inr (11, [.int 0, .ref m_tree, .ref m_data, .ref m_made, .ref m_status, .int 0, .ref m_tape, .ref m_paths, .ref m_pathSize, .null, .int 0, .int 0, .int 20, .int 0, .int 0, .int 0, .int 0, .int 0, .int 0, .int 0, .int 0, .int (-1), .int 0, .ref m_set, .ref m_to, .int 0, .int 0, .int 0, .int 0, .int 0, .int 0, .ref m_lifted, .int 0, .int 0, .int 0, .ref m_order, .int 0, .ref m_past, .int 0, .ref m_rowKind, .ref m_rowSteps, .ref m_rowPath, .ref m_rowWas, .ref m_rowIs, .ref m_pool, .ref m_rowsMany, .ref m_poolMany, .ref m_way, .int 0, .ref m_out, .int 0, .int 0, .ref m_notedThing, .ref m_notedIs, .ref m_votes, .int 0, .int 0, .ref m_treeThen, .int 0, .int 0, .int 0, .ref m_imageTree, .ref m_pastThen, .ref m_notedThingThen, .ref m_notedIsThen, .ref m_statusThen])), (m_tape, .inl (y 0, 400, .inl f_137))] := hD
  refine lv_iinc (v := 20) (lv' := [(6, .int 20), (7, .int a5), (0, .ref h0), (1, .int a1), (2, .int a2), (3, .int a3), (4, .int a4), (5, .int a5)]) hx hb dX11_feed_114 hl (k := 1) rfl (by decide) (by decide) rfl (fun ls hl => ?_)
  refine lv_goto (tgt := 23) hx hb dX11_feed_117 (by decide) ?_
  refine lv_iload hx hb dX11_feed_23 (lv_at hl 0 rfl) ?_
  refine lv_bipush (v := 20) hx hb dX11_feed_25 (by decide) ?_
  refine lv_icmp_ge (tgt := 120) hx hb dX11_feed_27 (by decide) (fun _ => ?_) (fun c_138 => absurd c_138 (by decide))
  refine lv_aload_n hx hb dX11_feed_120 rfl (lv_at hl 2 rfl) ?_
  refine va_get (D := G) (ci := 11) (v := .int 20) (C := RX11) (T := TX11) (N := 66) hx hb hts inX11 hown hK.1 hP 0 rfl rfl 12 (by decide) (hts (.fieldLink RX11 114 "NestQueryModel" "taped" "I") (by decide +kernel)) (fun _ h9 => h9) rfl dX11_feed_121 ?_
  have hP9 := hP.sub (ws' := []) [] rfl
  have hD9 := hD.sub (ws' := []) [] (by decide) rfl
  refine W.widen (k := 0) (n := 0) (Nat.le_of_ble_eq_true rfl) (Nat.le_of_ble_eq_true rfl) ?_
  exact W.iret (v := 20) hx hb hr (fun t ht hW => ⟨⟨20, (), rfl, rfl, by rw [ht]; exact hP9, by first | exact hD9 | (rw [hAe]; exact hD9)⟩, hS.F ht⟩) hS.2.2 dX11_feed_124

