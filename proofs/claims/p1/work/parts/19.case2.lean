set_option maxHeartbeats 400000 in
set_option maxRecDepth 100000 in
theorem lc_14 {p : Program} {e : Env} {s : State} {m : MethodId} {below : List Frame} {meth : Method} {c : Code} {l : Launch} {b : Nat} {xs : Nat → Int32} {G : va_G} {y : Nat → ClassId} {A : Nat → Prop} (hl0 : l.stackTraces = false) (C0 : lw_At p s m meth c b 6 xs) (hAe : A = fun q : Nat => s.heap.size ≤ q) (hK : nq_K G y s) (hXs : nq_X A s) (x0 : Nat) (tp : Nat) (ps : Nat) (sp : Nat) (tk : Nat) (dr : Nat) (pr : Nat) (da : Nat) (nw : Nat) (im : Nat) (ac : Nat) (ke : Nat) (si : Nat) (tx : Nat) (an : Nat) (dw : Nat) (nwt : Nat) (nwb : Nat) (nwn : Nat) (nwi : Nat) (nwr : Nat) (m0 : Nat) (m_tree : Nat) (m_data : Nat) (m_made : Nat) (m_status : Nat) (m_tape : Nat) (m_paths : Nat) (m_pathSize : Nat) (m_set : Nat) (m_to : Nat) (m_lifted : Nat) (m_order : Nat) (m_past : Nat) (m_rowKind : Nat) (m_rowSteps : Nat) (m_rowPath : Nat) (m_rowWas : Nat) (m_rowIs : Nat) (m_pool : Nat) (m_rowsMany : Nat) (m_poolMany : Nat) (m_way : Nat) (m_out : Nat) (m_notedThing : Nat) (m_notedIs : Nat) (m_votes : Nat) (m_treeThen : Nat) (m_imageTree : Nat) (m_pastThen : Nat) (m_notedThingThen : Nat) (m_notedIsThen : Nat) (m_statusThen : Nat) (ou : Nat) (H : Heap) (locs : List Loc) (ls : Array Slot) (hP : va_P G vwCl [(x0, .inr (10, [.ref tp, .int 0, .int (-1), .ref ps, .ref sp, .ref tk, .ref dr, .ref pr, .ref da, .ref nw, .ref im, .int 0, .ref ac, .ref ke, .ref si, .ref tx, .ref an, .ref dw])), (ps, .inl (y 3, 4, .inr (.inr (.inr (.inr (fun _ => none)))))), (nw, .inr (6, [.ref nwt, .ref nwb, .int 0, .ref nwn, .ref nwi, .int 0, .ref nwr])), (nwr, .inl (y 0, 3, .inl (fun _ => 0))), (m0, .inr (11, [.int 0, .ref m_tree, .ref m_data, .ref m_made, .ref m_status, .int 0, .ref m_tape, .ref m_paths, .ref m_pathSize, .null, .int 0, .int 0, .int 0, .int 0, .int 0, .int 0, .int 0, .int 0, .int 0, .int 0, .int 0, .int (-1), .int 0, .ref m_set, .ref m_to, .int 0, .int 0, .int 0, .int 0, .int 0, .int 0, .ref m_lifted, .int 0, .int 0, .int 0, .ref m_order, .int 0, .ref m_past, .int 0, .ref m_rowKind, .ref m_rowSteps, .ref m_rowPath, .ref m_rowWas, .ref m_rowIs, .ref m_pool, .ref m_rowsMany, .ref m_poolMany, .ref m_way, .int 0, .ref m_out, .int 0, .int 0, .ref m_notedThing, .ref m_notedIs, .ref m_votes, .int 0, .int 0, .ref m_treeThen, .int 0, .int 0, .int 0, .ref m_imageTree, .ref m_pastThen, .ref m_notedThingThen, .ref m_notedIsThen, .ref m_statusThen])), (m_pathSize, .inl (y 0, 4, .inl (fun _ => 0))), (m_status, .inl (y 0, 3, .inl (fun _ => 0))), (ou, .inl (y 1, 1, .inr (.inl (fun _ => 0))))] H) (hD : va_D A [(x0, .inr (10, [.ref tp, .int 0, .int (-1), .ref ps, .ref sp, .ref tk, .ref dr, .ref pr, .ref da, .ref nw, .ref im, .int 0, .ref ac, .ref ke, .ref si, .ref tx, .ref an, .ref dw])), (ps, .inl (y 3, 4, .inr (.inr (.inr (.inr (fun _ => none)))))), (nw, .inr (6, [.ref nwt, .ref nwb, .int 0, .ref nwn, .ref nwi, .int 0, .ref nwr])), (nwr, .inl (y 0, 3, .inl (fun _ => 0))), (m0, .inr (11, [.int 0, .ref m_tree, .ref m_data, .ref m_made, .ref m_status, .int 0, .ref m_tape, .ref m_paths, .ref m_pathSize, .null, .int 0, .int 0, .int 0, .int 0, .int 0, .int 0, .int 0, .int 0, .int 0, .int 0, .int 0, .int (-1), .int 0, .ref m_set, .ref m_to, .int 0, .int 0, .int 0, .int 0, .int 0, .int 0, .ref m_lifted, .int 0, .int 0, .int 0, .ref m_order, .int 0, .ref m_past, .int 0, .ref m_rowKind, .ref m_rowSteps, .ref m_rowPath, .ref m_rowWas, .ref m_rowIs, .ref m_pool, .ref m_rowsMany, .ref m_poolMany, .ref m_way, .int 0, .ref m_out, .int 0, .int 0, .ref m_notedThing, .ref m_notedIs, .ref m_votes, .int 0, .int 0, .ref m_treeThen, .int 0, .int 0, .int 0, .ref m_imageTree, .ref m_pastThen, .ref m_notedThingThen, .ref m_notedIsThen, .ref m_statusThen])), (m_pathSize, .inl (y 0, 4, .inl (fun _ => 0))), (m_status, .inl (y 0, 3, .inl (fun _ => 0))), (ou, .inl (y 1, 1, .inr (.inl (fun _ => 0))))]) (hS : va_S A s.heap H locs) (hl : lv_has ls 7 [(4, .int 0), (3, .ref ou), (2, .ref m0), (1, .ref x0), (0, .ref b)]) : W p l e room_1 s m #[Value.ref b] below meth c H locs 121 52808 (lw_Z below #[Value.ref b] s) (F0 m 1074 ls []) := by
  obtain ⟨hx, hb, hr, hml, hown, hts, hX, hbl, hlocks, hgv⟩ := C0
  have hA : ∀ q : Nat, s.heap.size ≤ q → A q := fun q h => by rw [hAe]; exact h
  have hbA : ¬ A b := by rw [hAe]; exact Nat.not_le.mpr hbl
  have hl : lv_has ls 7 [(4, .int 0), (3, .ref ou), (2, .ref m0), (1, .ref x0), (0, .ref b)] := hl
  obtain ⟨a1, ea1⟩ : ∃ z, z = xs 1 := ⟨_, rfl⟩
  obtain ⟨a2, ea2⟩ : ∃ z, z = xs 2 := ⟨_, rfl⟩
  obtain ⟨a3, ea3⟩ : ∃ z, z = xs 3 := ⟨_, rfl⟩
  obtain ⟨a4, ea4⟩ : ∃ z, z = xs 4 := ⟨_, rfl⟩
  obtain ⟨a5, ea5⟩ : ∃ z, z = xs 5 := ⟨_, rfl⟩
  refine lv_aload_n hx hb dL_law_1074 rfl (lv_at hl 3 rfl) ?_
  refine lv_aload_n hx hb dL_law_1075 rfl (lv_at hl 4 rfl) ?_
  refine lv_iload hx hb dL_law_1076 (lv_at hl 0 rfl) ?_
  refine lv_iconst (v := 1) hx hb dL_law_1078 (by decide) ?_
  refine lv_iadd hx hb dL_law_1079 ?_
  refine nq_top (z := 1) (by decide) ?_
  refine va_sld hx hb hX hbl hbA hS (i := 1) (nq_in (by decide)) dL_law_1080 ?_
  refine nq_top (z := a1) (ea1.symm) ?_
  refine lv_aload_n hx hb dL_law_1081 rfl (lv_at hl 4 rfl) ?_
  refine lv_iload hx hb dL_law_1082 (lv_at hl 0 rfl) ?_
  refine lv_iconst (v := 2) hx hb dL_law_1084 (by decide) ?_
  refine lv_iadd hx hb dL_law_1085 ?_
  refine nq_top (z := 2) (by decide) ?_
  refine va_sld hx hb hX hbl hbA hS (i := 2) (nq_in (by decide)) dL_law_1086 ?_
  refine nq_top (z := a2) (ea2.symm) ?_
  refine lv_aload_n hx hb dL_law_1087 rfl (lv_at hl 1 rfl) ?_
  refine nq_wri (wr := [(m0, .inr (11, [.int 0, .ref m_tree, .ref m_data, .ref m_made, .ref m_status, .int 0, .ref m_tape, .ref m_paths, .ref m_pathSize, .null, .int 0, .int 0, .int 0, .int 0, .int 0, .int 0, .int 0, .int 0, .int 0, .int 0, .int 0, .int (-1), .int 0, .ref m_set, .ref m_to, .int 0, .int 0, .int 0, .int 0, .int 0, .int 0, .ref m_lifted, .int 0, .int 0, .int 0, .ref m_order, .int 0, .ref m_past, .int 0, .ref m_rowKind, .ref m_rowSteps, .ref m_rowPath, .ref m_rowWas, .ref m_rowIs, .ref m_pool, .ref m_rowsMany, .ref m_poolMany, .ref m_way, .int 0, .ref m_out, .int 0, .int 0, .ref m_notedThing, .ref m_notedIs, .ref m_votes, .int 0, .int 0, .ref m_treeThen, .int 0, .int 0, .int 0, .ref m_imageTree, .ref m_pastThen, .ref m_notedThingThen, .ref m_notedIsThen, .ref m_statusThen])), (m_pathSize, .inl (y 0, 4, .inl (fun _ => 0))), (m_status, .inl (y 0, 3, .inl (fun _ => 0)))]) (w1 := (fun (g9 : Nat → Int64) => [(ou, .inl (y 1, 1, .inr (.inl g9)))])) (vx_runSW (hh := [(0, 10, 13, 13)]) (As := [.ref x0, .int a1, .int a2, .ref ou]) (rest := []) ⟨hx, hb, hml, hown, hts⟩ (w_append l hl0 G y H.size x0 tp ps sp tk dr pr da nw im ac ke si tx an dw nwt nwb nwn nwi nwr a1 a2 ou) (vx_cwSW 4 hts gv_L_append_120 rfl rfl rfl (by decide +kernel) ⟨Nat.le_of_ble_eq_true rfl, Nat.le_of_ble_eq_true rfl⟩) (nq_PXS hK hP hD hS hA hXs [0, 1, 2, 3, 7] rfl rfl) rfl rfl hl.1 rfl (lv_room (Nat.le_of_ble_eq_true rfl)) dL_law_1088 ⟨Nat.le_of_ble_eq_true rfl, Nat.le_of_ble_eq_true rfl⟩) hP hD hS hA [0, 1, 2, 3, 7] [4, 5, 6] rfl rfl (by decide) (by decide) (fun r_1 g_3 H locs hw_2 hP hD hS => ?_)
  have hP : va_P G vwCl [(m0, .inr (11, [.int 0, .ref m_tree, .ref m_data, .ref m_made, .ref m_status, .int 0, .ref m_tape, .ref m_paths, .ref m_pathSize, .null, .int 0, .int 0, .int 0, .int 0, .int 0, .int 0, .int 0, .int 0, .int 0, .int 0, .int 0, .int (-1), .int 0, .ref m_set, .ref m_to, .int 0, .int 0, .int 0, .int 0, .int 0, .int 0, .ref m_lifted, .int 0, .int 0, .int 0, .ref m_order, .int 0, .ref m_past, .int 0, .ref m_rowKind, .ref m_rowSteps, .ref m_rowPath, .ref m_rowWas, .ref m_rowIs, .ref m_pool, .ref m_rowsMany, .ref m_poolMany, .ref m_way, .int 0, .ref m_out, .int 0, .int 0, .ref m_notedThing, .ref m_notedIs, .ref m_votes, .int 0, .int 0, .ref m_treeThen, .int 0, .int 0, .int 0, .ref m_imageTree, .ref m_pastThen, .ref m_notedThingThen, .ref m_notedIsThen, .ref m_statusThen])), (m_pathSize, .inl (y 0, 4, .inl (fun _ => 0))), (m_status, .inl (y 0, 3, .inl (fun _ => 0))), (ou, .inl (y 1, 1, .inr (.inl g_3)))] H := hP
  have hD : va_D A [(m0, .inr (11, [.int 0, .ref m_tree, .ref m_data, .ref m_made, .ref m_status, .int 0, .ref m_tape, .ref m_paths, .ref m_pathSize, .null, .int 0, .int 0, .int 0, .int 0, .int 0, .int 0, .int 0, .int 0, .int 0, .int 0, .int 0, .int (-1), .int 0, .ref m_set, .ref m_to, .int 0, .int 0, .int 0, .int 0, .int 0, .int 0, .ref m_lifted, .int 0, .int 0, .int 0, .ref m_order, .int 0, .ref m_past, .int 0, .ref m_rowKind, .ref m_rowSteps, .ref m_rowPath, .ref m_rowWas, .ref m_rowIs, .ref m_pool, .ref m_rowsMany, .ref m_poolMany, .ref m_way, .int 0, .ref m_out, .int 0, .int 0, .ref m_notedThing, .ref m_notedIs, .ref m_votes, .int 0, .int 0, .ref m_treeThen, .int 0, .int 0, .int 0, .ref m_imageTree, .ref m_pastThen, .ref m_notedThingThen, .ref m_notedIsThen, .ref m_statusThen])), (m_pathSize, .inl (y 0, 4, .inl (fun _ => 0))), (m_status, .inl (y 0, 3, .inl (fun _ => 0))), (ou, .inl (y 1, 1, .inr (.inl g_3)))] := hD
  refine lv_istore (lv' := [(5, .int r_1), (4, .int 0), (3, .ref ou), (2, .ref m0), (1, .ref x0), (0, .ref b)]) hx hb dL_law_1091 hl (by decide) rfl (fun ls hl => ?_)
  refine lv_aload_n hx hb dL_law_1093 rfl (lv_at hl 3 rfl) ?_
  refine lv_aload_n hx hb dL_law_1094 rfl (lv_at hl 5 rfl) ?_
  refine lv_iload hx hb dL_law_1095 (lv_at hl 1 rfl) ?_
  refine lv_iconst (v := 1) hx hb dL_law_1097 (by decide) ?_
  refine lv_iadd hx hb dL_law_1098 ?_
  refine nq_top (z := 1) (by decide) ?_
  refine va_sld hx hb hX hbl hbA hS (i := 1) (nq_in (by decide)) dL_law_1099 ?_
  refine nq_top (z := a1) (ea1.symm) ?_
  refine lv_aload_n hx hb dL_law_1100 rfl (lv_at hl 5 rfl) ?_
  refine lv_iload hx hb dL_law_1101 (lv_at hl 1 rfl) ?_
  refine lv_iconst (v := 2) hx hb dL_law_1103 (by decide) ?_
  refine lv_iadd hx hb dL_law_1104 ?_
  refine nq_top (z := 2) (by decide) ?_
  refine va_sld hx hb hX hbl hbA hS (i := 2) (nq_in (by decide)) dL_law_1105 ?_
  refine nq_top (z := a2) (ea2.symm) ?_
  refine nq_wri (wr := [(ou, .inl (y 1, 1, .inr (.inl g_3)))]) (va_runV (As := [.int a1, .int a2]) (rest := []) ⟨hx, hb, hml, hown, hts⟩ (m_append l G y H.size m0 m_tree m_data m_made m_status m_tape m_paths m_pathSize m_set m_to m_lifted m_order m_past m_rowKind m_rowSteps m_rowPath m_rowWas m_rowIs m_pool m_rowsMany m_poolMany m_way m_out m_notedThing m_notedIs m_votes m_treeThen m_imageTree m_pastThen m_notedThingThen m_notedIsThen m_statusThen a1 a2 ) (cwV 2 hts gv_X11_append_122 rfl rfl rfl (by decide +kernel) ⟨Nat.le_of_ble_eq_true rfl, Nat.le_of_ble_eq_true rfl⟩) (nq_PV hK hP hD [0, 1, 2] rfl rfl 0 rfl rfl) rfl rfl hl.1 rfl (lv_room (Nat.le_of_ble_eq_true rfl)) dL_law_1106 ⟨Nat.le_of_ble_eq_true rfl, Nat.le_of_ble_eq_true rfl⟩) hP hD hS hA [0, 1, 2] [3] rfl rfl (by decide) (by decide) (fun r_6 u_4 H locs hw_5 hP hD hS => ?_)
  have hP : va_P G vwCl [(ou, .inl (y 1, 1, .inr (.inl g_3))), (m0, .inr (11, u_4.2))] H := hP
  have hD : va_D A [(ou, .inl (y 1, 1, .inr (.inl g_3))), (m0, .inr (11, u_4.2))] := hD
  obtain ⟨hq_7, hq_8, hq_9⟩ := hw_5
  subst hq_9
  refine lv_istore (lv' := [(6, .int ((sp_put a1 a2).2)), (5, .int r_1), (4, .int 0), (3, .ref ou), (2, .ref m0), (1, .ref x0), (0, .ref b)]) hx hb dL_law_1109 hl (by decide) rfl (fun ls hl => ?_)
  refine lv_aload_n hx hb dL_law_1111 rfl (lv_at hl 4 rfl) ?_
  refine nq_rdi (va_runV (As := []) (rest := []) ⟨hx, hb, hml, hown, hts⟩ (m_thrown l G y H.size m0 u_4 hq_7) (cwV 0 hts gv_X11_thrown_77 rfl rfl rfl (by decide +kernel) ⟨Nat.le_of_ble_eq_true rfl, Nat.le_of_ble_eq_true rfl⟩) (nq_PV hK hP hD [1] rfl rfl 1 rfl rfl) rfl rfl hl.1 rfl (lv_room (Nat.le_of_ble_eq_true rfl)) dL_law_1112 ⟨Nat.le_of_ble_eq_true rfl, Nat.le_of_ble_eq_true rfl⟩) hP hS hA (fun r_10 H locs hw_11 hP hS => ?_)
  subst hw_11
  refine lv_iload hx hb dL_law_1115 (lv_at hl 1 rfl) ?_
  refine lv_icmp_eq (tgt := 1122) hx hb dL_law_1117 (by decide) (fun _ => ?_) (fun c_12 => absurd (hq_8.trans hw_2.1.symm) c_12)
  refine lv_iload hx hb dL_law_1122 (lv_at hl 1 rfl) ?_
  refine lv_if_ne (tgt := 1139) hx hb dL_law_1124 (by decide) (fun c_13 => ?_) (fun c_13 => ?_)
  · refine lv_goto (tgt := 1593) hx hb dL_law_1139 (by decide) ?_
    refine lv_iinc (v := 6) (lv' := [(4, .int 6), (6, .int ((sp_put a1 a2).2)), (5, .int r_1), (3, .ref ou), (2, .ref m0), (1, .ref x0), (0, .ref b)]) hx hb dL_law_1593 hl (k := 2) rfl (by decide) (by decide) rfl (fun ls hl => ?_)
    refine lv_goto (tgt := 23) hx hb dL_law_1596 (by decide) ?_
    refine lv_iload hx hb dL_law_23 (lv_at hl 0 rfl) ?_
    refine lv_aload_n hx hb dL_law_25 rfl (lv_at hl 6 rfl) ?_
    refine va_slen hx hb hX hbl hbA hS dL_law_26 ?_
    refine nq_top (z := 6) (by decide) ?_
    refine lv_bipush (v := 6) hx hb dL_law_27 (by decide) ?_
    refine lv_isub hx hb dL_law_29 ?_
    refine nq_top (z := 0) (by decide) ?_
    refine lv_icmp_gt (tgt := 1599) hx hb dL_law_30 (by decide) (fun _ => ?_) (fun c_14 => absurd c_14 (by decide))
    refine lv_iconst (v := 1) hx hb dL_law_1599 (by decide) ?_
    refine va_forget (fun q hq => by have h9 := hS.2.2 q hq; rw [hAe] at h9; exact h9) ?_
    refine W.widen (k := 600002) (n := 7302232) (Nat.le_of_ble_eq_true rfl) (Nat.le_of_ble_eq_true rfl) ?_
    exact lw_ret hx hb hr hlocks dL_law_1600
  · subst c_13
    refine lv_aload_n hx hb dL_law_1127 rfl (lv_at hl 3 rfl) ?_
    refine lv_iconst (v := 0) hx hb dL_law_1128 (by decide) ?_
    refine va_lald hx hb hK.1 hP 0 1 rfl rfl (i := 0) (nq_in (by decide)) dL_law_1129 ?_
    refine nq_topl (z := ((sp_put a1 a2).2).toInt64) (hw_2.2 rfl) ?_
    refine lv_iload hx hb dL_law_1130 (lv_at hl 0 rfl) ?_
    refine lv_i2l (v := ((sp_put a1 a2).2).toInt64) hx hb dL_law_1132 rfl ?_
    refine W.lcmp hx hb dL_law_1133 ?_
    refine nq_top (z := 0) (nq_cmp _) ?_
    refine lv_if_eq (tgt := 1139) hx hb dL_law_1134 (by decide) (fun _ => ?_) (fun c_15 => absurd c_15 (by decide))
    refine lv_goto (tgt := 1593) hx hb dL_law_1139 (by decide) ?_
    refine lv_iinc (v := 6) (lv' := [(4, .int 6), (6, .int ((sp_put a1 a2).2)), (5, .int 0), (3, .ref ou), (2, .ref m0), (1, .ref x0), (0, .ref b)]) hx hb dL_law_1593 hl (k := 2) rfl (by decide) (by decide) rfl (fun ls hl => ?_)
    refine lv_goto (tgt := 23) hx hb dL_law_1596 (by decide) ?_
    refine lv_iload hx hb dL_law_23 (lv_at hl 0 rfl) ?_
    refine lv_aload_n hx hb dL_law_25 rfl (lv_at hl 6 rfl) ?_
    refine va_slen hx hb hX hbl hbA hS dL_law_26 ?_
    refine nq_top (z := 6) (by decide) ?_
    refine lv_bipush (v := 6) hx hb dL_law_27 (by decide) ?_
    refine lv_isub hx hb dL_law_29 ?_
    refine nq_top (z := 0) (by decide) ?_
    refine lv_icmp_gt (tgt := 1599) hx hb dL_law_30 (by decide) (fun _ => ?_) (fun c_16 => absurd c_16 (by decide))
    refine lv_iconst (v := 1) hx hb dL_law_1599 (by decide) ?_
    refine va_forget (fun q hq => by have h9 := hS.2.2 q hq; rw [hAe] at h9; exact h9) ?_
    refine W.widen (k := 600002) (n := 7302232) (Nat.le_of_ble_eq_true rfl) (Nat.le_of_ble_eq_true rfl) ?_
    exact lw_ret hx hb hr hlocks dL_law_1600

set_option maxHeartbeats 400000 in
set_option maxRecDepth 100000 in
theorem lc_15 {p : Program} {e : Env} {s : State} {m : MethodId} {below : List Frame} {meth : Method} {c : Code} {l : Launch} {b : Nat} {xs : Nat → Int32} {G : va_G} {y : Nat → ClassId} {A : Nat → Prop} (hl0 : l.stackTraces = false) (C0 : lw_At p s m meth c b 6 xs) (hAe : A = fun q : Nat => s.heap.size ≤ q) (hK : nq_K G y s) (hXs : nq_X A s) (x0 : Nat) (tp : Nat) (ps : Nat) (sp : Nat) (tk : Nat) (dr : Nat) (pr : Nat) (da : Nat) (nw : Nat) (im : Nat) (ac : Nat) (ke : Nat) (si : Nat) (tx : Nat) (an : Nat) (dw : Nat) (nwt : Nat) (nwb : Nat) (nwn : Nat) (nwi : Nat) (nwr : Nat) (m0 : Nat) (m_tree : Nat) (m_data : Nat) (m_made : Nat) (m_status : Nat) (m_tape : Nat) (m_paths : Nat) (m_pathSize : Nat) (m_set : Nat) (m_to : Nat) (m_lifted : Nat) (m_order : Nat) (m_past : Nat) (m_rowKind : Nat) (m_rowSteps : Nat) (m_rowPath : Nat) (m_rowWas : Nat) (m_rowIs : Nat) (m_pool : Nat) (m_rowsMany : Nat) (m_poolMany : Nat) (m_way : Nat) (m_out : Nat) (m_notedThing : Nat) (m_notedIs : Nat) (m_votes : Nat) (m_treeThen : Nat) (m_imageTree : Nat) (m_pastThen : Nat) (m_notedThingThen : Nat) (m_notedIsThen : Nat) (m_statusThen : Nat) (ou : Nat) (H : Heap) (locs : List Loc) (ls : Array Slot) (hP : va_P G vwCl [(x0, .inr (10, [.ref tp, .int 0, .int (-1), .ref ps, .ref sp, .ref tk, .ref dr, .ref pr, .ref da, .ref nw, .ref im, .int 0, .ref ac, .ref ke, .ref si, .ref tx, .ref an, .ref dw])), (ps, .inl (y 3, 4, .inr (.inr (.inr (.inr (fun _ => none)))))), (nw, .inr (6, [.ref nwt, .ref nwb, .int 0, .ref nwn, .ref nwi, .int 0, .ref nwr])), (nwr, .inl (y 0, 3, .inl (fun _ => 0))), (m0, .inr (11, [.int 0, .ref m_tree, .ref m_data, .ref m_made, .ref m_status, .int 0, .ref m_tape, .ref m_paths, .ref m_pathSize, .null, .int 0, .int 0, .int 0, .int 0, .int 0, .int 0, .int 0, .int 0, .int 0, .int 0, .int 0, .int (-1), .int 0, .ref m_set, .ref m_to, .int 0, .int 0, .int 0, .int 0, .int 0, .int 0, .ref m_lifted, .int 0, .int 0, .int 0, .ref m_order, .int 0, .ref m_past, .int 0, .ref m_rowKind, .ref m_rowSteps, .ref m_rowPath, .ref m_rowWas, .ref m_rowIs, .ref m_pool, .ref m_rowsMany, .ref m_poolMany, .ref m_way, .int 0, .ref m_out, .int 0, .int 0, .ref m_notedThing, .ref m_notedIs, .ref m_votes, .int 0, .int 0, .ref m_treeThen, .int 0, .int 0, .int 0, .ref m_imageTree, .ref m_pastThen, .ref m_notedThingThen, .ref m_notedIsThen, .ref m_statusThen])), (m_pathSize, .inl (y 0, 4, .inl (fun _ => 0))), (m_status, .inl (y 0, 3, .inl (fun _ => 0))), (ou, .inl (y 1, 1, .inr (.inl (fun _ => 0))))] H) (hD : va_D A [(x0, .inr (10, [.ref tp, .int 0, .int (-1), .ref ps, .ref sp, .ref tk, .ref dr, .ref pr, .ref da, .ref nw, .ref im, .int 0, .ref ac, .ref ke, .ref si, .ref tx, .ref an, .ref dw])), (ps, .inl (y 3, 4, .inr (.inr (.inr (.inr (fun _ => none)))))), (nw, .inr (6, [.ref nwt, .ref nwb, .int 0, .ref nwn, .ref nwi, .int 0, .ref nwr])), (nwr, .inl (y 0, 3, .inl (fun _ => 0))), (m0, .inr (11, [.int 0, .ref m_tree, .ref m_data, .ref m_made, .ref m_status, .int 0, .ref m_tape, .ref m_paths, .ref m_pathSize, .null, .int 0, .int 0, .int 0, .int 0, .int 0, .int 0, .int 0, .int 0, .int 0, .int 0, .int 0, .int (-1), .int 0, .ref m_set, .ref m_to, .int 0, .int 0, .int 0, .int 0, .int 0, .int 0, .ref m_lifted, .int 0, .int 0, .int 0, .ref m_order, .int 0, .ref m_past, .int 0, .ref m_rowKind, .ref m_rowSteps, .ref m_rowPath, .ref m_rowWas, .ref m_rowIs, .ref m_pool, .ref m_rowsMany, .ref m_poolMany, .ref m_way, .int 0, .ref m_out, .int 0, .int 0, .ref m_notedThing, .ref m_notedIs, .ref m_votes, .int 0, .int 0, .ref m_treeThen, .int 0, .int 0, .int 0, .ref m_imageTree, .ref m_pastThen, .ref m_notedThingThen, .ref m_notedIsThen, .ref m_statusThen])), (m_pathSize, .inl (y 0, 4, .inl (fun _ => 0))), (m_status, .inl (y 0, 3, .inl (fun _ => 0))), (ou, .inl (y 1, 1, .inr (.inl (fun _ => 0))))]) (hS : va_S A s.heap H locs) (hl : lv_has ls 7 [(4, .int 0), (3, .ref ou), (2, .ref m0), (1, .ref x0), (0, .ref b)]) : W p l e room_1 s m #[Value.ref b] below meth c H locs 121 52808 (lw_Z below #[Value.ref b] s) (F0 m 1142 ls []) := by
  obtain ⟨hx, hb, hr, hml, hown, hts, hX, hbl, hlocks, hgv⟩ := C0
  have hA : ∀ q : Nat, s.heap.size ≤ q → A q := fun q h => by rw [hAe]; exact h
  have hbA : ¬ A b := by rw [hAe]; exact Nat.not_le.mpr hbl
  have hl : lv_has ls 7 [(4, .int 0), (3, .ref ou), (2, .ref m0), (1, .ref x0), (0, .ref b)] := hl
  obtain ⟨a1, ea1⟩ : ∃ z, z = xs 1 := ⟨_, rfl⟩
  obtain ⟨a2, ea2⟩ : ∃ z, z = xs 2 := ⟨_, rfl⟩
  obtain ⟨a3, ea3⟩ : ∃ z, z = xs 3 := ⟨_, rfl⟩
  obtain ⟨a4, ea4⟩ : ∃ z, z = xs 4 := ⟨_, rfl⟩
  obtain ⟨a5, ea5⟩ : ∃ z, z = xs 5 := ⟨_, rfl⟩
  refine lv_aload_n hx hb dL_law_1142 rfl (lv_at hl 3 rfl) ?_
  refine lv_aload_n hx hb dL_law_1143 rfl (lv_at hl 4 rfl) ?_
  refine lv_iload hx hb dL_law_1144 (lv_at hl 0 rfl) ?_
  refine lv_iconst (v := 1) hx hb dL_law_1146 (by decide) ?_
  refine lv_iadd hx hb dL_law_1147 ?_
  refine nq_top (z := 1) (by decide) ?_
  refine va_sld hx hb hX hbl hbA hS (i := 1) (nq_in (by decide)) dL_law_1148 ?_
  refine nq_top (z := a1) (ea1.symm) ?_
  refine lv_aload_n hx hb dL_law_1149 rfl (lv_at hl 4 rfl) ?_
  refine lv_iload hx hb dL_law_1150 (lv_at hl 0 rfl) ?_
  refine lv_iconst (v := 2) hx hb dL_law_1152 (by decide) ?_
  refine lv_iadd hx hb dL_law_1153 ?_
  refine nq_top (z := 2) (by decide) ?_
  refine va_sld hx hb hX hbl hbA hS (i := 2) (nq_in (by decide)) dL_law_1154 ?_
  refine nq_top (z := a2) (ea2.symm) ?_
  refine lv_aload_n hx hb dL_law_1155 rfl (lv_at hl 4 rfl) ?_
  refine lv_iload hx hb dL_law_1156 (lv_at hl 0 rfl) ?_
  refine lv_iconst (v := 3) hx hb dL_law_1158 (by decide) ?_
  refine lv_iadd hx hb dL_law_1159 ?_
  refine nq_top (z := 3) (by decide) ?_
  refine va_sld hx hb hX hbl hbA hS (i := 3) (nq_in (by decide)) dL_law_1160 ?_
  refine nq_top (z := a3) (ea3.symm) ?_
  refine lv_aload_n hx hb dL_law_1161 rfl (lv_at hl 1 rfl) ?_
  refine nq_wri (wr := [(m0, .inr (11, [.int 0, .ref m_tree, .ref m_data, .ref m_made, .ref m_status, .int 0, .ref m_tape, .ref m_paths, .ref m_pathSize, .null, .int 0, .int 0, .int 0, .int 0, .int 0, .int 0, .int 0, .int 0, .int 0, .int 0, .int 0, .int (-1), .int 0, .ref m_set, .ref m_to, .int 0, .int 0, .int 0, .int 0, .int 0, .int 0, .ref m_lifted, .int 0, .int 0, .int 0, .ref m_order, .int 0, .ref m_past, .int 0, .ref m_rowKind, .ref m_rowSteps, .ref m_rowPath, .ref m_rowWas, .ref m_rowIs, .ref m_pool, .ref m_rowsMany, .ref m_poolMany, .ref m_way, .int 0, .ref m_out, .int 0, .int 0, .ref m_notedThing, .ref m_notedIs, .ref m_votes, .int 0, .int 0, .ref m_treeThen, .int 0, .int 0, .int 0, .ref m_imageTree, .ref m_pastThen, .ref m_notedThingThen, .ref m_notedIsThen, .ref m_statusThen])), (m_pathSize, .inl (y 0, 4, .inl (fun _ => 0))), (m_status, .inl (y 0, 3, .inl (fun _ => 0)))]) (w1 := (fun (g9 : Nat → Int64) => [(ou, .inl (y 1, 1, .inr (.inl g9)))])) (vx_runSW (hh := [(0, 12, 15, 13)]) (As := [.ref x0, .int a1, .int a2, .int a3, .ref ou]) (rest := []) ⟨hx, hb, hml, hown, hts⟩ (w_key l hl0 G y H.size x0 tp ps sp tk dr pr da nw im ac ke si tx an dw nwt nwb nwn nwi nwr a1 a2 a3 ou) (vx_cwSW 5 hts gv_L_key_123 rfl rfl rfl (by decide +kernel) ⟨Nat.le_of_ble_eq_true rfl, Nat.le_of_ble_eq_true rfl⟩) (nq_PXS hK hP hD hS hA hXs [0, 1, 2, 3, 7] rfl rfl) rfl rfl hl.1 rfl (lv_room (Nat.le_of_ble_eq_true rfl)) dL_law_1162 ⟨Nat.le_of_ble_eq_true rfl, Nat.le_of_ble_eq_true rfl⟩) hP hD hS hA [0, 1, 2, 3, 7] [4, 5, 6] rfl rfl (by decide) (by decide) (fun r_1 g_3 H locs hw_2 hP hD hS => ?_)
  have hP : va_P G vwCl [(m0, .inr (11, [.int 0, .ref m_tree, .ref m_data, .ref m_made, .ref m_status, .int 0, .ref m_tape, .ref m_paths, .ref m_pathSize, .null, .int 0, .int 0, .int 0, .int 0, .int 0, .int 0, .int 0, .int 0, .int 0, .int 0, .int 0, .int (-1), .int 0, .ref m_set, .ref m_to, .int 0, .int 0, .int 0, .int 0, .int 0, .int 0, .ref m_lifted, .int 0, .int 0, .int 0, .ref m_order, .int 0, .ref m_past, .int 0, .ref m_rowKind, .ref m_rowSteps, .ref m_rowPath, .ref m_rowWas, .ref m_rowIs, .ref m_pool, .ref m_rowsMany, .ref m_poolMany, .ref m_way, .int 0, .ref m_out, .int 0, .int 0, .ref m_notedThing, .ref m_notedIs, .ref m_votes, .int 0, .int 0, .ref m_treeThen, .int 0, .int 0, .int 0, .ref m_imageTree, .ref m_pastThen, .ref m_notedThingThen, .ref m_notedIsThen, .ref m_statusThen])), (m_pathSize, .inl (y 0, 4, .inl (fun _ => 0))), (m_status, .inl (y 0, 3, .inl (fun _ => 0))), (ou, .inl (y 1, 1, .inr (.inl g_3)))] H := hP
  have hD : va_D A [(m0, .inr (11, [.int 0, .ref m_tree, .ref m_data, .ref m_made, .ref m_status, .int 0, .ref m_tape, .ref m_paths, .ref m_pathSize, .null, .int 0, .int 0, .int 0, .int 0, .int 0, .int 0, .int 0, .int 0, .int 0, .int 0, .int 0, .int (-1), .int 0, .ref m_set, .ref m_to, .int 0, .int 0, .int 0, .int 0, .int 0, .int 0, .ref m_lifted, .int 0, .int 0, .int 0, .ref m_order, .int 0, .ref m_past, .int 0, .ref m_rowKind, .ref m_rowSteps, .ref m_rowPath, .ref m_rowWas, .ref m_rowIs, .ref m_pool, .ref m_rowsMany, .ref m_poolMany, .ref m_way, .int 0, .ref m_out, .int 0, .int 0, .ref m_notedThing, .ref m_notedIs, .ref m_votes, .int 0, .int 0, .ref m_treeThen, .int 0, .int 0, .int 0, .ref m_imageTree, .ref m_pastThen, .ref m_notedThingThen, .ref m_notedIsThen, .ref m_statusThen])), (m_pathSize, .inl (y 0, 4, .inl (fun _ => 0))), (m_status, .inl (y 0, 3, .inl (fun _ => 0))), (ou, .inl (y 1, 1, .inr (.inl g_3)))] := hD
  refine lv_istore (lv' := [(5, .int r_1), (4, .int 0), (3, .ref ou), (2, .ref m0), (1, .ref x0), (0, .ref b)]) hx hb dL_law_1165 hl (by decide) rfl (fun ls hl => ?_)
  refine lv_aload_n hx hb dL_law_1167 rfl (lv_at hl 3 rfl) ?_
  refine lv_aload_n hx hb dL_law_1168 rfl (lv_at hl 5 rfl) ?_
  refine lv_iload hx hb dL_law_1169 (lv_at hl 1 rfl) ?_
  refine lv_iconst (v := 1) hx hb dL_law_1171 (by decide) ?_
  refine lv_iadd hx hb dL_law_1172 ?_
  refine nq_top (z := 1) (by decide) ?_
  refine va_sld hx hb hX hbl hbA hS (i := 1) (nq_in (by decide)) dL_law_1173 ?_
  refine nq_top (z := a1) (ea1.symm) ?_
  refine lv_aload_n hx hb dL_law_1174 rfl (lv_at hl 5 rfl) ?_
  refine lv_iload hx hb dL_law_1175 (lv_at hl 1 rfl) ?_
  refine lv_iconst (v := 2) hx hb dL_law_1177 (by decide) ?_
  refine lv_iadd hx hb dL_law_1178 ?_
  refine nq_top (z := 2) (by decide) ?_
  refine va_sld hx hb hX hbl hbA hS (i := 2) (nq_in (by decide)) dL_law_1179 ?_
  refine nq_top (z := a2) (ea2.symm) ?_
  refine lv_aload_n hx hb dL_law_1180 rfl (lv_at hl 5 rfl) ?_
  refine lv_iload hx hb dL_law_1181 (lv_at hl 1 rfl) ?_
  refine lv_iconst (v := 3) hx hb dL_law_1183 (by decide) ?_
  refine lv_iadd hx hb dL_law_1184 ?_
  refine nq_top (z := 3) (by decide) ?_
  refine va_sld hx hb hX hbl hbA hS (i := 3) (nq_in (by decide)) dL_law_1185 ?_
  refine nq_top (z := a3) (ea3.symm) ?_
  refine nq_wri (wr := [(ou, .inl (y 1, 1, .inr (.inl g_3)))]) (va_runV (As := [.int a1, .int a2, .int a3]) (rest := []) ⟨hx, hb, hml, hown, hts⟩ (m_key l G y H.size m0 m_tree m_data m_made m_status m_tape m_paths m_pathSize m_set m_to m_lifted m_order m_past m_rowKind m_rowSteps m_rowPath m_rowWas m_rowIs m_pool m_rowsMany m_poolMany m_way m_out m_notedThing m_notedIs m_votes m_treeThen m_imageTree m_pastThen m_notedThingThen m_notedIsThen m_statusThen a1 a2 a3 ) (cwV 3 hts gv_X11_key_126 rfl rfl rfl (by decide +kernel) ⟨Nat.le_of_ble_eq_true rfl, Nat.le_of_ble_eq_true rfl⟩) (nq_PV hK hP hD [0, 1, 2] rfl rfl 0 rfl rfl) rfl rfl hl.1 rfl (lv_room (Nat.le_of_ble_eq_true rfl)) dL_law_1186 ⟨Nat.le_of_ble_eq_true rfl, Nat.le_of_ble_eq_true rfl⟩) hP hD hS hA [0, 1, 2] [3] rfl rfl (by decide) (by decide) (fun r_6 u_4 H locs hw_5 hP hD hS => ?_)
  have hP : va_P G vwCl [(ou, .inl (y 1, 1, .inr (.inl g_3))), (m0, .inr (11, u_4.2))] H := hP
  have hD : va_D A [(ou, .inl (y 1, 1, .inr (.inl g_3))), (m0, .inr (11, u_4.2))] := hD
  obtain ⟨hq_7, hq_8, hq_9⟩ := hw_5
  subst hq_9
  refine lv_istore (lv' := [(6, .int ((sp_key a1 a2 a3).2)), (5, .int r_1), (4, .int 0), (3, .ref ou), (2, .ref m0), (1, .ref x0), (0, .ref b)]) hx hb dL_law_1189 hl (by decide) rfl (fun ls hl => ?_)
  refine lv_aload_n hx hb dL_law_1191 rfl (lv_at hl 4 rfl) ?_
  refine nq_rdi (va_runV (As := []) (rest := []) ⟨hx, hb, hml, hown, hts⟩ (m_thrown l G y H.size m0 u_4 hq_7) (cwV 0 hts gv_X11_thrown_77 rfl rfl rfl (by decide +kernel) ⟨Nat.le_of_ble_eq_true rfl, Nat.le_of_ble_eq_true rfl⟩) (nq_PV hK hP hD [1] rfl rfl 1 rfl rfl) rfl rfl hl.1 rfl (lv_room (Nat.le_of_ble_eq_true rfl)) dL_law_1192 ⟨Nat.le_of_ble_eq_true rfl, Nat.le_of_ble_eq_true rfl⟩) hP hS hA (fun r_10 H locs hw_11 hP hS => ?_)
  subst hw_11
  refine lv_iload hx hb dL_law_1195 (lv_at hl 1 rfl) ?_
  refine lv_icmp_eq (tgt := 1202) hx hb dL_law_1197 (by decide) (fun _ => ?_) (fun c_12 => absurd (hq_8.trans hw_2.1.symm) c_12)
  refine lv_iload hx hb dL_law_1202 (lv_at hl 1 rfl) ?_
  refine lv_if_ne (tgt := 1219) hx hb dL_law_1204 (by decide) (fun c_13 => ?_) (fun c_13 => ?_)
  · refine lv_goto (tgt := 1593) hx hb dL_law_1219 (by decide) ?_
    refine lv_iinc (v := 6) (lv' := [(4, .int 6), (6, .int ((sp_key a1 a2 a3).2)), (5, .int r_1), (3, .ref ou), (2, .ref m0), (1, .ref x0), (0, .ref b)]) hx hb dL_law_1593 hl (k := 2) rfl (by decide) (by decide) rfl (fun ls hl => ?_)
    refine lv_goto (tgt := 23) hx hb dL_law_1596 (by decide) ?_
    refine lv_iload hx hb dL_law_23 (lv_at hl 0 rfl) ?_
    refine lv_aload_n hx hb dL_law_25 rfl (lv_at hl 6 rfl) ?_
    refine va_slen hx hb hX hbl hbA hS dL_law_26 ?_
    refine nq_top (z := 6) (by decide) ?_
    refine lv_bipush (v := 6) hx hb dL_law_27 (by decide) ?_
    refine lv_isub hx hb dL_law_29 ?_
    refine nq_top (z := 0) (by decide) ?_
    refine lv_icmp_gt (tgt := 1599) hx hb dL_law_30 (by decide) (fun _ => ?_) (fun c_14 => absurd c_14 (by decide))
    refine lv_iconst (v := 1) hx hb dL_law_1599 (by decide) ?_
    refine va_forget (fun q hq => by have h9 := hS.2.2 q hq; rw [hAe] at h9; exact h9) ?_
    refine W.widen (k := 600002) (n := 7302232) (Nat.le_of_ble_eq_true rfl) (Nat.le_of_ble_eq_true rfl) ?_
    exact lw_ret hx hb hr hlocks dL_law_1600
  · subst c_13
    refine lv_aload_n hx hb dL_law_1207 rfl (lv_at hl 3 rfl) ?_
    refine lv_iconst (v := 0) hx hb dL_law_1208 (by decide) ?_
    refine va_lald hx hb hK.1 hP 0 1 rfl rfl (i := 0) (nq_in (by decide)) dL_law_1209 ?_
    refine nq_topl (z := ((sp_key a1 a2 a3).2).toInt64) (hw_2.2 rfl) ?_
    refine lv_iload hx hb dL_law_1210 (lv_at hl 0 rfl) ?_
    refine lv_i2l (v := ((sp_key a1 a2 a3).2).toInt64) hx hb dL_law_1212 rfl ?_
    refine W.lcmp hx hb dL_law_1213 ?_
    refine nq_top (z := 0) (nq_cmp _) ?_
    refine lv_if_eq (tgt := 1219) hx hb dL_law_1214 (by decide) (fun _ => ?_) (fun c_15 => absurd c_15 (by decide))
    refine lv_goto (tgt := 1593) hx hb dL_law_1219 (by decide) ?_
    refine lv_iinc (v := 6) (lv' := [(4, .int 6), (6, .int ((sp_key a1 a2 a3).2)), (5, .int 0), (3, .ref ou), (2, .ref m0), (1, .ref x0), (0, .ref b)]) hx hb dL_law_1593 hl (k := 2) rfl (by decide) (by decide) rfl (fun ls hl => ?_)
    refine lv_goto (tgt := 23) hx hb dL_law_1596 (by decide) ?_
    refine lv_iload hx hb dL_law_23 (lv_at hl 0 rfl) ?_
    refine lv_aload_n hx hb dL_law_25 rfl (lv_at hl 6 rfl) ?_
    refine va_slen hx hb hX hbl hbA hS dL_law_26 ?_
    refine nq_top (z := 6) (by decide) ?_
    refine lv_bipush (v := 6) hx hb dL_law_27 (by decide) ?_
    refine lv_isub hx hb dL_law_29 ?_
    refine nq_top (z := 0) (by decide) ?_
    refine lv_icmp_gt (tgt := 1599) hx hb dL_law_30 (by decide) (fun _ => ?_) (fun c_16 => absurd c_16 (by decide))
    refine lv_iconst (v := 1) hx hb dL_law_1599 (by decide) ?_
    refine va_forget (fun q hq => by have h9 := hS.2.2 q hq; rw [hAe] at h9; exact h9) ?_
    refine W.widen (k := 600002) (n := 7302232) (Nat.le_of_ble_eq_true rfl) (Nat.le_of_ble_eq_true rfl) ?_
    exact lw_ret hx hb hr hlocks dL_law_1600

set_option maxHeartbeats 400000 in
set_option maxRecDepth 100000 in
theorem lc_16 {p : Program} {e : Env} {s : State} {m : MethodId} {below : List Frame} {meth : Method} {c : Code} {l : Launch} {b : Nat} {xs : Nat → Int32} {G : va_G} {y : Nat → ClassId} {A : Nat → Prop} (hl0 : l.stackTraces = false) (C0 : lw_At p s m meth c b 6 xs) (hAe : A = fun q : Nat => s.heap.size ≤ q) (hK : nq_K G y s) (hXs : nq_X A s) (x0 : Nat) (tp : Nat) (ps : Nat) (sp : Nat) (tk : Nat) (dr : Nat) (pr : Nat) (da : Nat) (nw : Nat) (im : Nat) (ac : Nat) (ke : Nat) (si : Nat) (tx : Nat) (an : Nat) (dw : Nat) (nwt : Nat) (nwb : Nat) (nwn : Nat) (nwi : Nat) (nwr : Nat) (m0 : Nat) (m_tree : Nat) (m_data : Nat) (m_made : Nat) (m_status : Nat) (m_tape : Nat) (m_paths : Nat) (m_pathSize : Nat) (m_set : Nat) (m_to : Nat) (m_lifted : Nat) (m_order : Nat) (m_past : Nat) (m_rowKind : Nat) (m_rowSteps : Nat) (m_rowPath : Nat) (m_rowWas : Nat) (m_rowIs : Nat) (m_pool : Nat) (m_rowsMany : Nat) (m_poolMany : Nat) (m_way : Nat) (m_out : Nat) (m_notedThing : Nat) (m_notedIs : Nat) (m_votes : Nat) (m_treeThen : Nat) (m_imageTree : Nat) (m_pastThen : Nat) (m_notedThingThen : Nat) (m_notedIsThen : Nat) (m_statusThen : Nat) (ou : Nat) (H : Heap) (locs : List Loc) (ls : Array Slot) (hP : va_P G vwCl [(x0, .inr (10, [.ref tp, .int 0, .int (-1), .ref ps, .ref sp, .ref tk, .ref dr, .ref pr, .ref da, .ref nw, .ref im, .int 0, .ref ac, .ref ke, .ref si, .ref tx, .ref an, .ref dw])), (ps, .inl (y 3, 4, .inr (.inr (.inr (.inr (fun _ => none)))))), (nw, .inr (6, [.ref nwt, .ref nwb, .int 0, .ref nwn, .ref nwi, .int 0, .ref nwr])), (nwr, .inl (y 0, 3, .inl (fun _ => 0))), (m0, .inr (11, [.int 0, .ref m_tree, .ref m_data, .ref m_made, .ref m_status, .int 0, .ref m_tape, .ref m_paths, .ref m_pathSize, .null, .int 0, .int 0, .int 0, .int 0, .int 0, .int 0, .int 0, .int 0, .int 0, .int 0, .int 0, .int (-1), .int 0, .ref m_set, .ref m_to, .int 0, .int 0, .int 0, .int 0, .int 0, .int 0, .ref m_lifted, .int 0, .int 0, .int 0, .ref m_order, .int 0, .ref m_past, .int 0, .ref m_rowKind, .ref m_rowSteps, .ref m_rowPath, .ref m_rowWas, .ref m_rowIs, .ref m_pool, .ref m_rowsMany, .ref m_poolMany, .ref m_way, .int 0, .ref m_out, .int 0, .int 0, .ref m_notedThing, .ref m_notedIs, .ref m_votes, .int 0, .int 0, .ref m_treeThen, .int 0, .int 0, .int 0, .ref m_imageTree, .ref m_pastThen, .ref m_notedThingThen, .ref m_notedIsThen, .ref m_statusThen])), (m_pathSize, .inl (y 0, 4, .inl (fun _ => 0))), (m_status, .inl (y 0, 3, .inl (fun _ => 0))), (ou, .inl (y 1, 1, .inr (.inl (fun _ => 0))))] H) (hD : va_D A [(x0, .inr (10, [.ref tp, .int 0, .int (-1), .ref ps, .ref sp, .ref tk, .ref dr, .ref pr, .ref da, .ref nw, .ref im, .int 0, .ref ac, .ref ke, .ref si, .ref tx, .ref an, .ref dw])), (ps, .inl (y 3, 4, .inr (.inr (.inr (.inr (fun _ => none)))))), (nw, .inr (6, [.ref nwt, .ref nwb, .int 0, .ref nwn, .ref nwi, .int 0, .ref nwr])), (nwr, .inl (y 0, 3, .inl (fun _ => 0))), (m0, .inr (11, [.int 0, .ref m_tree, .ref m_data, .ref m_made, .ref m_status, .int 0, .ref m_tape, .ref m_paths, .ref m_pathSize, .null, .int 0, .int 0, .int 0, .int 0, .int 0, .int 0, .int 0, .int 0, .int 0, .int 0, .int 0, .int (-1), .int 0, .ref m_set, .ref m_to, .int 0, .int 0, .int 0, .int 0, .int 0, .int 0, .ref m_lifted, .int 0, .int 0, .int 0, .ref m_order, .int 0, .ref m_past, .int 0, .ref m_rowKind, .ref m_rowSteps, .ref m_rowPath, .ref m_rowWas, .ref m_rowIs, .ref m_pool, .ref m_rowsMany, .ref m_poolMany, .ref m_way, .int 0, .ref m_out, .int 0, .int 0, .ref m_notedThing, .ref m_notedIs, .ref m_votes, .int 0, .int 0, .ref m_treeThen, .int 0, .int 0, .int 0, .ref m_imageTree, .ref m_pastThen, .ref m_notedThingThen, .ref m_notedIsThen, .ref m_statusThen])), (m_pathSize, .inl (y 0, 4, .inl (fun _ => 0))), (m_status, .inl (y 0, 3, .inl (fun _ => 0))), (ou, .inl (y 1, 1, .inr (.inl (fun _ => 0))))]) (hS : va_S A s.heap H locs) (hl : lv_has ls 7 [(4, .int 0), (3, .ref ou), (2, .ref m0), (1, .ref x0), (0, .ref b)]) : W p l e room_1 s m #[Value.ref b] below meth c H locs 121 52808 (lw_Z below #[Value.ref b] s) (F0 m 1222 ls []) := by
  obtain ⟨hx, hb, hr, hml, hown, hts, hX, hbl, hlocks, hgv⟩ := C0
  have hA : ∀ q : Nat, s.heap.size ≤ q → A q := fun q h => by rw [hAe]; exact h
  have hbA : ¬ A b := by rw [hAe]; exact Nat.not_le.mpr hbl
  have hl : lv_has ls 7 [(4, .int 0), (3, .ref ou), (2, .ref m0), (1, .ref x0), (0, .ref b)] := hl
  obtain ⟨a1, ea1⟩ : ∃ z, z = xs 1 := ⟨_, rfl⟩
  obtain ⟨a2, ea2⟩ : ∃ z, z = xs 2 := ⟨_, rfl⟩
  obtain ⟨a3, ea3⟩ : ∃ z, z = xs 3 := ⟨_, rfl⟩
  obtain ⟨a4, ea4⟩ : ∃ z, z = xs 4 := ⟨_, rfl⟩
  obtain ⟨a5, ea5⟩ : ∃ z, z = xs 5 := ⟨_, rfl⟩
  refine lv_aload_n hx hb dL_law_1222 rfl (lv_at hl 3 rfl) ?_
  refine lv_aload_n hx hb dL_law_1223 rfl (lv_at hl 4 rfl) ?_
  refine lv_iload hx hb dL_law_1224 (lv_at hl 0 rfl) ?_
  refine lv_iconst (v := 1) hx hb dL_law_1226 (by decide) ?_
  refine lv_iadd hx hb dL_law_1227 ?_
  refine nq_top (z := 1) (by decide) ?_
  refine va_sld hx hb hX hbl hbA hS (i := 1) (nq_in (by decide)) dL_law_1228 ?_
  refine nq_top (z := a1) (ea1.symm) ?_
  refine lv_aload_n hx hb dL_law_1229 rfl (lv_at hl 4 rfl) ?_
  refine lv_iload hx hb dL_law_1230 (lv_at hl 0 rfl) ?_
  refine lv_iconst (v := 2) hx hb dL_law_1232 (by decide) ?_
  refine lv_iadd hx hb dL_law_1233 ?_
  refine nq_top (z := 2) (by decide) ?_
  refine va_sld hx hb hX hbl hbA hS (i := 2) (nq_in (by decide)) dL_law_1234 ?_
  refine nq_top (z := a2) (ea2.symm) ?_
  refine nq_wri (wr := [(m0, .inr (11, [.int 0, .ref m_tree, .ref m_data, .ref m_made, .ref m_status, .int 0, .ref m_tape, .ref m_paths, .ref m_pathSize, .null, .int 0, .int 0, .int 0, .int 0, .int 0, .int 0, .int 0, .int 0, .int 0, .int 0, .int 0, .int (-1), .int 0, .ref m_set, .ref m_to, .int 0, .int 0, .int 0, .int 0, .int 0, .int 0, .ref m_lifted, .int 0, .int 0, .int 0, .ref m_order, .int 0, .ref m_past, .int 0, .ref m_rowKind, .ref m_rowSteps, .ref m_rowPath, .ref m_rowWas, .ref m_rowIs, .ref m_pool, .ref m_rowsMany, .ref m_poolMany, .ref m_way, .int 0, .ref m_out, .int 0, .int 0, .ref m_notedThing, .ref m_notedIs, .ref m_votes, .int 0, .int 0, .ref m_treeThen, .int 0, .int 0, .int 0, .ref m_imageTree, .ref m_pastThen, .ref m_notedThingThen, .ref m_notedIsThen, .ref m_statusThen])), (m_pathSize, .inl (y 0, 4, .inl (fun _ => 0))), (m_status, .inl (y 0, 3, .inl (fun _ => 0))), (ou, .inl (y 1, 1, .inr (.inl (fun _ => 0))))]) (va_runV (As := [.int a1, .int a2]) (rest := []) ⟨hx, hb, hml, hown, hts⟩ (c_add l G y H.size x0 tp ps sp tk dr pr da nw im ac ke si tx an dw nwt nwb nwn nwi nwr a1 a2 ) (cwV 2 hts gv_X10_add_127 rfl rfl rfl (by decide +kernel) ⟨Nat.le_of_ble_eq_true rfl, Nat.le_of_ble_eq_true rfl⟩) (nq_PV hK hP hD [0, 1, 2, 3] rfl rfl 0 rfl rfl) rfl rfl hl.1 rfl (lv_room (Nat.le_of_ble_eq_true rfl)) dL_law_1235 ⟨Nat.le_of_ble_eq_true rfl, Nat.le_of_ble_eq_true rfl⟩) hP hD hS hA [0, 1, 2, 3] [4, 5, 6, 7] rfl rfl (by decide) (by decide) (fun r_3 u_1 H locs hw_2 hP hD hS => ?_)
  have hP : va_P G vwCl [(m0, .inr (11, [.int 0, .ref m_tree, .ref m_data, .ref m_made, .ref m_status, .int 0, .ref m_tape, .ref m_paths, .ref m_pathSize, .null, .int 0, .int 0, .int 0, .int 0, .int 0, .int 0, .int 0, .int 0, .int 0, .int 0, .int 0, .int (-1), .int 0, .ref m_set, .ref m_to, .int 0, .int 0, .int 0, .int 0, .int 0, .int 0, .ref m_lifted, .int 0, .int 0, .int 0, .ref m_order, .int 0, .ref m_past, .int 0, .ref m_rowKind, .ref m_rowSteps, .ref m_rowPath, .ref m_rowWas, .ref m_rowIs, .ref m_pool, .ref m_rowsMany, .ref m_poolMany, .ref m_way, .int 0, .ref m_out, .int 0, .int 0, .ref m_notedThing, .ref m_notedIs, .ref m_votes, .int 0, .int 0, .ref m_treeThen, .int 0, .int 0, .int 0, .ref m_imageTree, .ref m_pastThen, .ref m_notedThingThen, .ref m_notedIsThen, .ref m_statusThen])), (m_pathSize, .inl (y 0, 4, .inl (fun _ => 0))), (m_status, .inl (y 0, 3, .inl (fun _ => 0))), (ou, .inl (y 1, 1, .inr (.inl (fun _ => 0))))] H := hP
  have hD : va_D A [(m0, .inr (11, [.int 0, .ref m_tree, .ref m_data, .ref m_made, .ref m_status, .int 0, .ref m_tape, .ref m_paths, .ref m_pathSize, .null, .int 0, .int 0, .int 0, .int 0, .int 0, .int 0, .int 0, .int 0, .int 0, .int 0, .int 0, .int (-1), .int 0, .ref m_set, .ref m_to, .int 0, .int 0, .int 0, .int 0, .int 0, .int 0, .ref m_lifted, .int 0, .int 0, .int 0, .ref m_order, .int 0, .ref m_past, .int 0, .ref m_rowKind, .ref m_rowSteps, .ref m_rowPath, .ref m_rowWas, .ref m_rowIs, .ref m_pool, .ref m_rowsMany, .ref m_poolMany, .ref m_way, .int 0, .ref m_out, .int 0, .int 0, .ref m_notedThing, .ref m_notedIs, .ref m_votes, .int 0, .int 0, .ref m_treeThen, .int 0, .int 0, .int 0, .ref m_imageTree, .ref m_pastThen, .ref m_notedThingThen, .ref m_notedIsThen, .ref m_statusThen])), (m_pathSize, .inl (y 0, 4, .inl (fun _ => 0))), (m_status, .inl (y 0, 3, .inl (fun _ => 0))), (ou, .inl (y 1, 1, .inr (.inl (fun _ => 0))))] := hD
  subst hw_2
  refine lv_aload_n hx hb dL_law_1238 rfl (lv_at hl 2 rfl) ?_
  refine lv_aload_n hx hb dL_law_1239 rfl (lv_at hl 4 rfl) ?_
  refine lv_iload hx hb dL_law_1240 (lv_at hl 0 rfl) ?_
  refine lv_iconst (v := 1) hx hb dL_law_1242 (by decide) ?_
  refine lv_iadd hx hb dL_law_1243 ?_
  refine nq_top (z := 1) (by decide) ?_
  refine va_sld hx hb hX hbl hbA hS (i := 1) (nq_in (by decide)) dL_law_1244 ?_
  refine nq_top (z := a1) (ea1.symm) ?_
  refine lv_aload_n hx hb dL_law_1245 rfl (lv_at hl 4 rfl) ?_
  refine lv_iload hx hb dL_law_1246 (lv_at hl 0 rfl) ?_
  refine lv_iconst (v := 2) hx hb dL_law_1248 (by decide) ?_
  refine lv_iadd hx hb dL_law_1249 ?_
  refine nq_top (z := 2) (by decide) ?_
  refine va_sld hx hb hX hbl hbA hS (i := 2) (nq_in (by decide)) dL_law_1250 ?_
  refine nq_top (z := a2) (ea2.symm) ?_
  refine nq_wri (wr := [(ou, .inl (y 1, 1, .inr (.inl (fun _ => 0))))]) (va_runV (As := [.int a1, .int a2]) (rest := [.int (-1)]) ⟨hx, hb, hml, hown, hts⟩ (c_m_add l G y H.size m0 m_tree m_data m_made m_status m_tape m_paths m_pathSize m_set m_to m_lifted m_order m_past m_rowKind m_rowSteps m_rowPath m_rowWas m_rowIs m_pool m_rowsMany m_poolMany m_way m_out m_notedThing m_notedIs m_votes m_treeThen m_imageTree m_pastThen m_notedThingThen m_notedIsThen m_statusThen a1 a2 ) (cwV 2 hts gv_X11_add_130 rfl rfl rfl (by decide +kernel) ⟨Nat.le_of_ble_eq_true rfl, Nat.le_of_ble_eq_true rfl⟩) (nq_PV hK hP hD [0, 1, 2] rfl rfl 0 rfl rfl) rfl rfl hl.1 rfl (lv_room (Nat.le_of_ble_eq_true rfl)) dL_law_1251 ⟨Nat.le_of_ble_eq_true rfl, Nat.le_of_ble_eq_true rfl⟩) hP hD hS hA [0, 1, 2] [3] rfl rfl (by decide) (by decide) (fun r_6 u_4 H locs hw_5 hP hD hS => ?_)
  have hP : va_P G vwCl [(ou, .inl (y 1, 1, .inr (.inl (fun _ => 0))))] H := hP
  have hD : va_D A [(ou, .inl (y 1, 1, .inr (.inl (fun _ => 0))))] := hD
  subst hw_5
  refine lv_icmp_eq (tgt := 1593) hx hb dL_law_1254 (by decide) (fun _ => ?_) (fun c_7 => absurd c_7 (by decide))
  refine lv_iinc (v := 6) (lv' := [(4, .int 6), (3, .ref ou), (2, .ref m0), (1, .ref x0), (0, .ref b)]) hx hb dL_law_1593 hl (k := 0) rfl (by decide) (by decide) rfl (fun ls hl => ?_)
  refine lv_goto (tgt := 23) hx hb dL_law_1596 (by decide) ?_
  refine lv_iload hx hb dL_law_23 (lv_at hl 0 rfl) ?_
  refine lv_aload_n hx hb dL_law_25 rfl (lv_at hl 4 rfl) ?_
  refine va_slen hx hb hX hbl hbA hS dL_law_26 ?_
  refine nq_top (z := 6) (by decide) ?_
  refine lv_bipush (v := 6) hx hb dL_law_27 (by decide) ?_
  refine lv_isub hx hb dL_law_29 ?_
  refine nq_top (z := 0) (by decide) ?_
  refine lv_icmp_gt (tgt := 1599) hx hb dL_law_30 (by decide) (fun _ => ?_) (fun c_8 => absurd c_8 (by decide))
  refine lv_iconst (v := 1) hx hb dL_law_1599 (by decide) ?_
  refine va_forget (fun q hq => by have h9 := hS.2.2 q hq; rw [hAe] at h9; exact h9) ?_
  refine W.widen (k := 600002) (n := 7302232) (Nat.le_of_ble_eq_true rfl) (Nat.le_of_ble_eq_true rfl) ?_
  exact lw_ret hx hb hr hlocks dL_law_1600

set_option maxHeartbeats 400000 in
set_option maxRecDepth 100000 in
theorem lc_17 {p : Program} {e : Env} {s : State} {m : MethodId} {below : List Frame} {meth : Method} {c : Code} {l : Launch} {b : Nat} {xs : Nat → Int32} {G : va_G} {y : Nat → ClassId} {A : Nat → Prop} (hl0 : l.stackTraces = false) (C0 : lw_At p s m meth c b 6 xs) (hAe : A = fun q : Nat => s.heap.size ≤ q) (hK : nq_K G y s) (hXs : nq_X A s) (x0 : Nat) (tp : Nat) (ps : Nat) (sp : Nat) (tk : Nat) (dr : Nat) (pr : Nat) (da : Nat) (nw : Nat) (im : Nat) (ac : Nat) (ke : Nat) (si : Nat) (tx : Nat) (an : Nat) (dw : Nat) (nwt : Nat) (nwb : Nat) (nwn : Nat) (nwi : Nat) (nwr : Nat) (m0 : Nat) (m_tree : Nat) (m_data : Nat) (m_made : Nat) (m_status : Nat) (m_tape : Nat) (m_paths : Nat) (m_pathSize : Nat) (m_set : Nat) (m_to : Nat) (m_lifted : Nat) (m_order : Nat) (m_past : Nat) (m_rowKind : Nat) (m_rowSteps : Nat) (m_rowPath : Nat) (m_rowWas : Nat) (m_rowIs : Nat) (m_pool : Nat) (m_rowsMany : Nat) (m_poolMany : Nat) (m_way : Nat) (m_out : Nat) (m_notedThing : Nat) (m_notedIs : Nat) (m_votes : Nat) (m_treeThen : Nat) (m_imageTree : Nat) (m_pastThen : Nat) (m_notedThingThen : Nat) (m_notedIsThen : Nat) (m_statusThen : Nat) (ou : Nat) (H : Heap) (locs : List Loc) (ls : Array Slot) (hP : va_P G vwCl [(x0, .inr (10, [.ref tp, .int 0, .int (-1), .ref ps, .ref sp, .ref tk, .ref dr, .ref pr, .ref da, .ref nw, .ref im, .int 0, .ref ac, .ref ke, .ref si, .ref tx, .ref an, .ref dw])), (ps, .inl (y 3, 4, .inr (.inr (.inr (.inr (fun _ => none)))))), (nw, .inr (6, [.ref nwt, .ref nwb, .int 0, .ref nwn, .ref nwi, .int 0, .ref nwr])), (nwr, .inl (y 0, 3, .inl (fun _ => 0))), (m0, .inr (11, [.int 0, .ref m_tree, .ref m_data, .ref m_made, .ref m_status, .int 0, .ref m_tape, .ref m_paths, .ref m_pathSize, .null, .int 0, .int 0, .int 0, .int 0, .int 0, .int 0, .int 0, .int 0, .int 0, .int 0, .int 0, .int (-1), .int 0, .ref m_set, .ref m_to, .int 0, .int 0, .int 0, .int 0, .int 0, .int 0, .ref m_lifted, .int 0, .int 0, .int 0, .ref m_order, .int 0, .ref m_past, .int 0, .ref m_rowKind, .ref m_rowSteps, .ref m_rowPath, .ref m_rowWas, .ref m_rowIs, .ref m_pool, .ref m_rowsMany, .ref m_poolMany, .ref m_way, .int 0, .ref m_out, .int 0, .int 0, .ref m_notedThing, .ref m_notedIs, .ref m_votes, .int 0, .int 0, .ref m_treeThen, .int 0, .int 0, .int 0, .ref m_imageTree, .ref m_pastThen, .ref m_notedThingThen, .ref m_notedIsThen, .ref m_statusThen])), (m_pathSize, .inl (y 0, 4, .inl (fun _ => 0))), (m_status, .inl (y 0, 3, .inl (fun _ => 0))), (ou, .inl (y 1, 1, .inr (.inl (fun _ => 0))))] H) (hD : va_D A [(x0, .inr (10, [.ref tp, .int 0, .int (-1), .ref ps, .ref sp, .ref tk, .ref dr, .ref pr, .ref da, .ref nw, .ref im, .int 0, .ref ac, .ref ke, .ref si, .ref tx, .ref an, .ref dw])), (ps, .inl (y 3, 4, .inr (.inr (.inr (.inr (fun _ => none)))))), (nw, .inr (6, [.ref nwt, .ref nwb, .int 0, .ref nwn, .ref nwi, .int 0, .ref nwr])), (nwr, .inl (y 0, 3, .inl (fun _ => 0))), (m0, .inr (11, [.int 0, .ref m_tree, .ref m_data, .ref m_made, .ref m_status, .int 0, .ref m_tape, .ref m_paths, .ref m_pathSize, .null, .int 0, .int 0, .int 0, .int 0, .int 0, .int 0, .int 0, .int 0, .int 0, .int 0, .int 0, .int (-1), .int 0, .ref m_set, .ref m_to, .int 0, .int 0, .int 0, .int 0, .int 0, .int 0, .ref m_lifted, .int 0, .int 0, .int 0, .ref m_order, .int 0, .ref m_past, .int 0, .ref m_rowKind, .ref m_rowSteps, .ref m_rowPath, .ref m_rowWas, .ref m_rowIs, .ref m_pool, .ref m_rowsMany, .ref m_poolMany, .ref m_way, .int 0, .ref m_out, .int 0, .int 0, .ref m_notedThing, .ref m_notedIs, .ref m_votes, .int 0, .int 0, .ref m_treeThen, .int 0, .int 0, .int 0, .ref m_imageTree, .ref m_pastThen, .ref m_notedThingThen, .ref m_notedIsThen, .ref m_statusThen])), (m_pathSize, .inl (y 0, 4, .inl (fun _ => 0))), (m_status, .inl (y 0, 3, .inl (fun _ => 0))), (ou, .inl (y 1, 1, .inr (.inl (fun _ => 0))))]) (hS : va_S A s.heap H locs) (hl : lv_has ls 7 [(4, .int 0), (3, .ref ou), (2, .ref m0), (1, .ref x0), (0, .ref b)]) : W p l e room_1 s m #[Value.ref b] below meth c H locs 121 52808 (lw_Z below #[Value.ref b] s) (F0 m 1259 ls []) := by
  obtain ⟨hx, hb, hr, hml, hown, hts, hX, hbl, hlocks, hgv⟩ := C0
  have hA : ∀ q : Nat, s.heap.size ≤ q → A q := fun q h => by rw [hAe]; exact h
  have hbA : ¬ A b := by rw [hAe]; exact Nat.not_le.mpr hbl
  have hl : lv_has ls 7 [(4, .int 0), (3, .ref ou), (2, .ref m0), (1, .ref x0), (0, .ref b)] := hl
  obtain ⟨a1, ea1⟩ : ∃ z, z = xs 1 := ⟨_, rfl⟩
  obtain ⟨a2, ea2⟩ : ∃ z, z = xs 2 := ⟨_, rfl⟩
  obtain ⟨a3, ea3⟩ : ∃ z, z = xs 3 := ⟨_, rfl⟩
  obtain ⟨a4, ea4⟩ : ∃ z, z = xs 4 := ⟨_, rfl⟩
  obtain ⟨a5, ea5⟩ : ∃ z, z = xs 5 := ⟨_, rfl⟩
  refine lv_aload_n hx hb dL_law_1259 rfl (lv_at hl 3 rfl) ?_
  refine lv_aload_n hx hb dL_law_1260 rfl (lv_at hl 4 rfl) ?_
  refine lv_iload hx hb dL_law_1261 (lv_at hl 0 rfl) ?_
  refine lv_iconst (v := 1) hx hb dL_law_1263 (by decide) ?_
  refine lv_iadd hx hb dL_law_1264 ?_
  refine nq_top (z := 1) (by decide) ?_
  refine va_sld hx hb hX hbl hbA hS (i := 1) (nq_in (by decide)) dL_law_1265 ?_
  refine nq_top (z := a1) (ea1.symm) ?_
  refine lv_aload_n hx hb dL_law_1266 rfl (lv_at hl 4 rfl) ?_
  refine lv_iload hx hb dL_law_1267 (lv_at hl 0 rfl) ?_
  refine lv_iconst (v := 2) hx hb dL_law_1269 (by decide) ?_
  refine lv_iadd hx hb dL_law_1270 ?_
  refine nq_top (z := 2) (by decide) ?_
  refine va_sld hx hb hX hbl hbA hS (i := 2) (nq_in (by decide)) dL_law_1271 ?_
  refine nq_top (z := a2) (ea2.symm) ?_
  refine nq_wri (wr := [(m0, .inr (11, [.int 0, .ref m_tree, .ref m_data, .ref m_made, .ref m_status, .int 0, .ref m_tape, .ref m_paths, .ref m_pathSize, .null, .int 0, .int 0, .int 0, .int 0, .int 0, .int 0, .int 0, .int 0, .int 0, .int 0, .int 0, .int (-1), .int 0, .ref m_set, .ref m_to, .int 0, .int 0, .int 0, .int 0, .int 0, .int 0, .ref m_lifted, .int 0, .int 0, .int 0, .ref m_order, .int 0, .ref m_past, .int 0, .ref m_rowKind, .ref m_rowSteps, .ref m_rowPath, .ref m_rowWas, .ref m_rowIs, .ref m_pool, .ref m_rowsMany, .ref m_poolMany, .ref m_way, .int 0, .ref m_out, .int 0, .int 0, .ref m_notedThing, .ref m_notedIs, .ref m_votes, .int 0, .int 0, .ref m_treeThen, .int 0, .int 0, .int 0, .ref m_imageTree, .ref m_pastThen, .ref m_notedThingThen, .ref m_notedIsThen, .ref m_statusThen])), (m_pathSize, .inl (y 0, 4, .inl (fun _ => 0))), (m_status, .inl (y 0, 3, .inl (fun _ => 0))), (ou, .inl (y 1, 1, .inr (.inl (fun _ => 0))))]) (va_runV (As := [.int a1, .int a2]) (rest := []) ⟨hx, hb, hml, hown, hts⟩ (c_change l G y H.size x0 tp ps sp tk dr pr da nw im ac ke si tx an dw nwt nwb nwn nwi nwr a1 a2 ) (cwV 2 hts gv_X10_change_131 rfl rfl rfl (by decide +kernel) ⟨Nat.le_of_ble_eq_true rfl, Nat.le_of_ble_eq_true rfl⟩) (nq_PV hK hP hD [0, 1, 2, 3] rfl rfl 0 rfl rfl) rfl rfl hl.1 rfl (lv_room (Nat.le_of_ble_eq_true rfl)) dL_law_1272 ⟨Nat.le_of_ble_eq_true rfl, Nat.le_of_ble_eq_true rfl⟩) hP hD hS hA [0, 1, 2, 3] [4, 5, 6, 7] rfl rfl (by decide) (by decide) (fun r_3 u_1 H locs hw_2 hP hD hS => ?_)
  have hP : va_P G vwCl [(m0, .inr (11, [.int 0, .ref m_tree, .ref m_data, .ref m_made, .ref m_status, .int 0, .ref m_tape, .ref m_paths, .ref m_pathSize, .null, .int 0, .int 0, .int 0, .int 0, .int 0, .int 0, .int 0, .int 0, .int 0, .int 0, .int 0, .int (-1), .int 0, .ref m_set, .ref m_to, .int 0, .int 0, .int 0, .int 0, .int 0, .int 0, .ref m_lifted, .int 0, .int 0, .int 0, .ref m_order, .int 0, .ref m_past, .int 0, .ref m_rowKind, .ref m_rowSteps, .ref m_rowPath, .ref m_rowWas, .ref m_rowIs, .ref m_pool, .ref m_rowsMany, .ref m_poolMany, .ref m_way, .int 0, .ref m_out, .int 0, .int 0, .ref m_notedThing, .ref m_notedIs, .ref m_votes, .int 0, .int 0, .ref m_treeThen, .int 0, .int 0, .int 0, .ref m_imageTree, .ref m_pastThen, .ref m_notedThingThen, .ref m_notedIsThen, .ref m_statusThen])), (m_pathSize, .inl (y 0, 4, .inl (fun _ => 0))), (m_status, .inl (y 0, 3, .inl (fun _ => 0))), (ou, .inl (y 1, 1, .inr (.inl (fun _ => 0))))] H := hP
  have hD : va_D A [(m0, .inr (11, [.int 0, .ref m_tree, .ref m_data, .ref m_made, .ref m_status, .int 0, .ref m_tape, .ref m_paths, .ref m_pathSize, .null, .int 0, .int 0, .int 0, .int 0, .int 0, .int 0, .int 0, .int 0, .int 0, .int 0, .int 0, .int (-1), .int 0, .ref m_set, .ref m_to, .int 0, .int 0, .int 0, .int 0, .int 0, .int 0, .ref m_lifted, .int 0, .int 0, .int 0, .ref m_order, .int 0, .ref m_past, .int 0, .ref m_rowKind, .ref m_rowSteps, .ref m_rowPath, .ref m_rowWas, .ref m_rowIs, .ref m_pool, .ref m_rowsMany, .ref m_poolMany, .ref m_way, .int 0, .ref m_out, .int 0, .int 0, .ref m_notedThing, .ref m_notedIs, .ref m_votes, .int 0, .int 0, .ref m_treeThen, .int 0, .int 0, .int 0, .ref m_imageTree, .ref m_pastThen, .ref m_notedThingThen, .ref m_notedIsThen, .ref m_statusThen])), (m_pathSize, .inl (y 0, 4, .inl (fun _ => 0))), (m_status, .inl (y 0, 3, .inl (fun _ => 0))), (ou, .inl (y 1, 1, .inr (.inl (fun _ => 0))))] := hD
  subst hw_2
  refine lv_aload_n hx hb dL_law_1275 rfl (lv_at hl 2 rfl) ?_
  refine lv_aload_n hx hb dL_law_1276 rfl (lv_at hl 4 rfl) ?_
  refine lv_iload hx hb dL_law_1277 (lv_at hl 0 rfl) ?_
  refine lv_iconst (v := 1) hx hb dL_law_1279 (by decide) ?_
  refine lv_iadd hx hb dL_law_1280 ?_
  refine nq_top (z := 1) (by decide) ?_
  refine va_sld hx hb hX hbl hbA hS (i := 1) (nq_in (by decide)) dL_law_1281 ?_
  refine nq_top (z := a1) (ea1.symm) ?_
  refine lv_aload_n hx hb dL_law_1282 rfl (lv_at hl 4 rfl) ?_
  refine lv_iload hx hb dL_law_1283 (lv_at hl 0 rfl) ?_
  refine lv_iconst (v := 2) hx hb dL_law_1285 (by decide) ?_
  refine lv_iadd hx hb dL_law_1286 ?_
  refine nq_top (z := 2) (by decide) ?_
  refine va_sld hx hb hX hbl hbA hS (i := 2) (nq_in (by decide)) dL_law_1287 ?_
  refine nq_top (z := a2) (ea2.symm) ?_
  refine nq_wri (wr := [(ou, .inl (y 1, 1, .inr (.inl (fun _ => 0))))]) (va_runV (As := [.int a1, .int a2]) (rest := [.int (-1)]) ⟨hx, hb, hml, hown, hts⟩ (c_m_change l G y H.size m0 m_tree m_data m_made m_status m_tape m_paths m_pathSize m_set m_to m_lifted m_order m_past m_rowKind m_rowSteps m_rowPath m_rowWas m_rowIs m_pool m_rowsMany m_poolMany m_way m_out m_notedThing m_notedIs m_votes m_treeThen m_imageTree m_pastThen m_notedThingThen m_notedIsThen m_statusThen a1 a2 ) (cwV 2 hts gv_X11_change_134 rfl rfl rfl (by decide +kernel) ⟨Nat.le_of_ble_eq_true rfl, Nat.le_of_ble_eq_true rfl⟩) (nq_PV hK hP hD [0, 1, 2] rfl rfl 0 rfl rfl) rfl rfl hl.1 rfl (lv_room (Nat.le_of_ble_eq_true rfl)) dL_law_1288 ⟨Nat.le_of_ble_eq_true rfl, Nat.le_of_ble_eq_true rfl⟩) hP hD hS hA [0, 1, 2] [3] rfl rfl (by decide) (by decide) (fun r_6 u_4 H locs hw_5 hP hD hS => ?_)
  have hP : va_P G vwCl [(ou, .inl (y 1, 1, .inr (.inl (fun _ => 0))))] H := hP
  have hD : va_D A [(ou, .inl (y 1, 1, .inr (.inl (fun _ => 0))))] := hD
  subst hw_5
  refine lv_icmp_eq (tgt := 1593) hx hb dL_law_1291 (by decide) (fun _ => ?_) (fun c_7 => absurd c_7 (by decide))
  refine lv_iinc (v := 6) (lv' := [(4, .int 6), (3, .ref ou), (2, .ref m0), (1, .ref x0), (0, .ref b)]) hx hb dL_law_1593 hl (k := 0) rfl (by decide) (by decide) rfl (fun ls hl => ?_)
  refine lv_goto (tgt := 23) hx hb dL_law_1596 (by decide) ?_
  refine lv_iload hx hb dL_law_23 (lv_at hl 0 rfl) ?_
  refine lv_aload_n hx hb dL_law_25 rfl (lv_at hl 4 rfl) ?_
  refine va_slen hx hb hX hbl hbA hS dL_law_26 ?_
  refine nq_top (z := 6) (by decide) ?_
  refine lv_bipush (v := 6) hx hb dL_law_27 (by decide) ?_
  refine lv_isub hx hb dL_law_29 ?_
  refine nq_top (z := 0) (by decide) ?_
  refine lv_icmp_gt (tgt := 1599) hx hb dL_law_30 (by decide) (fun _ => ?_) (fun c_8 => absurd c_8 (by decide))
  refine lv_iconst (v := 1) hx hb dL_law_1599 (by decide) ?_
  refine va_forget (fun q hq => by have h9 := hS.2.2 q hq; rw [hAe] at h9; exact h9) ?_
  refine W.widen (k := 600002) (n := 7302232) (Nat.le_of_ble_eq_true rfl) (Nat.le_of_ble_eq_true rfl) ?_
  exact lw_ret hx hb hr hlocks dL_law_1600

set_option maxHeartbeats 400000 in
set_option maxRecDepth 100000 in
theorem lc_18 {p : Program} {e : Env} {s : State} {m : MethodId} {below : List Frame} {meth : Method} {c : Code} {l : Launch} {b : Nat} {xs : Nat → Int32} {G : va_G} {y : Nat → ClassId} {A : Nat → Prop} (hl0 : l.stackTraces = false) (C0 : lw_At p s m meth c b 6 xs) (hAe : A = fun q : Nat => s.heap.size ≤ q) (hK : nq_K G y s) (hXs : nq_X A s) (x0 : Nat) (tp : Nat) (ps : Nat) (sp : Nat) (tk : Nat) (dr : Nat) (pr : Nat) (da : Nat) (nw : Nat) (im : Nat) (ac : Nat) (ke : Nat) (si : Nat) (tx : Nat) (an : Nat) (dw : Nat) (ac1 : Nat) (ac2 : Nat) (ac3 : Nat) (nwt : Nat) (nwb : Nat) (nwn : Nat) (nwi : Nat) (nwr : Nat) (nwtk : Nat) (nwtv : Nat) (nwte : Nat) (nwtd : Nat) (m0 : Nat) (m_tree : Nat) (m_data : Nat) (m_made : Nat) (m_status : Nat) (m_tape : Nat) (m_paths : Nat) (m_pathSize : Nat) (m_set : Nat) (m_to : Nat) (m_lifted : Nat) (m_order : Nat) (m_past : Nat) (m_rowKind : Nat) (m_rowSteps : Nat) (m_rowPath : Nat) (m_rowWas : Nat) (m_rowIs : Nat) (m_pool : Nat) (m_rowsMany : Nat) (m_poolMany : Nat) (m_way : Nat) (m_out : Nat) (m_notedThing : Nat) (m_notedIs : Nat) (m_votes : Nat) (m_treeThen : Nat) (m_imageTree : Nat) (m_pastThen : Nat) (m_notedThingThen : Nat) (m_notedIsThen : Nat) (m_statusThen : Nat) (ou : Nat) (H : Heap) (locs : List Loc) (ls : Array Slot) (hP : va_P G vwCl [(x0, .inr (10, [.ref tp, .int 0, .int (-1), .ref ps, .ref sp, .ref tk, .ref dr, .ref pr, .ref da, .ref nw, .ref im, .int 0, .ref ac, .ref ke, .ref si, .ref tx, .ref an, .ref dw])), (ac, .inr (0, [.ref nw, .ref ac1, .ref ac2, .ref ac3])), (nw, .inr (6, [.ref nwt, .ref nwb, .int 0, .ref nwn, .ref nwi, .int 0, .ref nwr])), (nwt, .inr (9, [.ref nwtk, .ref nwtv, .ref nwte, .ref nwtd, .int 1])), (nwtk, .inl (y 0, 60, .inl (upd (fun _ => 0) 0 3))), (nwr, .inl (y 0, 3, .inl (fun _ => 0))), (m0, .inr (11, [.int 0, .ref m_tree, .ref m_data, .ref m_made, .ref m_status, .int 0, .ref m_tape, .ref m_paths, .ref m_pathSize, .null, .int 0, .int 0, .int 0, .int 0, .int 0, .int 0, .int 0, .int 0, .int 0, .int 0, .int 0, .int (-1), .int 0, .ref m_set, .ref m_to, .int 0, .int 0, .int 0, .int 0, .int 0, .int 0, .ref m_lifted, .int 0, .int 0, .int 0, .ref m_order, .int 0, .ref m_past, .int 0, .ref m_rowKind, .ref m_rowSteps, .ref m_rowPath, .ref m_rowWas, .ref m_rowIs, .ref m_pool, .ref m_rowsMany, .ref m_poolMany, .ref m_way, .int 0, .ref m_out, .int 0, .int 0, .ref m_notedThing, .ref m_notedIs, .ref m_votes, .int 0, .int 0, .ref m_treeThen, .int 0, .int 0, .int 0, .ref m_imageTree, .ref m_pastThen, .ref m_notedThingThen, .ref m_notedIsThen, .ref m_statusThen])), (m_tree, .inl (y 0, 240, .inl (upd (upd (fun _ => 0) 0 3) 3 1))), (m_status, .inl (y 0, 3, .inl (fun _ => 0))), (ou, .inl (y 1, 1, .inr (.inl (fun _ => 0))))] H) (hD : va_D A [(x0, .inr (10, [.ref tp, .int 0, .int (-1), .ref ps, .ref sp, .ref tk, .ref dr, .ref pr, .ref da, .ref nw, .ref im, .int 0, .ref ac, .ref ke, .ref si, .ref tx, .ref an, .ref dw])), (ac, .inr (0, [.ref nw, .ref ac1, .ref ac2, .ref ac3])), (nw, .inr (6, [.ref nwt, .ref nwb, .int 0, .ref nwn, .ref nwi, .int 0, .ref nwr])), (nwt, .inr (9, [.ref nwtk, .ref nwtv, .ref nwte, .ref nwtd, .int 1])), (nwtk, .inl (y 0, 60, .inl (upd (fun _ => 0) 0 3))), (nwr, .inl (y 0, 3, .inl (fun _ => 0))), (m0, .inr (11, [.int 0, .ref m_tree, .ref m_data, .ref m_made, .ref m_status, .int 0, .ref m_tape, .ref m_paths, .ref m_pathSize, .null, .int 0, .int 0, .int 0, .int 0, .int 0, .int 0, .int 0, .int 0, .int 0, .int 0, .int 0, .int (-1), .int 0, .ref m_set, .ref m_to, .int 0, .int 0, .int 0, .int 0, .int 0, .int 0, .ref m_lifted, .int 0, .int 0, .int 0, .ref m_order, .int 0, .ref m_past, .int 0, .ref m_rowKind, .ref m_rowSteps, .ref m_rowPath, .ref m_rowWas, .ref m_rowIs, .ref m_pool, .ref m_rowsMany, .ref m_poolMany, .ref m_way, .int 0, .ref m_out, .int 0, .int 0, .ref m_notedThing, .ref m_notedIs, .ref m_votes, .int 0, .int 0, .ref m_treeThen, .int 0, .int 0, .int 0, .ref m_imageTree, .ref m_pastThen, .ref m_notedThingThen, .ref m_notedIsThen, .ref m_statusThen])), (m_tree, .inl (y 0, 240, .inl (upd (upd (fun _ => 0) 0 3) 3 1))), (m_status, .inl (y 0, 3, .inl (fun _ => 0))), (ou, .inl (y 1, 1, .inr (.inl (fun _ => 0))))]) (hS : va_S A s.heap H locs) (hl : lv_has ls 7 [(4, .int 0), (3, .ref ou), (2, .ref m0), (1, .ref x0), (0, .ref b)]) : W p l e room_1 s m #[Value.ref b] below meth c H locs 121 52808 (lw_Z below #[Value.ref b] s) (F0 m 1296 ls []) := by
  obtain ⟨hx, hb, hr, hml, hown, hts, hX, hbl, hlocks, hgv⟩ := C0
  have hA : ∀ q : Nat, s.heap.size ≤ q → A q := fun q h => by rw [hAe]; exact h
  have hbA : ¬ A b := by rw [hAe]; exact Nat.not_le.mpr hbl
  have hl : lv_has ls 7 [(4, .int 0), (3, .ref ou), (2, .ref m0), (1, .ref x0), (0, .ref b)] := hl
  obtain ⟨a1, ea1⟩ : ∃ z, z = xs 1 := ⟨_, rfl⟩
  obtain ⟨a2, ea2⟩ : ∃ z, z = xs 2 := ⟨_, rfl⟩
  obtain ⟨a3, ea3⟩ : ∃ z, z = xs 3 := ⟨_, rfl⟩
  obtain ⟨a4, ea4⟩ : ∃ z, z = xs 4 := ⟨_, rfl⟩
  obtain ⟨a5, ea5⟩ : ∃ z, z = xs 5 := ⟨_, rfl⟩
  refine lv_aload_n hx hb dL_law_1296 rfl (lv_at hl 3 rfl) ?_
  refine lv_aload_n hx hb dL_law_1297 rfl (lv_at hl 4 rfl) ?_
  refine lv_iload hx hb dL_law_1298 (lv_at hl 0 rfl) ?_
  refine lv_iconst (v := 1) hx hb dL_law_1300 (by decide) ?_
  refine lv_iadd hx hb dL_law_1301 ?_
  refine nq_top (z := 1) (by decide) ?_
  refine va_sld hx hb hX hbl hbA hS (i := 1) (nq_in (by decide)) dL_law_1302 ?_
  refine nq_top (z := a1) (ea1.symm) ?_
  refine lv_aload_n hx hb dL_law_1303 rfl (lv_at hl 4 rfl) ?_
  refine lv_iload hx hb dL_law_1304 (lv_at hl 0 rfl) ?_
  refine lv_iconst (v := 2) hx hb dL_law_1306 (by decide) ?_
  refine lv_iadd hx hb dL_law_1307 ?_
  refine nq_top (z := 2) (by decide) ?_
  refine va_sld hx hb hX hbl hbA hS (i := 2) (nq_in (by decide)) dL_law_1308 ?_
  refine nq_top (z := a2) (ea2.symm) ?_
  refine lv_aload_n hx hb dL_law_1309 rfl (lv_at hl 4 rfl) ?_
  refine lv_iload hx hb dL_law_1310 (lv_at hl 0 rfl) ?_
  refine lv_iconst (v := 3) hx hb dL_law_1312 (by decide) ?_
  refine lv_iadd hx hb dL_law_1313 ?_
  refine nq_top (z := 3) (by decide) ?_
  refine va_sld hx hb hX hbl hbA hS (i := 3) (nq_in (by decide)) dL_law_1314 ?_
  refine nq_top (z := a3) (ea3.symm) ?_
  refine nq_wri (wr := [(m0, .inr (11, [.int 0, .ref m_tree, .ref m_data, .ref m_made, .ref m_status, .int 0, .ref m_tape, .ref m_paths, .ref m_pathSize, .null, .int 0, .int 0, .int 0, .int 0, .int 0, .int 0, .int 0, .int 0, .int 0, .int 0, .int 0, .int (-1), .int 0, .ref m_set, .ref m_to, .int 0, .int 0, .int 0, .int 0, .int 0, .int 0, .ref m_lifted, .int 0, .int 0, .int 0, .ref m_order, .int 0, .ref m_past, .int 0, .ref m_rowKind, .ref m_rowSteps, .ref m_rowPath, .ref m_rowWas, .ref m_rowIs, .ref m_pool, .ref m_rowsMany, .ref m_poolMany, .ref m_way, .int 0, .ref m_out, .int 0, .int 0, .ref m_notedThing, .ref m_notedIs, .ref m_votes, .int 0, .int 0, .ref m_treeThen, .int 0, .int 0, .int 0, .ref m_imageTree, .ref m_pastThen, .ref m_notedThingThen, .ref m_notedIsThen, .ref m_statusThen])), (m_tree, .inl (y 0, 240, .inl (upd (upd (fun _ => 0) 0 3) 3 1))), (m_status, .inl (y 0, 3, .inl (fun _ => 0))), (ou, .inl (y 1, 1, .inr (.inl (fun _ => 0))))]) (va_runV (As := [.int a1, .int a2, .int a3]) (rest := []) ⟨hx, hb, hml, hown, hts⟩ (c_move l G y H.size x0 tp ps sp tk dr pr da nw im ac ke si tx an dw ac1 ac2 ac3 nwt nwb nwn nwi nwr nwtk nwtv nwte nwtd a1 a2 a3 ) (cwV 3 hts gv_X10_move_135 rfl rfl rfl (by decide +kernel) ⟨Nat.le_of_ble_eq_true rfl, Nat.le_of_ble_eq_true rfl⟩) (nq_PV hK hP hD [0, 1, 2, 3, 4, 5] rfl rfl 0 rfl rfl) rfl rfl hl.1 rfl (lv_room (Nat.le_of_ble_eq_true rfl)) dL_law_1315 ⟨Nat.le_of_ble_eq_true rfl, Nat.le_of_ble_eq_true rfl⟩) hP hD hS hA [0, 1, 2, 3, 4, 5] [6, 7, 8, 9] rfl rfl (by decide) (by decide) (fun r_3 u_1 H locs hw_2 hP hD hS => ?_)
  have hP : va_P G vwCl [(m0, .inr (11, [.int 0, .ref m_tree, .ref m_data, .ref m_made, .ref m_status, .int 0, .ref m_tape, .ref m_paths, .ref m_pathSize, .null, .int 0, .int 0, .int 0, .int 0, .int 0, .int 0, .int 0, .int 0, .int 0, .int 0, .int 0, .int (-1), .int 0, .ref m_set, .ref m_to, .int 0, .int 0, .int 0, .int 0, .int 0, .int 0, .ref m_lifted, .int 0, .int 0, .int 0, .ref m_order, .int 0, .ref m_past, .int 0, .ref m_rowKind, .ref m_rowSteps, .ref m_rowPath, .ref m_rowWas, .ref m_rowIs, .ref m_pool, .ref m_rowsMany, .ref m_poolMany, .ref m_way, .int 0, .ref m_out, .int 0, .int 0, .ref m_notedThing, .ref m_notedIs, .ref m_votes, .int 0, .int 0, .ref m_treeThen, .int 0, .int 0, .int 0, .ref m_imageTree, .ref m_pastThen, .ref m_notedThingThen, .ref m_notedIsThen, .ref m_statusThen])), (m_tree, .inl (y 0, 240, .inl (upd (upd (fun _ => 0) 0 3) 3 1))), (m_status, .inl (y 0, 3, .inl (fun _ => 0))), (ou, .inl (y 1, 1, .inr (.inl (fun _ => 0))))] H := hP
  have hD : va_D A [(m0, .inr (11, [.int 0, .ref m_tree, .ref m_data, .ref m_made, .ref m_status, .int 0, .ref m_tape, .ref m_paths, .ref m_pathSize, .null, .int 0, .int 0, .int 0, .int 0, .int 0, .int 0, .int 0, .int 0, .int 0, .int 0, .int 0, .int (-1), .int 0, .ref m_set, .ref m_to, .int 0, .int 0, .int 0, .int 0, .int 0, .int 0, .ref m_lifted, .int 0, .int 0, .int 0, .ref m_order, .int 0, .ref m_past, .int 0, .ref m_rowKind, .ref m_rowSteps, .ref m_rowPath, .ref m_rowWas, .ref m_rowIs, .ref m_pool, .ref m_rowsMany, .ref m_poolMany, .ref m_way, .int 0, .ref m_out, .int 0, .int 0, .ref m_notedThing, .ref m_notedIs, .ref m_votes, .int 0, .int 0, .ref m_treeThen, .int 0, .int 0, .int 0, .ref m_imageTree, .ref m_pastThen, .ref m_notedThingThen, .ref m_notedIsThen, .ref m_statusThen])), (m_tree, .inl (y 0, 240, .inl (upd (upd (fun _ => 0) 0 3) 3 1))), (m_status, .inl (y 0, 3, .inl (fun _ => 0))), (ou, .inl (y 1, 1, .inr (.inl (fun _ => 0))))] := hD
  subst hw_2
  refine lv_aload_n hx hb dL_law_1318 rfl (lv_at hl 2 rfl) ?_
  refine lv_aload_n hx hb dL_law_1319 rfl (lv_at hl 4 rfl) ?_
  refine lv_iload hx hb dL_law_1320 (lv_at hl 0 rfl) ?_
  refine lv_iconst (v := 1) hx hb dL_law_1322 (by decide) ?_
  refine lv_iadd hx hb dL_law_1323 ?_
  refine nq_top (z := 1) (by decide) ?_
  refine va_sld hx hb hX hbl hbA hS (i := 1) (nq_in (by decide)) dL_law_1324 ?_
  refine nq_top (z := a1) (ea1.symm) ?_
  refine lv_aload_n hx hb dL_law_1325 rfl (lv_at hl 4 rfl) ?_
  refine lv_iload hx hb dL_law_1326 (lv_at hl 0 rfl) ?_
  refine lv_iconst (v := 2) hx hb dL_law_1328 (by decide) ?_
  refine lv_iadd hx hb dL_law_1329 ?_
  refine nq_top (z := 2) (by decide) ?_
  refine va_sld hx hb hX hbl hbA hS (i := 2) (nq_in (by decide)) dL_law_1330 ?_
  refine nq_top (z := a2) (ea2.symm) ?_
  refine lv_aload_n hx hb dL_law_1331 rfl (lv_at hl 4 rfl) ?_
  refine lv_iload hx hb dL_law_1332 (lv_at hl 0 rfl) ?_
  refine lv_iconst (v := 3) hx hb dL_law_1334 (by decide) ?_
  refine lv_iadd hx hb dL_law_1335 ?_
  refine nq_top (z := 3) (by decide) ?_
  refine va_sld hx hb hX hbl hbA hS (i := 3) (nq_in (by decide)) dL_law_1336 ?_
  refine nq_top (z := a3) (ea3.symm) ?_
  refine nq_wri (wr := [(ou, .inl (y 1, 1, .inr (.inl (fun _ => 0))))]) (va_runV (As := [.int a1, .int a2, .int a3]) (rest := [.int (-1)]) ⟨hx, hb, hml, hown, hts⟩ (c_m_move l G y H.size m0 m_tree m_data m_made m_status m_tape m_paths m_pathSize m_set m_to m_lifted m_order m_past m_rowKind m_rowSteps m_rowPath m_rowWas m_rowIs m_pool m_rowsMany m_poolMany m_way m_out m_notedThing m_notedIs m_votes m_treeThen m_imageTree m_pastThen m_notedThingThen m_notedIsThen m_statusThen a1 a2 a3 ) (cwV 3 hts gv_X11_move_138 rfl rfl rfl (by decide +kernel) ⟨Nat.le_of_ble_eq_true rfl, Nat.le_of_ble_eq_true rfl⟩) (nq_PV hK hP hD [0, 1, 2] rfl rfl 0 rfl rfl) rfl rfl hl.1 rfl (lv_room (Nat.le_of_ble_eq_true rfl)) dL_law_1337 ⟨Nat.le_of_ble_eq_true rfl, Nat.le_of_ble_eq_true rfl⟩) hP hD hS hA [0, 1, 2] [3] rfl rfl (by decide) (by decide) (fun r_6 u_4 H locs hw_5 hP hD hS => ?_)
  have hP : va_P G vwCl [(ou, .inl (y 1, 1, .inr (.inl (fun _ => 0))))] H := hP
  have hD : va_D A [(ou, .inl (y 1, 1, .inr (.inl (fun _ => 0))))] := hD
  subst hw_5
  refine lv_icmp_eq (tgt := 1593) hx hb dL_law_1340 (by decide) (fun _ => ?_) (fun c_7 => absurd c_7 (by decide))
  refine lv_iinc (v := 6) (lv' := [(4, .int 6), (3, .ref ou), (2, .ref m0), (1, .ref x0), (0, .ref b)]) hx hb dL_law_1593 hl (k := 0) rfl (by decide) (by decide) rfl (fun ls hl => ?_)
  refine lv_goto (tgt := 23) hx hb dL_law_1596 (by decide) ?_
  refine lv_iload hx hb dL_law_23 (lv_at hl 0 rfl) ?_
  refine lv_aload_n hx hb dL_law_25 rfl (lv_at hl 4 rfl) ?_
  refine va_slen hx hb hX hbl hbA hS dL_law_26 ?_
  refine nq_top (z := 6) (by decide) ?_
  refine lv_bipush (v := 6) hx hb dL_law_27 (by decide) ?_
  refine lv_isub hx hb dL_law_29 ?_
  refine nq_top (z := 0) (by decide) ?_
  refine lv_icmp_gt (tgt := 1599) hx hb dL_law_30 (by decide) (fun _ => ?_) (fun c_8 => absurd c_8 (by decide))
  refine lv_iconst (v := 1) hx hb dL_law_1599 (by decide) ?_
  refine va_forget (fun q hq => by have h9 := hS.2.2 q hq; rw [hAe] at h9; exact h9) ?_
  refine W.widen (k := 600002) (n := 7302232) (Nat.le_of_ble_eq_true rfl) (Nat.le_of_ble_eq_true rfl) ?_
  exact lw_ret hx hb hr hlocks dL_law_1600

set_option maxHeartbeats 400000 in
set_option maxRecDepth 100000 in
theorem lc_19 {p : Program} {e : Env} {s : State} {m : MethodId} {below : List Frame} {meth : Method} {c : Code} {l : Launch} {b : Nat} {xs : Nat → Int32} {G : va_G} {y : Nat → ClassId} {A : Nat → Prop} (hl0 : l.stackTraces = false) (C0 : lw_At p s m meth c b 6 xs) (hAe : A = fun q : Nat => s.heap.size ≤ q) (hK : nq_K G y s) (hXs : nq_X A s) (x0 : Nat) (tp : Nat) (ps : Nat) (sp : Nat) (tk : Nat) (dr : Nat) (pr : Nat) (da : Nat) (nw : Nat) (im : Nat) (ac : Nat) (ke : Nat) (si : Nat) (tx : Nat) (an : Nat) (dw : Nat) (m0 : Nat) (m_tree : Nat) (m_data : Nat) (m_made : Nat) (m_status : Nat) (m_tape : Nat) (m_paths : Nat) (m_pathSize : Nat) (m_set : Nat) (m_to : Nat) (m_lifted : Nat) (m_order : Nat) (m_past : Nat) (m_rowKind : Nat) (m_rowSteps : Nat) (m_rowPath : Nat) (m_rowWas : Nat) (m_rowIs : Nat) (m_pool : Nat) (m_rowsMany : Nat) (m_poolMany : Nat) (m_way : Nat) (m_out : Nat) (m_notedThing : Nat) (m_notedIs : Nat) (m_votes : Nat) (m_treeThen : Nat) (m_imageTree : Nat) (m_pastThen : Nat) (m_notedThingThen : Nat) (m_notedIsThen : Nat) (m_statusThen : Nat) (ou : Nat) (H : Heap) (locs : List Loc) (ls : Array Slot) (hP : va_P G vwCl [(x0, .inr (10, [.ref tp, .int 0, .int (-1), .ref ps, .ref sp, .ref tk, .ref dr, .ref pr, .ref da, .ref nw, .ref im, .int 0, .ref ac, .ref ke, .ref si, .ref tx, .ref an, .ref dw])), (m0, .inr (11, [.int 0, .ref m_tree, .ref m_data, .ref m_made, .ref m_status, .int 0, .ref m_tape, .ref m_paths, .ref m_pathSize, .null, .int 0, .int 0, .int 0, .int 0, .int 0, .int 0, .int 0, .int 0, .int 0, .int 0, .int 0, .int (-1), .int 0, .ref m_set, .ref m_to, .int 0, .int 0, .int 0, .int 0, .int 0, .int 0, .ref m_lifted, .int 0, .int 0, .int 0, .ref m_order, .int 0, .ref m_past, .int 0, .ref m_rowKind, .ref m_rowSteps, .ref m_rowPath, .ref m_rowWas, .ref m_rowIs, .ref m_pool, .ref m_rowsMany, .ref m_poolMany, .ref m_way, .int 0, .ref m_out, .int 0, .int 0, .ref m_notedThing, .ref m_notedIs, .ref m_votes, .int 0, .int 0, .ref m_treeThen, .int 0, .int 0, .int 0, .ref m_imageTree, .ref m_pastThen, .ref m_notedThingThen, .ref m_notedIsThen, .ref m_statusThen])), (ou, .inl (y 1, 1, .inr (.inl (fun _ => 0))))] H) (hD : va_D A [(x0, .inr (10, [.ref tp, .int 0, .int (-1), .ref ps, .ref sp, .ref tk, .ref dr, .ref pr, .ref da, .ref nw, .ref im, .int 0, .ref ac, .ref ke, .ref si, .ref tx, .ref an, .ref dw])), (m0, .inr (11, [.int 0, .ref m_tree, .ref m_data, .ref m_made, .ref m_status, .int 0, .ref m_tape, .ref m_paths, .ref m_pathSize, .null, .int 0, .int 0, .int 0, .int 0, .int 0, .int 0, .int 0, .int 0, .int 0, .int 0, .int 0, .int (-1), .int 0, .ref m_set, .ref m_to, .int 0, .int 0, .int 0, .int 0, .int 0, .int 0, .ref m_lifted, .int 0, .int 0, .int 0, .ref m_order, .int 0, .ref m_past, .int 0, .ref m_rowKind, .ref m_rowSteps, .ref m_rowPath, .ref m_rowWas, .ref m_rowIs, .ref m_pool, .ref m_rowsMany, .ref m_poolMany, .ref m_way, .int 0, .ref m_out, .int 0, .int 0, .ref m_notedThing, .ref m_notedIs, .ref m_votes, .int 0, .int 0, .ref m_treeThen, .int 0, .int 0, .int 0, .ref m_imageTree, .ref m_pastThen, .ref m_notedThingThen, .ref m_notedIsThen, .ref m_statusThen])), (ou, .inl (y 1, 1, .inr (.inl (fun _ => 0))))]) (hS : va_S A s.heap H locs) (hl : lv_has ls 7 [(4, .int 0), (3, .ref ou), (2, .ref m0), (1, .ref x0), (0, .ref b)]) : W p l e room_1 s m #[Value.ref b] below meth c H locs 121 52808 (lw_Z below #[Value.ref b] s) (F0 m 1345 ls []) := by
  obtain ⟨hx, hb, hr, hml, hown, hts, hX, hbl, hlocks, hgv⟩ := C0
  have hA : ∀ q : Nat, s.heap.size ≤ q → A q := fun q h => by rw [hAe]; exact h
  have hbA : ¬ A b := by rw [hAe]; exact Nat.not_le.mpr hbl
  have hl : lv_has ls 7 [(4, .int 0), (3, .ref ou), (2, .ref m0), (1, .ref x0), (0, .ref b)] := hl
  obtain ⟨a1, ea1⟩ : ∃ z, z = xs 1 := ⟨_, rfl⟩
  obtain ⟨a2, ea2⟩ : ∃ z, z = xs 2 := ⟨_, rfl⟩
  obtain ⟨a3, ea3⟩ : ∃ z, z = xs 3 := ⟨_, rfl⟩
  obtain ⟨a4, ea4⟩ : ∃ z, z = xs 4 := ⟨_, rfl⟩
  obtain ⟨a5, ea5⟩ : ∃ z, z = xs 5 := ⟨_, rfl⟩
  refine lv_aload_n hx hb dL_law_1345 rfl (lv_at hl 3 rfl) ?_
  refine nq_rdi (va_runV (As := []) (rest := []) ⟨hx, hb, hml, hown, hts⟩ (c_keep l G y H.size x0 tp ps sp tk dr pr da nw im ac ke si tx an dw ) (cwV 0 hts gv_X10_keep_139 rfl rfl rfl (by decide +kernel) ⟨Nat.le_of_ble_eq_true rfl, Nat.le_of_ble_eq_true rfl⟩) (nq_PV hK hP hD [0] rfl rfl 0 rfl rfl) rfl rfl hl.1 rfl (lv_room (Nat.le_of_ble_eq_true rfl)) dL_law_1346 ⟨Nat.le_of_ble_eq_true rfl, Nat.le_of_ble_eq_true rfl⟩) hP hS hA (fun r_1 H locs hw_2 hP hS => ?_)
  subst hw_2
  refine lv_aload_n hx hb dL_law_1349 rfl (lv_at hl 2 rfl) ?_
  refine nq_wri (wr := [(x0, .inr (10, [.ref tp, .int 0, .int (-1), .ref ps, .ref sp, .ref tk, .ref dr, .ref pr, .ref da, .ref nw, .ref im, .int 0, .ref ac, .ref ke, .ref si, .ref tx, .ref an, .ref dw])), (ou, .inl (y 1, 1, .inr (.inl (fun _ => 0))))]) (va_runV (As := []) (rest := [.int (-1)]) ⟨hx, hb, hml, hown, hts⟩ (c_m_keep l G y H.size m0 m_tree m_data m_made m_status m_tape m_paths m_pathSize m_set m_to m_lifted m_order m_past m_rowKind m_rowSteps m_rowPath m_rowWas m_rowIs m_pool m_rowsMany m_poolMany m_way m_out m_notedThing m_notedIs m_votes m_treeThen m_imageTree m_pastThen m_notedThingThen m_notedIsThen m_statusThen ) (cwV 0 hts gv_X11_keep_142 rfl rfl rfl (by decide +kernel) ⟨Nat.le_of_ble_eq_true rfl, Nat.le_of_ble_eq_true rfl⟩) (nq_PV hK hP hD [1] rfl rfl 1 rfl rfl) rfl rfl hl.1 rfl (lv_room (Nat.le_of_ble_eq_true rfl)) dL_law_1350 ⟨Nat.le_of_ble_eq_true rfl, Nat.le_of_ble_eq_true rfl⟩) hP hD hS hA [1] [0, 2] rfl rfl (by decide) (by decide) (fun r_5 u_3 H locs hw_4 hP hD hS => ?_)
  have hP : va_P G vwCl [(x0, .inr (10, [.ref tp, .int 0, .int (-1), .ref ps, .ref sp, .ref tk, .ref dr, .ref pr, .ref da, .ref nw, .ref im, .int 0, .ref ac, .ref ke, .ref si, .ref tx, .ref an, .ref dw])), (ou, .inl (y 1, 1, .inr (.inl (fun _ => 0))))] H := hP
  have hD : va_D A [(x0, .inr (10, [.ref tp, .int 0, .int (-1), .ref ps, .ref sp, .ref tk, .ref dr, .ref pr, .ref da, .ref nw, .ref im, .int 0, .ref ac, .ref ke, .ref si, .ref tx, .ref an, .ref dw])), (ou, .inl (y 1, 1, .inr (.inl (fun _ => 0))))] := hD
  subst hw_4
  refine lv_icmp_eq (tgt := 1593) hx hb dL_law_1353 (by decide) (fun _ => ?_) (fun c_6 => absurd c_6 (by decide))
  refine lv_iinc (v := 6) (lv' := [(4, .int 6), (3, .ref ou), (2, .ref m0), (1, .ref x0), (0, .ref b)]) hx hb dL_law_1593 hl (k := 0) rfl (by decide) (by decide) rfl (fun ls hl => ?_)
  refine lv_goto (tgt := 23) hx hb dL_law_1596 (by decide) ?_
  refine lv_iload hx hb dL_law_23 (lv_at hl 0 rfl) ?_
  refine lv_aload_n hx hb dL_law_25 rfl (lv_at hl 4 rfl) ?_
  refine va_slen hx hb hX hbl hbA hS dL_law_26 ?_
  refine nq_top (z := 6) (by decide) ?_
  refine lv_bipush (v := 6) hx hb dL_law_27 (by decide) ?_
  refine lv_isub hx hb dL_law_29 ?_
  refine nq_top (z := 0) (by decide) ?_
  refine lv_icmp_gt (tgt := 1599) hx hb dL_law_30 (by decide) (fun _ => ?_) (fun c_7 => absurd c_7 (by decide))
  refine lv_iconst (v := 1) hx hb dL_law_1599 (by decide) ?_
  refine va_forget (fun q hq => by have h9 := hS.2.2 q hq; rw [hAe] at h9; exact h9) ?_
  refine W.widen (k := 600002) (n := 7302232) (Nat.le_of_ble_eq_true rfl) (Nat.le_of_ble_eq_true rfl) ?_
  exact lw_ret hx hb hr hlocks dL_law_1600

set_option maxHeartbeats 400000 in
set_option maxRecDepth 100000 in
theorem lc_20 {p : Program} {e : Env} {s : State} {m : MethodId} {below : List Frame} {meth : Method} {c : Code} {l : Launch} {b : Nat} {xs : Nat → Int32} {G : va_G} {y : Nat → ClassId} {A : Nat → Prop} (hl0 : l.stackTraces = false) (C0 : lw_At p s m meth c b 6 xs) (hAe : A = fun q : Nat => s.heap.size ≤ q) (hK : nq_K G y s) (hXs : nq_X A s) (x0 : Nat) (tp : Nat) (ps : Nat) (sp : Nat) (tk : Nat) (dr : Nat) (pr : Nat) (da : Nat) (nw : Nat) (im : Nat) (ac : Nat) (ke : Nat) (si : Nat) (tx : Nat) (an : Nat) (dw : Nat) (ac1 : Nat) (ac2 : Nat) (ac3 : Nat) (ke1 : Nat) (ke2 : Nat) (ke3 : Nat) (ke4 : Nat) (nwt : Nat) (nwb : Nat) (nwn : Nat) (nwi : Nat) (nwr : Nat) (m0 : Nat) (m_tree : Nat) (m_data : Nat) (m_made : Nat) (m_status : Nat) (m_tape : Nat) (m_paths : Nat) (m_pathSize : Nat) (m_set : Nat) (m_to : Nat) (m_lifted : Nat) (m_order : Nat) (m_past : Nat) (m_rowKind : Nat) (m_rowSteps : Nat) (m_rowPath : Nat) (m_rowWas : Nat) (m_rowIs : Nat) (m_pool : Nat) (m_rowsMany : Nat) (m_poolMany : Nat) (m_way : Nat) (m_out : Nat) (m_notedThing : Nat) (m_notedIs : Nat) (m_votes : Nat) (m_treeThen : Nat) (m_imageTree : Nat) (m_pastThen : Nat) (m_notedThingThen : Nat) (m_notedIsThen : Nat) (m_statusThen : Nat) (ou : Nat) (H : Heap) (locs : List Loc) (ls : Array Slot) (hP : va_P G vwCl [(x0, .inr (10, [.ref tp, .int 0, .int (-1), .ref ps, .ref sp, .ref tk, .ref dr, .ref pr, .ref da, .ref nw, .ref im, .int 0, .ref ac, .ref ke, .ref si, .ref tx, .ref an, .ref dw])), (ac, .inr (0, [.ref nw, .ref ac1, .ref ac2, .ref ac3])), (ke, .inr (3, [.ref ke1, .ref ke2, .ref ke3, .ref ke4, .int 0])), (nw, .inr (6, [.ref nwt, .ref nwb, .int 0, .ref nwn, .ref nwi, .int 0, .ref nwr])), (nwr, .inl (y 0, 3, .inl (fun _ => 0))), (m0, .inr (11, [.int 0, .ref m_tree, .ref m_data, .ref m_made, .ref m_status, .int 0, .ref m_tape, .ref m_paths, .ref m_pathSize, .null, .int 0, .int 0, .int 0, .int 0, .int 0, .int 0, .int 0, .int 0, .int 0, .int 0, .int 0, .int (-1), .int 0, .ref m_set, .ref m_to, .int 0, .int 0, .int 0, .int 0, .int 0, .int 0, .ref m_lifted, .int 0, .int 0, .int 0, .ref m_order, .int 0, .ref m_past, .int 0, .ref m_rowKind, .ref m_rowSteps, .ref m_rowPath, .ref m_rowWas, .ref m_rowIs, .ref m_pool, .ref m_rowsMany, .ref m_poolMany, .ref m_way, .int 0, .ref m_out, .int 0, .int 0, .ref m_notedThing, .ref m_notedIs, .ref m_votes, .int 0, .int 0, .ref m_treeThen, .int 0, .int 0, .int 0, .ref m_imageTree, .ref m_pastThen, .ref m_notedThingThen, .ref m_notedIsThen, .ref m_statusThen])), (m_rowsMany, .inl (y 0, 2, .inl (fun _ => 0))), (m_status, .inl (y 0, 3, .inl (fun _ => 0))), (ou, .inl (y 1, 1, .inr (.inl (fun _ => 0))))] H) (hD : va_D A [(x0, .inr (10, [.ref tp, .int 0, .int (-1), .ref ps, .ref sp, .ref tk, .ref dr, .ref pr, .ref da, .ref nw, .ref im, .int 0, .ref ac, .ref ke, .ref si, .ref tx, .ref an, .ref dw])), (ac, .inr (0, [.ref nw, .ref ac1, .ref ac2, .ref ac3])), (ke, .inr (3, [.ref ke1, .ref ke2, .ref ke3, .ref ke4, .int 0])), (nw, .inr (6, [.ref nwt, .ref nwb, .int 0, .ref nwn, .ref nwi, .int 0, .ref nwr])), (nwr, .inl (y 0, 3, .inl (fun _ => 0))), (m0, .inr (11, [.int 0, .ref m_tree, .ref m_data, .ref m_made, .ref m_status, .int 0, .ref m_tape, .ref m_paths, .ref m_pathSize, .null, .int 0, .int 0, .int 0, .int 0, .int 0, .int 0, .int 0, .int 0, .int 0, .int 0, .int 0, .int (-1), .int 0, .ref m_set, .ref m_to, .int 0, .int 0, .int 0, .int 0, .int 0, .int 0, .ref m_lifted, .int 0, .int 0, .int 0, .ref m_order, .int 0, .ref m_past, .int 0, .ref m_rowKind, .ref m_rowSteps, .ref m_rowPath, .ref m_rowWas, .ref m_rowIs, .ref m_pool, .ref m_rowsMany, .ref m_poolMany, .ref m_way, .int 0, .ref m_out, .int 0, .int 0, .ref m_notedThing, .ref m_notedIs, .ref m_votes, .int 0, .int 0, .ref m_treeThen, .int 0, .int 0, .int 0, .ref m_imageTree, .ref m_pastThen, .ref m_notedThingThen, .ref m_notedIsThen, .ref m_statusThen])), (m_rowsMany, .inl (y 0, 2, .inl (fun _ => 0))), (m_status, .inl (y 0, 3, .inl (fun _ => 0))), (ou, .inl (y 1, 1, .inr (.inl (fun _ => 0))))]) (hS : va_S A s.heap H locs) (hl : lv_has ls 7 [(4, .int 0), (3, .ref ou), (2, .ref m0), (1, .ref x0), (0, .ref b)]) : W p l e room_1 s m #[Value.ref b] below meth c H locs 121 52808 (lw_Z below #[Value.ref b] s) (F0 m 1358 ls []) := by
  obtain ⟨hx, hb, hr, hml, hown, hts, hX, hbl, hlocks, hgv⟩ := C0
  have hA : ∀ q : Nat, s.heap.size ≤ q → A q := fun q h => by rw [hAe]; exact h
  have hbA : ¬ A b := by rw [hAe]; exact Nat.not_le.mpr hbl
  have hl : lv_has ls 7 [(4, .int 0), (3, .ref ou), (2, .ref m0), (1, .ref x0), (0, .ref b)] := hl
  obtain ⟨a1, ea1⟩ : ∃ z, z = xs 1 := ⟨_, rfl⟩
  obtain ⟨a2, ea2⟩ : ∃ z, z = xs 2 := ⟨_, rfl⟩
  obtain ⟨a3, ea3⟩ : ∃ z, z = xs 3 := ⟨_, rfl⟩
  obtain ⟨a4, ea4⟩ : ∃ z, z = xs 4 := ⟨_, rfl⟩
  obtain ⟨a5, ea5⟩ : ∃ z, z = xs 5 := ⟨_, rfl⟩
  refine lv_aload_n hx hb dL_law_1358 rfl (lv_at hl 3 rfl) ?_
  refine lv_aload_n hx hb dL_law_1359 rfl (lv_at hl 4 rfl) ?_
  refine lv_iload hx hb dL_law_1360 (lv_at hl 0 rfl) ?_
  refine lv_iconst (v := 1) hx hb dL_law_1362 (by decide) ?_
  refine lv_iadd hx hb dL_law_1363 ?_
  refine nq_top (z := 1) (by decide) ?_
  refine va_sld hx hb hX hbl hbA hS (i := 1) (nq_in (by decide)) dL_law_1364 ?_
  refine nq_top (z := a1) (ea1.symm) ?_
  refine lv_if_eq (tgt := 1372) hx hb dL_law_1365 (by decide) (fun c_1 => ?_) (fun c_1 => ?_)
  · subst c_1
    refine lv_iconst (v := 0) hx hb dL_law_1372 (by decide) ?_
    refine nq_wri (wr := [(m0, .inr (11, [.int 0, .ref m_tree, .ref m_data, .ref m_made, .ref m_status, .int 0, .ref m_tape, .ref m_paths, .ref m_pathSize, .null, .int 0, .int 0, .int 0, .int 0, .int 0, .int 0, .int 0, .int 0, .int 0, .int 0, .int 0, .int (-1), .int 0, .ref m_set, .ref m_to, .int 0, .int 0, .int 0, .int 0, .int 0, .int 0, .ref m_lifted, .int 0, .int 0, .int 0, .ref m_order, .int 0, .ref m_past, .int 0, .ref m_rowKind, .ref m_rowSteps, .ref m_rowPath, .ref m_rowWas, .ref m_rowIs, .ref m_pool, .ref m_rowsMany, .ref m_poolMany, .ref m_way, .int 0, .ref m_out, .int 0, .int 0, .ref m_notedThing, .ref m_notedIs, .ref m_votes, .int 0, .int 0, .ref m_treeThen, .int 0, .int 0, .int 0, .ref m_imageTree, .ref m_pastThen, .ref m_notedThingThen, .ref m_notedIsThen, .ref m_statusThen])), (m_rowsMany, .inl (y 0, 2, .inl (fun _ => 0))), (m_status, .inl (y 0, 3, .inl (fun _ => 0))), (ou, .inl (y 1, 1, .inr (.inl (fun _ => 0))))]) (va_runV (As := [.int 0]) (rest := []) ⟨hx, hb, hml, hown, hts⟩ (c_apply l G y H.size x0 tp ps sp tk dr pr da nw im ac ke si tx an dw ac1 ac2 ac3 ke1 ke2 ke3 ke4 nwt nwb nwn nwi nwr 0 ) (cwV 1 hts gv_X10_apply_143 rfl rfl rfl (by decide +kernel) ⟨Nat.le_of_ble_eq_true rfl, Nat.le_of_ble_eq_true rfl⟩) (nq_PV hK hP hD [0, 1, 2, 3, 4] rfl rfl 0 rfl rfl) rfl rfl hl.1 rfl (lv_room (Nat.le_of_ble_eq_true rfl)) dL_law_1373 ⟨Nat.le_of_ble_eq_true rfl, Nat.le_of_ble_eq_true rfl⟩) hP hD hS hA [0, 1, 2, 3, 4] [5, 6, 7, 8] rfl rfl (by decide) (by decide) (fun r_4 u_2 H locs hw_3 hP hD hS => ?_)
    have hP : va_P G vwCl [(m0, .inr (11, [.int 0, .ref m_tree, .ref m_data, .ref m_made, .ref m_status, .int 0, .ref m_tape, .ref m_paths, .ref m_pathSize, .null, .int 0, .int 0, .int 0, .int 0, .int 0, .int 0, .int 0, .int 0, .int 0, .int 0, .int 0, .int (-1), .int 0, .ref m_set, .ref m_to, .int 0, .int 0, .int 0, .int 0, .int 0, .int 0, .ref m_lifted, .int 0, .int 0, .int 0, .ref m_order, .int 0, .ref m_past, .int 0, .ref m_rowKind, .ref m_rowSteps, .ref m_rowPath, .ref m_rowWas, .ref m_rowIs, .ref m_pool, .ref m_rowsMany, .ref m_poolMany, .ref m_way, .int 0, .ref m_out, .int 0, .int 0, .ref m_notedThing, .ref m_notedIs, .ref m_votes, .int 0, .int 0, .ref m_treeThen, .int 0, .int 0, .int 0, .ref m_imageTree, .ref m_pastThen, .ref m_notedThingThen, .ref m_notedIsThen, .ref m_statusThen])), (m_rowsMany, .inl (y 0, 2, .inl (fun _ => 0))), (m_status, .inl (y 0, 3, .inl (fun _ => 0))), (ou, .inl (y 1, 1, .inr (.inl (fun _ => 0))))] H := hP
    have hD : va_D A [(m0, .inr (11, [.int 0, .ref m_tree, .ref m_data, .ref m_made, .ref m_status, .int 0, .ref m_tape, .ref m_paths, .ref m_pathSize, .null, .int 0, .int 0, .int 0, .int 0, .int 0, .int 0, .int 0, .int 0, .int 0, .int 0, .int 0, .int (-1), .int 0, .ref m_set, .ref m_to, .int 0, .int 0, .int 0, .int 0, .int 0, .int 0, .ref m_lifted, .int 0, .int 0, .int 0, .ref m_order, .int 0, .ref m_past, .int 0, .ref m_rowKind, .ref m_rowSteps, .ref m_rowPath, .ref m_rowWas, .ref m_rowIs, .ref m_pool, .ref m_rowsMany, .ref m_poolMany, .ref m_way, .int 0, .ref m_out, .int 0, .int 0, .ref m_notedThing, .ref m_notedIs, .ref m_votes, .int 0, .int 0, .ref m_treeThen, .int 0, .int 0, .int 0, .ref m_imageTree, .ref m_pastThen, .ref m_notedThingThen, .ref m_notedIsThen, .ref m_statusThen])), (m_rowsMany, .inl (y 0, 2, .inl (fun _ => 0))), (m_status, .inl (y 0, 3, .inl (fun _ => 0))), (ou, .inl (y 1, 1, .inr (.inl (fun _ => 0))))] := hD
    subst hw_3
    refine lv_aload_n hx hb dL_law_1376 rfl (lv_at hl 2 rfl) ?_
    refine lv_aload_n hx hb dL_law_1377 rfl (lv_at hl 4 rfl) ?_
    refine lv_iload hx hb dL_law_1378 (lv_at hl 0 rfl) ?_
    refine lv_iconst (v := 1) hx hb dL_law_1380 (by decide) ?_
    refine lv_iadd hx hb dL_law_1381 ?_
    refine nq_top (z := 1) (by decide) ?_
    refine va_sld hx hb hX hbl hbA hS (i := 1) (nq_in (by decide)) dL_law_1382 ?_
    refine nq_top (z := 0) (ea1.symm) ?_
    refine lv_if_eq (tgt := 1390) hx hb dL_law_1383 (by decide) (fun _ => ?_) (fun c_5 => absurd c_5 (by decide))
    refine lv_iconst (v := 0) hx hb dL_law_1390 (by decide) ?_
    refine nq_wri (wr := [(ou, .inl (y 1, 1, .inr (.inl (fun _ => 0))))]) (va_runV (As := [.int 0]) (rest := [.int (-1)]) ⟨hx, hb, hml, hown, hts⟩ (c_m_apply l G y H.size m0 m_tree m_data m_made m_status m_tape m_paths m_pathSize m_set m_to m_lifted m_order m_past m_rowKind m_rowSteps m_rowPath m_rowWas m_rowIs m_pool m_rowsMany m_poolMany m_way m_out m_notedThing m_notedIs m_votes m_treeThen m_imageTree m_pastThen m_notedThingThen m_notedIsThen m_statusThen 0 ) (cwV 1 hts gv_X11_apply_147 rfl rfl rfl (by decide +kernel) ⟨Nat.le_of_ble_eq_true rfl, Nat.le_of_ble_eq_true rfl⟩) (nq_PV hK hP hD [0, 1, 2] rfl rfl 0 rfl rfl) rfl rfl hl.1 rfl (lv_room (Nat.le_of_ble_eq_true rfl)) dL_law_1391 ⟨Nat.le_of_ble_eq_true rfl, Nat.le_of_ble_eq_true rfl⟩) hP hD hS hA [0, 1, 2] [3] rfl rfl (by decide) (by decide) (fun r_8 u_6 H locs hw_7 hP hD hS => ?_)
    have hP : va_P G vwCl [(ou, .inl (y 1, 1, .inr (.inl (fun _ => 0))))] H := hP
    have hD : va_D A [(ou, .inl (y 1, 1, .inr (.inl (fun _ => 0))))] := hD
    subst hw_7
    refine lv_icmp_eq (tgt := 1593) hx hb dL_law_1394 (by decide) (fun _ => ?_) (fun c_9 => absurd c_9 (by decide))
    refine lv_iinc (v := 6) (lv' := [(4, .int 6), (3, .ref ou), (2, .ref m0), (1, .ref x0), (0, .ref b)]) hx hb dL_law_1593 hl (k := 0) rfl (by decide) (by decide) rfl (fun ls hl => ?_)
    refine lv_goto (tgt := 23) hx hb dL_law_1596 (by decide) ?_
    refine lv_iload hx hb dL_law_23 (lv_at hl 0 rfl) ?_
    refine lv_aload_n hx hb dL_law_25 rfl (lv_at hl 4 rfl) ?_
    refine va_slen hx hb hX hbl hbA hS dL_law_26 ?_
    refine nq_top (z := 6) (by decide) ?_
    refine lv_bipush (v := 6) hx hb dL_law_27 (by decide) ?_
    refine lv_isub hx hb dL_law_29 ?_
    refine nq_top (z := 0) (by decide) ?_
    refine lv_icmp_gt (tgt := 1599) hx hb dL_law_30 (by decide) (fun _ => ?_) (fun c_10 => absurd c_10 (by decide))
    refine lv_iconst (v := 1) hx hb dL_law_1599 (by decide) ?_
    refine va_forget (fun q hq => by have h9 := hS.2.2 q hq; rw [hAe] at h9; exact h9) ?_
    refine W.widen (k := 600002) (n := 7302232) (Nat.le_of_ble_eq_true rfl) (Nat.le_of_ble_eq_true rfl) ?_
    exact lw_ret hx hb hr hlocks dL_law_1600
  · refine lv_iconst (v := 1) hx hb dL_law_1368 (by decide) ?_
    refine lv_goto (tgt := 1373) hx hb dL_law_1369 (by decide) ?_
    refine nq_wri (wr := [(m0, .inr (11, [.int 0, .ref m_tree, .ref m_data, .ref m_made, .ref m_status, .int 0, .ref m_tape, .ref m_paths, .ref m_pathSize, .null, .int 0, .int 0, .int 0, .int 0, .int 0, .int 0, .int 0, .int 0, .int 0, .int 0, .int 0, .int (-1), .int 0, .ref m_set, .ref m_to, .int 0, .int 0, .int 0, .int 0, .int 0, .int 0, .ref m_lifted, .int 0, .int 0, .int 0, .ref m_order, .int 0, .ref m_past, .int 0, .ref m_rowKind, .ref m_rowSteps, .ref m_rowPath, .ref m_rowWas, .ref m_rowIs, .ref m_pool, .ref m_rowsMany, .ref m_poolMany, .ref m_way, .int 0, .ref m_out, .int 0, .int 0, .ref m_notedThing, .ref m_notedIs, .ref m_votes, .int 0, .int 0, .ref m_treeThen, .int 0, .int 0, .int 0, .ref m_imageTree, .ref m_pastThen, .ref m_notedThingThen, .ref m_notedIsThen, .ref m_statusThen])), (m_rowsMany, .inl (y 0, 2, .inl (fun _ => 0))), (m_status, .inl (y 0, 3, .inl (fun _ => 0))), (ou, .inl (y 1, 1, .inr (.inl (fun _ => 0))))]) (va_runV (As := [.int 1]) (rest := []) ⟨hx, hb, hml, hown, hts⟩ (c_apply l G y H.size x0 tp ps sp tk dr pr da nw im ac ke si tx an dw ac1 ac2 ac3 ke1 ke2 ke3 ke4 nwt nwb nwn nwi nwr 1 ) (cwV 1 hts gv_X10_apply_143 rfl rfl rfl (by decide +kernel) ⟨Nat.le_of_ble_eq_true rfl, Nat.le_of_ble_eq_true rfl⟩) (nq_PV hK hP hD [0, 1, 2, 3, 4] rfl rfl 0 rfl rfl) rfl rfl hl.1 rfl (lv_room (Nat.le_of_ble_eq_true rfl)) dL_law_1373 ⟨Nat.le_of_ble_eq_true rfl, Nat.le_of_ble_eq_true rfl⟩) hP hD hS hA [0, 1, 2, 3, 4] [5, 6, 7, 8] rfl rfl (by decide) (by decide) (fun r_13 u_11 H locs hw_12 hP hD hS => ?_)
    have hP : va_P G vwCl [(m0, .inr (11, [.int 0, .ref m_tree, .ref m_data, .ref m_made, .ref m_status, .int 0, .ref m_tape, .ref m_paths, .ref m_pathSize, .null, .int 0, .int 0, .int 0, .int 0, .int 0, .int 0, .int 0, .int 0, .int 0, .int 0, .int 0, .int (-1), .int 0, .ref m_set, .ref m_to, .int 0, .int 0, .int 0, .int 0, .int 0, .int 0, .ref m_lifted, .int 0, .int 0, .int 0, .ref m_order, .int 0, .ref m_past, .int 0, .ref m_rowKind, .ref m_rowSteps, .ref m_rowPath, .ref m_rowWas, .ref m_rowIs, .ref m_pool, .ref m_rowsMany, .ref m_poolMany, .ref m_way, .int 0, .ref m_out, .int 0, .int 0, .ref m_notedThing, .ref m_notedIs, .ref m_votes, .int 0, .int 0, .ref m_treeThen, .int 0, .int 0, .int 0, .ref m_imageTree, .ref m_pastThen, .ref m_notedThingThen, .ref m_notedIsThen, .ref m_statusThen])), (m_rowsMany, .inl (y 0, 2, .inl (fun _ => 0))), (m_status, .inl (y 0, 3, .inl (fun _ => 0))), (ou, .inl (y 1, 1, .inr (.inl (fun _ => 0))))] H := hP
    have hD : va_D A [(m0, .inr (11, [.int 0, .ref m_tree, .ref m_data, .ref m_made, .ref m_status, .int 0, .ref m_tape, .ref m_paths, .ref m_pathSize, .null, .int 0, .int 0, .int 0, .int 0, .int 0, .int 0, .int 0, .int 0, .int 0, .int 0, .int 0, .int (-1), .int 0, .ref m_set, .ref m_to, .int 0, .int 0, .int 0, .int 0, .int 0, .int 0, .ref m_lifted, .int 0, .int 0, .int 0, .ref m_order, .int 0, .ref m_past, .int 0, .ref m_rowKind, .ref m_rowSteps, .ref m_rowPath, .ref m_rowWas, .ref m_rowIs, .ref m_pool, .ref m_rowsMany, .ref m_poolMany, .ref m_way, .int 0, .ref m_out, .int 0, .int 0, .ref m_notedThing, .ref m_notedIs, .ref m_votes, .int 0, .int 0, .ref m_treeThen, .int 0, .int 0, .int 0, .ref m_imageTree, .ref m_pastThen, .ref m_notedThingThen, .ref m_notedIsThen, .ref m_statusThen])), (m_rowsMany, .inl (y 0, 2, .inl (fun _ => 0))), (m_status, .inl (y 0, 3, .inl (fun _ => 0))), (ou, .inl (y 1, 1, .inr (.inl (fun _ => 0))))] := hD
    subst hw_12
    refine lv_aload_n hx hb dL_law_1376 rfl (lv_at hl 2 rfl) ?_
    refine lv_aload_n hx hb dL_law_1377 rfl (lv_at hl 4 rfl) ?_
    refine lv_iload hx hb dL_law_1378 (lv_at hl 0 rfl) ?_
    refine lv_iconst (v := 1) hx hb dL_law_1380 (by decide) ?_
    refine lv_iadd hx hb dL_law_1381 ?_
    refine nq_top (z := 1) (by decide) ?_
    refine va_sld hx hb hX hbl hbA hS (i := 1) (nq_in (by decide)) dL_law_1382 ?_
    refine nq_top (z := a1) (ea1.symm) ?_
    refine lv_if_eq (tgt := 1390) hx hb dL_law_1383 (by decide) (fun c_14 => absurd c_14 (c_1)) (fun _ => ?_)
    refine lv_iconst (v := 1) hx hb dL_law_1386 (by decide) ?_
    refine lv_goto (tgt := 1391) hx hb dL_law_1387 (by decide) ?_
    refine nq_wri (wr := [(ou, .inl (y 1, 1, .inr (.inl (fun _ => 0))))]) (va_runV (As := [.int 1]) (rest := [.int (-1)]) ⟨hx, hb, hml, hown, hts⟩ (c_m_apply l G y H.size m0 m_tree m_data m_made m_status m_tape m_paths m_pathSize m_set m_to m_lifted m_order m_past m_rowKind m_rowSteps m_rowPath m_rowWas m_rowIs m_pool m_rowsMany m_poolMany m_way m_out m_notedThing m_notedIs m_votes m_treeThen m_imageTree m_pastThen m_notedThingThen m_notedIsThen m_statusThen 1 ) (cwV 1 hts gv_X11_apply_147 rfl rfl rfl (by decide +kernel) ⟨Nat.le_of_ble_eq_true rfl, Nat.le_of_ble_eq_true rfl⟩) (nq_PV hK hP hD [0, 1, 2] rfl rfl 0 rfl rfl) rfl rfl hl.1 rfl (lv_room (Nat.le_of_ble_eq_true rfl)) dL_law_1391 ⟨Nat.le_of_ble_eq_true rfl, Nat.le_of_ble_eq_true rfl⟩) hP hD hS hA [0, 1, 2] [3] rfl rfl (by decide) (by decide) (fun r_17 u_15 H locs hw_16 hP hD hS => ?_)
    have hP : va_P G vwCl [(ou, .inl (y 1, 1, .inr (.inl (fun _ => 0))))] H := hP
    have hD : va_D A [(ou, .inl (y 1, 1, .inr (.inl (fun _ => 0))))] := hD
    subst hw_16
    refine lv_icmp_eq (tgt := 1593) hx hb dL_law_1394 (by decide) (fun _ => ?_) (fun c_18 => absurd c_18 (by decide))
    refine lv_iinc (v := 6) (lv' := [(4, .int 6), (3, .ref ou), (2, .ref m0), (1, .ref x0), (0, .ref b)]) hx hb dL_law_1593 hl (k := 0) rfl (by decide) (by decide) rfl (fun ls hl => ?_)
    refine lv_goto (tgt := 23) hx hb dL_law_1596 (by decide) ?_
    refine lv_iload hx hb dL_law_23 (lv_at hl 0 rfl) ?_
    refine lv_aload_n hx hb dL_law_25 rfl (lv_at hl 4 rfl) ?_
    refine va_slen hx hb hX hbl hbA hS dL_law_26 ?_
    refine nq_top (z := 6) (by decide) ?_
    refine lv_bipush (v := 6) hx hb dL_law_27 (by decide) ?_
    refine lv_isub hx hb dL_law_29 ?_
    refine nq_top (z := 0) (by decide) ?_
    refine lv_icmp_gt (tgt := 1599) hx hb dL_law_30 (by decide) (fun _ => ?_) (fun c_19 => absurd c_19 (by decide))
    refine lv_iconst (v := 1) hx hb dL_law_1599 (by decide) ?_
    refine va_forget (fun q hq => by have h9 := hS.2.2 q hq; rw [hAe] at h9; exact h9) ?_
    refine W.widen (k := 600002) (n := 7302232) (Nat.le_of_ble_eq_true rfl) (Nat.le_of_ble_eq_true rfl) ?_
    exact lw_ret hx hb hr hlocks dL_law_1600
