abbrev mq_tree := @m_tree
set_option maxHeartbeats 400000 in
set_option maxRecDepth 100000 in
theorem lc_0 {p : Program} {e : Env} {s : State} {m : MethodId} {below : List Frame} {meth : Method} {c : Code} {l : Launch} {b : Nat} {xs : Nat → Int32} {G : va_G} {y : Nat → ClassId} {A : Nat → Prop} (hl0 : l.stackTraces = false) (C0 : lw_At p s m meth c b 6 xs) (hAe : A = fun q : Nat => s.heap.size ≤ q) (hK : nq_K G y s) (hXs : nq_X A s) (x0 : Nat) (tp : Nat) (ps : Nat) (sp : Nat) (tk : Nat) (dr : Nat) (pr : Nat) (da : Nat) (nw : Nat) (im : Nat) (ac : Nat) (ke : Nat) (si : Nat) (tx : Nat) (an : Nat) (dw : Nat) (m0 : Nat) (m_tree : Nat) (m_data : Nat) (m_made : Nat) (m_status : Nat) (m_tape : Nat) (m_paths : Nat) (m_pathSize : Nat) (m_set : Nat) (m_to : Nat) (m_lifted : Nat) (m_order : Nat) (m_past : Nat) (m_rowKind : Nat) (m_rowSteps : Nat) (m_rowPath : Nat) (m_rowWas : Nat) (m_rowIs : Nat) (m_pool : Nat) (m_rowsMany : Nat) (m_poolMany : Nat) (m_way : Nat) (m_out : Nat) (m_notedThing : Nat) (m_notedIs : Nat) (m_votes : Nat) (m_treeThen : Nat) (m_imageTree : Nat) (m_pastThen : Nat) (m_notedThingThen : Nat) (m_notedIsThen : Nat) (m_statusThen : Nat) (ou : Nat) (H : Heap) (locs : List Loc) (ls : Array Slot) (hP : va_P G vwCl [(x0, .inr (10, [.ref tp, .int 0, .int (-1), .ref ps, .ref sp, .ref tk, .ref dr, .ref pr, .ref da, .ref nw, .ref im, .int 0, .ref ac, .ref ke, .ref si, .ref tx, .ref an, .ref dw])), (tp, .inl (y 0, 400, .inl (fun _ => 0))), (m0, .inr (11, [.int 0, .ref m_tree, .ref m_data, .ref m_made, .ref m_status, .int 0, .ref m_tape, .ref m_paths, .ref m_pathSize, .null, .int 0, .int 0, .int 0, .int 0, .int 0, .int 0, .int 0, .int 0, .int 0, .int 0, .int 0, .int (-1), .int 0, .ref m_set, .ref m_to, .int 0, .int 0, .int 0, .int 0, .int 0, .int 0, .ref m_lifted, .int 0, .int 0, .int 0, .ref m_order, .int 0, .ref m_past, .int 0, .ref m_rowKind, .ref m_rowSteps, .ref m_rowPath, .ref m_rowWas, .ref m_rowIs, .ref m_pool, .ref m_rowsMany, .ref m_poolMany, .ref m_way, .int 0, .ref m_out, .int 0, .int 0, .ref m_notedThing, .ref m_notedIs, .ref m_votes, .int 0, .int 0, .ref m_treeThen, .int 0, .int 0, .int 0, .ref m_imageTree, .ref m_pastThen, .ref m_notedThingThen, .ref m_notedIsThen, .ref m_statusThen])), (m_tape, .inl (y 0, 400, .inl (fun _ => 0))), (ou, .inl (y 1, 1, .inr (.inl (fun _ => 0))))] H) (hD : va_D A [(x0, .inr (10, [.ref tp, .int 0, .int (-1), .ref ps, .ref sp, .ref tk, .ref dr, .ref pr, .ref da, .ref nw, .ref im, .int 0, .ref ac, .ref ke, .ref si, .ref tx, .ref an, .ref dw])), (tp, .inl (y 0, 400, .inl (fun _ => 0))), (m0, .inr (11, [.int 0, .ref m_tree, .ref m_data, .ref m_made, .ref m_status, .int 0, .ref m_tape, .ref m_paths, .ref m_pathSize, .null, .int 0, .int 0, .int 0, .int 0, .int 0, .int 0, .int 0, .int 0, .int 0, .int 0, .int 0, .int (-1), .int 0, .ref m_set, .ref m_to, .int 0, .int 0, .int 0, .int 0, .int 0, .int 0, .ref m_lifted, .int 0, .int 0, .int 0, .ref m_order, .int 0, .ref m_past, .int 0, .ref m_rowKind, .ref m_rowSteps, .ref m_rowPath, .ref m_rowWas, .ref m_rowIs, .ref m_pool, .ref m_rowsMany, .ref m_poolMany, .ref m_way, .int 0, .ref m_out, .int 0, .int 0, .ref m_notedThing, .ref m_notedIs, .ref m_votes, .int 0, .int 0, .ref m_treeThen, .int 0, .int 0, .int 0, .ref m_imageTree, .ref m_pastThen, .ref m_notedThingThen, .ref m_notedIsThen, .ref m_statusThen])), (m_tape, .inl (y 0, 400, .inl (fun _ => 0))), (ou, .inl (y 1, 1, .inr (.inl (fun _ => 0))))]) (hS : va_S A s.heap H locs) (hl : lv_has ls 7 [(4, .int 0), (3, .ref ou), (2, .ref m0), (1, .ref x0), (0, .ref b)]) : W p l e room_1 s m #[Value.ref b] below meth c H locs 121 52808 (lw_Z below #[Value.ref b] s) (F0 m 168 ls []) := by
  obtain ⟨hx, hb, hr, hml, hown, hts, hX, hbl, hlocks, hgv⟩ := C0
  have hA : ∀ q : Nat, s.heap.size ≤ q → A q := fun q h => by rw [hAe]; exact h
  have hbA : ¬ A b := by rw [hAe]; exact Nat.not_le.mpr hbl
  have hl : lv_has ls 7 [(4, .int 0), (3, .ref ou), (2, .ref m0), (1, .ref x0), (0, .ref b)] := hl
  obtain ⟨a1, ea1⟩ : ∃ z, z = xs 1 := ⟨_, rfl⟩
  obtain ⟨a2, ea2⟩ : ∃ z, z = xs 2 := ⟨_, rfl⟩
  obtain ⟨a3, ea3⟩ : ∃ z, z = xs 3 := ⟨_, rfl⟩
  obtain ⟨a4, ea4⟩ : ∃ z, z = xs 4 := ⟨_, rfl⟩
  obtain ⟨a5, ea5⟩ : ∃ z, z = xs 5 := ⟨_, rfl⟩
  refine lv_aload_n hx hb dL_law_168 rfl (lv_at hl 3 rfl) ?_
  refine lv_aload_n hx hb dL_law_169 rfl (lv_at hl 4 rfl) ?_
  refine lv_iload hx hb dL_law_170 (lv_at hl 0 rfl) ?_
  refine lv_iconst (v := 1) hx hb dL_law_172 (by decide) ?_
  refine lv_iadd hx hb dL_law_173 ?_
  refine nq_top (z := 1) (by decide) ?_
  refine va_sld hx hb hX hbl hbA hS (i := 1) (nq_in (by decide)) dL_law_174 ?_
  refine nq_top (z := a1) (ea1.symm) ?_
  refine lv_aload_n hx hb dL_law_175 rfl (lv_at hl 4 rfl) ?_
  refine lv_iload hx hb dL_law_176 (lv_at hl 0 rfl) ?_
  refine lv_iconst (v := 2) hx hb dL_law_178 (by decide) ?_
  refine lv_iadd hx hb dL_law_179 ?_
  refine nq_top (z := 2) (by decide) ?_
  refine va_sld hx hb hX hbl hbA hS (i := 2) (nq_in (by decide)) dL_law_180 ?_
  refine nq_top (z := a2) (ea2.symm) ?_
  refine lv_aload_n hx hb dL_law_181 rfl (lv_at hl 4 rfl) ?_
  refine lv_iload hx hb dL_law_182 (lv_at hl 0 rfl) ?_
  refine lv_iconst (v := 3) hx hb dL_law_184 (by decide) ?_
  refine lv_iadd hx hb dL_law_185 ?_
  refine nq_top (z := 3) (by decide) ?_
  refine va_sld hx hb hX hbl hbA hS (i := 3) (nq_in (by decide)) dL_law_186 ?_
  refine nq_top (z := a3) (ea3.symm) ?_
  refine lv_aload_n hx hb dL_law_187 rfl (lv_at hl 4 rfl) ?_
  refine lv_iload hx hb dL_law_188 (lv_at hl 0 rfl) ?_
  refine lv_iconst (v := 4) hx hb dL_law_190 (by decide) ?_
  refine lv_iadd hx hb dL_law_191 ?_
  refine nq_top (z := 4) (by decide) ?_
  refine va_sld hx hb hX hbl hbA hS (i := 4) (nq_in (by decide)) dL_law_192 ?_
  refine nq_top (z := a4) (ea4.symm) ?_
  refine lv_aload_n hx hb dL_law_193 rfl (lv_at hl 4 rfl) ?_
  refine lv_iload hx hb dL_law_194 (lv_at hl 0 rfl) ?_
  refine lv_iconst (v := 5) hx hb dL_law_196 (by decide) ?_
  refine lv_iadd hx hb dL_law_197 ?_
  refine nq_top (z := 5) (by decide) ?_
  refine va_sld hx hb hX hbl hbA hS (i := 5) (nq_in (by decide)) dL_law_198 ?_
  refine nq_top (z := a5) (ea5.symm) ?_
  refine nq_wri (wr := [(m0, .inr (11, [.int 0, .ref m_tree, .ref m_data, .ref m_made, .ref m_status, .int 0, .ref m_tape, .ref m_paths, .ref m_pathSize, .null, .int 0, .int 0, .int 0, .int 0, .int 0, .int 0, .int 0, .int 0, .int 0, .int 0, .int 0, .int (-1), .int 0, .ref m_set, .ref m_to, .int 0, .int 0, .int 0, .int 0, .int 0, .int 0, .ref m_lifted, .int 0, .int 0, .int 0, .ref m_order, .int 0, .ref m_past, .int 0, .ref m_rowKind, .ref m_rowSteps, .ref m_rowPath, .ref m_rowWas, .ref m_rowIs, .ref m_pool, .ref m_rowsMany, .ref m_poolMany, .ref m_way, .int 0, .ref m_out, .int 0, .int 0, .ref m_notedThing, .ref m_notedIs, .ref m_votes, .int 0, .int 0, .ref m_treeThen, .int 0, .int 0, .int 0, .ref m_imageTree, .ref m_pastThen, .ref m_notedThingThen, .ref m_notedIsThen, .ref m_statusThen])), (m_tape, .inl (y 0, 400, .inl (fun _ => 0))), (ou, .inl (y 1, 1, .inr (.inl (fun _ => 0))))]) (va_runV (As := [.int a1, .int a2, .int a3, .int a4, .int a5]) (rest := []) ⟨hx, hb, hml, hown, hts⟩ (c_feed l G y H.size x0 tp ps sp tk dr pr da nw im ac ke si tx an dw a1 a2 a3 a4 a5 ) (cwV 5 hts gv_X10_feed_66 rfl rfl rfl (by decide +kernel) ⟨Nat.le_of_ble_eq_true rfl, Nat.le_of_ble_eq_true rfl⟩) (nq_PV hK hP hD [0, 1] rfl rfl 0 rfl rfl) rfl rfl hl.1 rfl (lv_room (Nat.le_of_ble_eq_true rfl)) dL_law_199 ⟨Nat.le_of_ble_eq_true rfl, Nat.le_of_ble_eq_true rfl⟩) hP hD hS hA [0, 1] [2, 3, 4] rfl rfl (by decide) (by decide) (fun r_3 u_1 H locs hw_2 hP hD hS => ?_)
  have hP : va_P G vwCl [(m0, .inr (11, [.int 0, .ref m_tree, .ref m_data, .ref m_made, .ref m_status, .int 0, .ref m_tape, .ref m_paths, .ref m_pathSize, .null, .int 0, .int 0, .int 0, .int 0, .int 0, .int 0, .int 0, .int 0, .int 0, .int 0, .int 0, .int (-1), .int 0, .ref m_set, .ref m_to, .int 0, .int 0, .int 0, .int 0, .int 0, .int 0, .ref m_lifted, .int 0, .int 0, .int 0, .ref m_order, .int 0, .ref m_past, .int 0, .ref m_rowKind, .ref m_rowSteps, .ref m_rowPath, .ref m_rowWas, .ref m_rowIs, .ref m_pool, .ref m_rowsMany, .ref m_poolMany, .ref m_way, .int 0, .ref m_out, .int 0, .int 0, .ref m_notedThing, .ref m_notedIs, .ref m_votes, .int 0, .int 0, .ref m_treeThen, .int 0, .int 0, .int 0, .ref m_imageTree, .ref m_pastThen, .ref m_notedThingThen, .ref m_notedIsThen, .ref m_statusThen])), (m_tape, .inl (y 0, 400, .inl (fun _ => 0))), (ou, .inl (y 1, 1, .inr (.inl (fun _ => 0))))] H := hP
  have hD : va_D A [(m0, .inr (11, [.int 0, .ref m_tree, .ref m_data, .ref m_made, .ref m_status, .int 0, .ref m_tape, .ref m_paths, .ref m_pathSize, .null, .int 0, .int 0, .int 0, .int 0, .int 0, .int 0, .int 0, .int 0, .int 0, .int 0, .int 0, .int (-1), .int 0, .ref m_set, .ref m_to, .int 0, .int 0, .int 0, .int 0, .int 0, .int 0, .ref m_lifted, .int 0, .int 0, .int 0, .ref m_order, .int 0, .ref m_past, .int 0, .ref m_rowKind, .ref m_rowSteps, .ref m_rowPath, .ref m_rowWas, .ref m_rowIs, .ref m_pool, .ref m_rowsMany, .ref m_poolMany, .ref m_way, .int 0, .ref m_out, .int 0, .int 0, .ref m_notedThing, .ref m_notedIs, .ref m_votes, .int 0, .int 0, .ref m_treeThen, .int 0, .int 0, .int 0, .ref m_imageTree, .ref m_pastThen, .ref m_notedThingThen, .ref m_notedIsThen, .ref m_statusThen])), (m_tape, .inl (y 0, 400, .inl (fun _ => 0))), (ou, .inl (y 1, 1, .inr (.inl (fun _ => 0))))] := hD
  subst hw_2
  refine lv_aload_n hx hb dL_law_202 rfl (lv_at hl 2 rfl) ?_
  refine lv_aload_n hx hb dL_law_203 rfl (lv_at hl 4 rfl) ?_
  refine lv_iload hx hb dL_law_204 (lv_at hl 0 rfl) ?_
  refine lv_iconst (v := 1) hx hb dL_law_206 (by decide) ?_
  refine lv_iadd hx hb dL_law_207 ?_
  refine nq_top (z := 1) (by decide) ?_
  refine va_sld hx hb hX hbl hbA hS (i := 1) (nq_in (by decide)) dL_law_208 ?_
  refine nq_top (z := a1) (ea1.symm) ?_
  refine lv_aload_n hx hb dL_law_209 rfl (lv_at hl 4 rfl) ?_
  refine lv_iload hx hb dL_law_210 (lv_at hl 0 rfl) ?_
  refine lv_iconst (v := 2) hx hb dL_law_212 (by decide) ?_
  refine lv_iadd hx hb dL_law_213 ?_
  refine nq_top (z := 2) (by decide) ?_
  refine va_sld hx hb hX hbl hbA hS (i := 2) (nq_in (by decide)) dL_law_214 ?_
  refine nq_top (z := a2) (ea2.symm) ?_
  refine lv_aload_n hx hb dL_law_215 rfl (lv_at hl 4 rfl) ?_
  refine lv_iload hx hb dL_law_216 (lv_at hl 0 rfl) ?_
  refine lv_iconst (v := 3) hx hb dL_law_218 (by decide) ?_
  refine lv_iadd hx hb dL_law_219 ?_
  refine nq_top (z := 3) (by decide) ?_
  refine va_sld hx hb hX hbl hbA hS (i := 3) (nq_in (by decide)) dL_law_220 ?_
  refine nq_top (z := a3) (ea3.symm) ?_
  refine lv_aload_n hx hb dL_law_221 rfl (lv_at hl 4 rfl) ?_
  refine lv_iload hx hb dL_law_222 (lv_at hl 0 rfl) ?_
  refine lv_iconst (v := 4) hx hb dL_law_224 (by decide) ?_
  refine lv_iadd hx hb dL_law_225 ?_
  refine nq_top (z := 4) (by decide) ?_
  refine va_sld hx hb hX hbl hbA hS (i := 4) (nq_in (by decide)) dL_law_226 ?_
  refine nq_top (z := a4) (ea4.symm) ?_
  refine lv_aload_n hx hb dL_law_227 rfl (lv_at hl 4 rfl) ?_
  refine lv_iload hx hb dL_law_228 (lv_at hl 0 rfl) ?_
  refine lv_iconst (v := 5) hx hb dL_law_230 (by decide) ?_
  refine lv_iadd hx hb dL_law_231 ?_
  refine nq_top (z := 5) (by decide) ?_
  refine va_sld hx hb hX hbl hbA hS (i := 5) (nq_in (by decide)) dL_law_232 ?_
  refine nq_top (z := a5) (ea5.symm) ?_
  refine nq_wri (wr := [(ou, .inl (y 1, 1, .inr (.inl (fun _ => 0))))]) (va_runV (As := [.int a1, .int a2, .int a3, .int a4, .int a5]) (rest := [.int 20]) ⟨hx, hb, hml, hown, hts⟩ (m_feed l G y H.size m0 m_tree m_data m_made m_status m_tape m_paths m_pathSize m_set m_to m_lifted m_order m_past m_rowKind m_rowSteps m_rowPath m_rowWas m_rowIs m_pool m_rowsMany m_poolMany m_way m_out m_notedThing m_notedIs m_votes m_treeThen m_imageTree m_pastThen m_notedThingThen m_notedIsThen m_statusThen a1 a2 a3 a4 a5 ) (cwV 5 hts gv_X11_feed_70 rfl rfl rfl (by decide +kernel) ⟨Nat.le_of_ble_eq_true rfl, Nat.le_of_ble_eq_true rfl⟩) (nq_PV hK hP hD [0, 1] rfl rfl 0 rfl rfl) rfl rfl hl.1 rfl (lv_room (Nat.le_of_ble_eq_true rfl)) dL_law_233 ⟨Nat.le_of_ble_eq_true rfl, Nat.le_of_ble_eq_true rfl⟩) hP hD hS hA [0, 1] [2] rfl rfl (by decide) (by decide) (fun r_6 u_4 H locs hw_5 hP hD hS => ?_)
  have hP : va_P G vwCl [(ou, .inl (y 1, 1, .inr (.inl (fun _ => 0))))] H := hP
  have hD : va_D A [(ou, .inl (y 1, 1, .inr (.inl (fun _ => 0))))] := hD
  subst hw_5
  refine lv_icmp_eq (tgt := 1593) hx hb dL_law_236 (by decide) (fun _ => ?_) (fun c_7 => absurd c_7 (by decide))
  refine lv_iinc (v := 6) (lv' := [(4, .int 6), (3, .ref ou), (2, .ref m0), (1, .ref x0), (0, .ref b)]) hx hb dL_law_1593 hl (k := 0) rfl (by decide) (by decide) rfl (fun ls hl => ?_)
  refine lv_goto (tgt := 23) hx hb dL_law_1596 (by decide) ?_
  refine lv_iload hx hb dL_law_23 (lv_at hl 0 rfl) ?_
  refine lv_aload_n hx hb dL_law_25 rfl (lv_at hl 4 rfl) ?_
  refine va_slen hx hb hX hbl hbA hS dL_law_26 ?_
  refine nq_top (z := 6) (by decide) ?_
  refine lv_bipush (v := 6) hx hb dL_law_27 (by decide) ?_
  refine lv_isub hx hb dL_law_29 ?_
  refine nq_top (z := 0) (by decide) ?_
  refine lv_icmp_gt (tgt := 1599) hx hb dL_law_30 (by decide) (fun _ => ?_) (fun c_8 => absurd c_8 (by decide))
  refine lv_iconst (v := 1) hx hb dL_law_1599 (by decide) ?_
  refine va_forget (fun q hq => by have h9 := hS.2.2 q hq; rw [hAe] at h9; exact h9) ?_
  refine W.widen (k := 600002) (n := 7302232) (Nat.le_of_ble_eq_true rfl) (Nat.le_of_ble_eq_true rfl) ?_
  exact lw_ret hx hb hr hlocks dL_law_1600

set_option maxHeartbeats 400000 in
set_option maxRecDepth 100000 in
theorem lc_1 {p : Program} {e : Env} {s : State} {m : MethodId} {below : List Frame} {meth : Method} {c : Code} {l : Launch} {b : Nat} {xs : Nat → Int32} {G : va_G} {y : Nat → ClassId} {A : Nat → Prop} (hl0 : l.stackTraces = false) (C0 : lw_At p s m meth c b 6 xs) (hAe : A = fun q : Nat => s.heap.size ≤ q) (hK : nq_K G y s) (hXs : nq_X A s) (x0 : Nat) (tp : Nat) (ps : Nat) (sp : Nat) (tk : Nat) (dr : Nat) (pr : Nat) (da : Nat) (nw : Nat) (im : Nat) (ac : Nat) (ke : Nat) (si : Nat) (tx : Nat) (an : Nat) (dw : Nat) (tk1 : Nat) (tk2 : Nat) (tk3 : Nat) (tk4 : Nat) (dak : Nat) (dav : Nat) (dae : Nat) (dad : Nat) (nwt : Nat) (nwb : Nat) (nwn : Nat) (nwi : Nat) (nwr : Nat) (m0 : Nat) (m_tree : Nat) (m_data : Nat) (m_made : Nat) (m_status : Nat) (m_tape : Nat) (m_paths : Nat) (m_pathSize : Nat) (m_set : Nat) (m_to : Nat) (m_lifted : Nat) (m_order : Nat) (m_past : Nat) (m_rowKind : Nat) (m_rowSteps : Nat) (m_rowPath : Nat) (m_rowWas : Nat) (m_rowIs : Nat) (m_pool : Nat) (m_rowsMany : Nat) (m_poolMany : Nat) (m_way : Nat) (m_out : Nat) (m_notedThing : Nat) (m_notedIs : Nat) (m_votes : Nat) (m_treeThen : Nat) (m_imageTree : Nat) (m_pastThen : Nat) (m_notedThingThen : Nat) (m_notedIsThen : Nat) (m_statusThen : Nat) (ou : Nat) (H : Heap) (locs : List Loc) (ls : Array Slot) (hP : va_P G vwCl [(x0, .inr (10, [.ref tp, .int 0, .int (-1), .ref ps, .ref sp, .ref tk, .ref dr, .ref pr, .ref da, .ref nw, .ref im, .int 0, .ref ac, .ref ke, .ref si, .ref tx, .ref an, .ref dw])), (dr, .inr (1, [.ref tk])), (tk, .inr (8, [.ref tk1, .ref tk2, .ref tk3, .ref tk4, .int 0, .int 0, .int 0, .int 0, .int (-1)])), (tk1, .inl (y 0, 401, .inl (fun _ => 0))), (tk2, .inl (y 0, 401, .inl (fun _ => 0))), (tk3, .inl (y 0, 401, .inl (fun _ => 0))), (tk4, .inl (y 0, 401, .inl (fun _ => 0))), (tp, .inl (y 0, 400, .inl (fun _ => 0))), (da, .inr (9, [.ref dak, .ref dav, .ref dae, .ref dad, .int 0])), (nw, .inr (6, [.ref nwt, .ref nwb, .int 0, .ref nwn, .ref nwi, .int 0, .ref nwr])), (nwr, .inl (y 0, 3, .inl (fun _ => 0))), (m0, .inr (11, [.int 0, .ref m_tree, .ref m_data, .ref m_made, .ref m_status, .int 0, .ref m_tape, .ref m_paths, .ref m_pathSize, .null, .int 0, .int 0, .int 0, .int 0, .int 0, .int 0, .int 0, .int 0, .int 0, .int 0, .int 0, .int (-1), .int 0, .ref m_set, .ref m_to, .int 0, .int 0, .int 0, .int 0, .int 0, .int 0, .ref m_lifted, .int 0, .int 0, .int 0, .ref m_order, .int 0, .ref m_past, .int 0, .ref m_rowKind, .ref m_rowSteps, .ref m_rowPath, .ref m_rowWas, .ref m_rowIs, .ref m_pool, .ref m_rowsMany, .ref m_poolMany, .ref m_way, .int 0, .ref m_out, .int 0, .int 0, .ref m_notedThing, .ref m_notedIs, .ref m_votes, .int 0, .int 0, .ref m_treeThen, .int 0, .int 0, .int 0, .ref m_imageTree, .ref m_pastThen, .ref m_notedThingThen, .ref m_notedIsThen, .ref m_statusThen])), (m_status, .inl (y 0, 3, .inl (fun _ => 0))), (ou, .inl (y 1, 1, .inr (.inl (fun _ => 0))))] H) (hD : va_D A [(x0, .inr (10, [.ref tp, .int 0, .int (-1), .ref ps, .ref sp, .ref tk, .ref dr, .ref pr, .ref da, .ref nw, .ref im, .int 0, .ref ac, .ref ke, .ref si, .ref tx, .ref an, .ref dw])), (dr, .inr (1, [.ref tk])), (tk, .inr (8, [.ref tk1, .ref tk2, .ref tk3, .ref tk4, .int 0, .int 0, .int 0, .int 0, .int (-1)])), (tk1, .inl (y 0, 401, .inl (fun _ => 0))), (tk2, .inl (y 0, 401, .inl (fun _ => 0))), (tk3, .inl (y 0, 401, .inl (fun _ => 0))), (tk4, .inl (y 0, 401, .inl (fun _ => 0))), (tp, .inl (y 0, 400, .inl (fun _ => 0))), (da, .inr (9, [.ref dak, .ref dav, .ref dae, .ref dad, .int 0])), (nw, .inr (6, [.ref nwt, .ref nwb, .int 0, .ref nwn, .ref nwi, .int 0, .ref nwr])), (nwr, .inl (y 0, 3, .inl (fun _ => 0))), (m0, .inr (11, [.int 0, .ref m_tree, .ref m_data, .ref m_made, .ref m_status, .int 0, .ref m_tape, .ref m_paths, .ref m_pathSize, .null, .int 0, .int 0, .int 0, .int 0, .int 0, .int 0, .int 0, .int 0, .int 0, .int 0, .int 0, .int (-1), .int 0, .ref m_set, .ref m_to, .int 0, .int 0, .int 0, .int 0, .int 0, .int 0, .ref m_lifted, .int 0, .int 0, .int 0, .ref m_order, .int 0, .ref m_past, .int 0, .ref m_rowKind, .ref m_rowSteps, .ref m_rowPath, .ref m_rowWas, .ref m_rowIs, .ref m_pool, .ref m_rowsMany, .ref m_poolMany, .ref m_way, .int 0, .ref m_out, .int 0, .int 0, .ref m_notedThing, .ref m_notedIs, .ref m_votes, .int 0, .int 0, .ref m_treeThen, .int 0, .int 0, .int 0, .ref m_imageTree, .ref m_pastThen, .ref m_notedThingThen, .ref m_notedIsThen, .ref m_statusThen])), (m_status, .inl (y 0, 3, .inl (fun _ => 0))), (ou, .inl (y 1, 1, .inr (.inl (fun _ => 0))))]) (hS : va_S A s.heap H locs) (hl : lv_has ls 7 [(4, .int 0), (3, .ref ou), (2, .ref m0), (1, .ref x0), (0, .ref b)]) : W p l e room_1 s m #[Value.ref b] below meth c H locs 121 52808 (lw_Z below #[Value.ref b] s) (F0 m 241 ls []) := by
  obtain ⟨hx, hb, hr, hml, hown, hts, hX, hbl, hlocks, hgv⟩ := C0
  have hA : ∀ q : Nat, s.heap.size ≤ q → A q := fun q h => by rw [hAe]; exact h
  have hbA : ¬ A b := by rw [hAe]; exact Nat.not_le.mpr hbl
  have hl : lv_has ls 7 [(4, .int 0), (3, .ref ou), (2, .ref m0), (1, .ref x0), (0, .ref b)] := hl
  obtain ⟨a1, ea1⟩ : ∃ z, z = xs 1 := ⟨_, rfl⟩
  obtain ⟨a2, ea2⟩ : ∃ z, z = xs 2 := ⟨_, rfl⟩
  obtain ⟨a3, ea3⟩ : ∃ z, z = xs 3 := ⟨_, rfl⟩
  obtain ⟨a4, ea4⟩ : ∃ z, z = xs 4 := ⟨_, rfl⟩
  obtain ⟨a5, ea5⟩ : ∃ z, z = xs 5 := ⟨_, rfl⟩
  refine lv_aload_n hx hb dL_law_241 rfl (lv_at hl 3 rfl) ?_
  refine lv_aload_n hx hb dL_law_242 rfl (lv_at hl 4 rfl) ?_
  refine lv_iload hx hb dL_law_243 (lv_at hl 0 rfl) ?_
  refine lv_iconst (v := 1) hx hb dL_law_245 (by decide) ?_
  refine lv_iadd hx hb dL_law_246 ?_
  refine nq_top (z := 1) (by decide) ?_
  refine va_sld hx hb hX hbl hbA hS (i := 1) (nq_in (by decide)) dL_law_247 ?_
  refine nq_top (z := a1) (ea1.symm) ?_
  refine lv_aload_n hx hb dL_law_248 rfl (lv_at hl 1 rfl) ?_
  refine nq_wri (wr := [(m0, .inr (11, [.int 0, .ref m_tree, .ref m_data, .ref m_made, .ref m_status, .int 0, .ref m_tape, .ref m_paths, .ref m_pathSize, .null, .int 0, .int 0, .int 0, .int 0, .int 0, .int 0, .int 0, .int 0, .int 0, .int 0, .int 0, .int (-1), .int 0, .ref m_set, .ref m_to, .int 0, .int 0, .int 0, .int 0, .int 0, .int 0, .ref m_lifted, .int 0, .int 0, .int 0, .ref m_order, .int 0, .ref m_past, .int 0, .ref m_rowKind, .ref m_rowSteps, .ref m_rowPath, .ref m_rowWas, .ref m_rowIs, .ref m_pool, .ref m_rowsMany, .ref m_poolMany, .ref m_way, .int 0, .ref m_out, .int 0, .int 0, .ref m_notedThing, .ref m_notedIs, .ref m_votes, .int 0, .int 0, .ref m_treeThen, .int 0, .int 0, .int 0, .ref m_imageTree, .ref m_pastThen, .ref m_notedThingThen, .ref m_notedIsThen, .ref m_statusThen])), (m_status, .inl (y 0, 3, .inl (fun _ => 0)))]) (w1 := (fun (g9 : Nat → Int64) => [(ou, .inl (y 1, 1, .inr (.inl g9)))])) (vx_runSW (hh := [(0, 9, 12, 13)]) (As := [.ref x0, .int a1, .ref ou]) (rest := []) ⟨hx, hb, hml, hown, hts⟩ (w_tree l hl0 G y H.size x0 tp ps sp tk dr pr da nw im ac ke si tx an dw tk1 tk2 tk3 tk4 dak dav dae dad nwt nwb nwn nwi nwr a1 ou) (vx_cwSW 3 hts gv_L_tree_71 rfl rfl rfl (by decide +kernel) ⟨Nat.le_of_ble_eq_true rfl, Nat.le_of_ble_eq_true rfl⟩) (nq_PXS hK hP hD hS hA hXs [0, 1, 2, 3, 4, 5, 6, 7, 8, 9, 10, 13] rfl rfl) rfl rfl hl.1 rfl (lv_room (Nat.le_of_ble_eq_true rfl)) dL_law_249 ⟨Nat.le_of_ble_eq_true rfl, Nat.le_of_ble_eq_true rfl⟩) hP hD hS hA [0, 1, 2, 3, 4, 5, 6, 7, 8, 9, 10, 13] [11, 12] rfl rfl (by decide) (by decide) (fun r_1 g_3 H locs hw_2 hP hD hS => ?_)
  have hP : va_P G vwCl [(m0, .inr (11, [.int 0, .ref m_tree, .ref m_data, .ref m_made, .ref m_status, .int 0, .ref m_tape, .ref m_paths, .ref m_pathSize, .null, .int 0, .int 0, .int 0, .int 0, .int 0, .int 0, .int 0, .int 0, .int 0, .int 0, .int 0, .int (-1), .int 0, .ref m_set, .ref m_to, .int 0, .int 0, .int 0, .int 0, .int 0, .int 0, .ref m_lifted, .int 0, .int 0, .int 0, .ref m_order, .int 0, .ref m_past, .int 0, .ref m_rowKind, .ref m_rowSteps, .ref m_rowPath, .ref m_rowWas, .ref m_rowIs, .ref m_pool, .ref m_rowsMany, .ref m_poolMany, .ref m_way, .int 0, .ref m_out, .int 0, .int 0, .ref m_notedThing, .ref m_notedIs, .ref m_votes, .int 0, .int 0, .ref m_treeThen, .int 0, .int 0, .int 0, .ref m_imageTree, .ref m_pastThen, .ref m_notedThingThen, .ref m_notedIsThen, .ref m_statusThen])), (m_status, .inl (y 0, 3, .inl (fun _ => 0))), (ou, .inl (y 1, 1, .inr (.inl g_3)))] H := hP
  have hD : va_D A [(m0, .inr (11, [.int 0, .ref m_tree, .ref m_data, .ref m_made, .ref m_status, .int 0, .ref m_tape, .ref m_paths, .ref m_pathSize, .null, .int 0, .int 0, .int 0, .int 0, .int 0, .int 0, .int 0, .int 0, .int 0, .int 0, .int 0, .int (-1), .int 0, .ref m_set, .ref m_to, .int 0, .int 0, .int 0, .int 0, .int 0, .int 0, .ref m_lifted, .int 0, .int 0, .int 0, .ref m_order, .int 0, .ref m_past, .int 0, .ref m_rowKind, .ref m_rowSteps, .ref m_rowPath, .ref m_rowWas, .ref m_rowIs, .ref m_pool, .ref m_rowsMany, .ref m_poolMany, .ref m_way, .int 0, .ref m_out, .int 0, .int 0, .ref m_notedThing, .ref m_notedIs, .ref m_votes, .int 0, .int 0, .ref m_treeThen, .int 0, .int 0, .int 0, .ref m_imageTree, .ref m_pastThen, .ref m_notedThingThen, .ref m_notedIsThen, .ref m_statusThen])), (m_status, .inl (y 0, 3, .inl (fun _ => 0))), (ou, .inl (y 1, 1, .inr (.inl g_3)))] := hD
  refine lv_istore (lv' := [(5, .int r_1), (4, .int 0), (3, .ref ou), (2, .ref m0), (1, .ref x0), (0, .ref b)]) hx hb dL_law_252 hl (by decide) rfl (fun ls hl => ?_)
  refine lv_aload_n hx hb dL_law_254 rfl (lv_at hl 3 rfl) ?_
  refine lv_aload_n hx hb dL_law_255 rfl (lv_at hl 5 rfl) ?_
  refine lv_iload hx hb dL_law_256 (lv_at hl 1 rfl) ?_
  refine lv_iconst (v := 1) hx hb dL_law_258 (by decide) ?_
  refine lv_iadd hx hb dL_law_259 ?_
  refine nq_top (z := 1) (by decide) ?_
  refine va_sld hx hb hX hbl hbA hS (i := 1) (nq_in (by decide)) dL_law_260 ?_
  refine nq_top (z := a1) (ea1.symm) ?_
  refine nq_wri (wr := [(ou, .inl (y 1, 1, .inr (.inl g_3)))]) (va_runV (As := [.int a1]) (rest := []) ⟨hx, hb, hml, hown, hts⟩ (mq_tree l G y H.size m0 m_tree m_data m_made m_status m_tape m_paths m_pathSize m_set m_to m_lifted m_order m_past m_rowKind m_rowSteps m_rowPath m_rowWas m_rowIs m_pool m_rowsMany m_poolMany m_way m_out m_notedThing m_notedIs m_votes m_treeThen m_imageTree m_pastThen m_notedThingThen m_notedIsThen m_statusThen a1 ) (cwV 1 hts gv_X11_tree_76 rfl rfl rfl (by decide +kernel) ⟨Nat.le_of_ble_eq_true rfl, Nat.le_of_ble_eq_true rfl⟩) (nq_PV hK hP hD [0, 1] rfl rfl 0 rfl rfl) rfl rfl hl.1 rfl (lv_room (Nat.le_of_ble_eq_true rfl)) dL_law_261 ⟨Nat.le_of_ble_eq_true rfl, Nat.le_of_ble_eq_true rfl⟩) hP hD hS hA [0, 1] [2] rfl rfl (by decide) (by decide) (fun r_6 u_4 H locs hw_5 hP hD hS => ?_)
  have hP : va_P G vwCl [(ou, .inl (y 1, 1, .inr (.inl g_3))), (m0, .inr (11, u_4.2))] H := hP
  have hD : va_D A [(ou, .inl (y 1, 1, .inr (.inl g_3))), (m0, .inr (11, u_4.2))] := hD
  obtain ⟨hq_7, hq_8, hq_9⟩ := hw_5
  subst hq_9
  refine lv_istore (lv' := [(6, .int ((sp_tree a1).2)), (5, .int r_1), (4, .int 0), (3, .ref ou), (2, .ref m0), (1, .ref x0), (0, .ref b)]) hx hb dL_law_264 hl (by decide) rfl (fun ls hl => ?_)
  refine lv_aload_n hx hb dL_law_266 rfl (lv_at hl 4 rfl) ?_
  refine nq_rdi (va_runV (As := []) (rest := []) ⟨hx, hb, hml, hown, hts⟩ (m_thrown l G y H.size m0 u_4 hq_7) (cwV 0 hts gv_X11_thrown_77 rfl rfl rfl (by decide +kernel) ⟨Nat.le_of_ble_eq_true rfl, Nat.le_of_ble_eq_true rfl⟩) (nq_PV hK hP hD [1] rfl rfl 1 rfl rfl) rfl rfl hl.1 rfl (lv_room (Nat.le_of_ble_eq_true rfl)) dL_law_267 ⟨Nat.le_of_ble_eq_true rfl, Nat.le_of_ble_eq_true rfl⟩) hP hS hA (fun r_10 H locs hw_11 hP hS => ?_)
  subst hw_11
  refine lv_iload hx hb dL_law_270 (lv_at hl 1 rfl) ?_
  refine lv_icmp_eq (tgt := 277) hx hb dL_law_272 (by decide) (fun _ => ?_) (fun c_12 => absurd (hq_8.trans hw_2.1.symm) c_12)
  refine lv_iload hx hb dL_law_277 (lv_at hl 1 rfl) ?_
  refine lv_if_ne (tgt := 294) hx hb dL_law_279 (by decide) (fun c_13 => ?_) (fun c_13 => ?_)
  · refine lv_goto (tgt := 1593) hx hb dL_law_294 (by decide) ?_
    refine lv_iinc (v := 6) (lv' := [(4, .int 6), (6, .int ((sp_tree a1).2)), (5, .int r_1), (3, .ref ou), (2, .ref m0), (1, .ref x0), (0, .ref b)]) hx hb dL_law_1593 hl (k := 2) rfl (by decide) (by decide) rfl (fun ls hl => ?_)
    refine lv_goto (tgt := 23) hx hb dL_law_1596 (by decide) ?_
    refine lv_iload hx hb dL_law_23 (lv_at hl 0 rfl) ?_
    refine lv_aload_n hx hb dL_law_25 rfl (lv_at hl 6 rfl) ?_
    refine va_slen hx hb hX hbl hbA hS dL_law_26 ?_
    refine nq_top (z := 6) (by decide) ?_
    refine lv_bipush (v := 6) hx hb dL_law_27 (by decide) ?_
    refine lv_isub hx hb dL_law_29 ?_
    refine nq_top (z := 0) (by decide) ?_
    refine lv_icmp_gt (tgt := 1599) hx hb dL_law_30 (by decide) (fun _ => ?_) (fun c_14 => absurd c_14 (by decide))
    refine lv_iconst (v := 1) hx hb dL_law_1599 (by decide) ?_
    refine va_forget (fun q hq => by have h9 := hS.2.2 q hq; rw [hAe] at h9; exact h9) ?_
    refine W.widen (k := 600002) (n := 7302232) (Nat.le_of_ble_eq_true rfl) (Nat.le_of_ble_eq_true rfl) ?_
    exact lw_ret hx hb hr hlocks dL_law_1600
  · subst c_13
    refine lv_aload_n hx hb dL_law_282 rfl (lv_at hl 3 rfl) ?_
    refine lv_iconst (v := 0) hx hb dL_law_283 (by decide) ?_
    refine va_lald hx hb hK.1 hP 0 1 rfl rfl (i := 0) (nq_in (by decide)) dL_law_284 ?_
    refine nq_topl (z := ((sp_tree a1).2).toInt64) (hw_2.2 rfl) ?_
    refine lv_iload hx hb dL_law_285 (lv_at hl 0 rfl) ?_
    refine lv_i2l (v := ((sp_tree a1).2).toInt64) hx hb dL_law_287 rfl ?_
    refine W.lcmp hx hb dL_law_288 ?_
    refine nq_top (z := 0) (nq_cmp _) ?_
    refine lv_if_eq (tgt := 294) hx hb dL_law_289 (by decide) (fun _ => ?_) (fun c_15 => absurd c_15 (by decide))
    refine lv_goto (tgt := 1593) hx hb dL_law_294 (by decide) ?_
    refine lv_iinc (v := 6) (lv' := [(4, .int 6), (6, .int ((sp_tree a1).2)), (5, .int 0), (3, .ref ou), (2, .ref m0), (1, .ref x0), (0, .ref b)]) hx hb dL_law_1593 hl (k := 2) rfl (by decide) (by decide) rfl (fun ls hl => ?_)
    refine lv_goto (tgt := 23) hx hb dL_law_1596 (by decide) ?_
    refine lv_iload hx hb dL_law_23 (lv_at hl 0 rfl) ?_
    refine lv_aload_n hx hb dL_law_25 rfl (lv_at hl 6 rfl) ?_
    refine va_slen hx hb hX hbl hbA hS dL_law_26 ?_
    refine nq_top (z := 6) (by decide) ?_
    refine lv_bipush (v := 6) hx hb dL_law_27 (by decide) ?_
    refine lv_isub hx hb dL_law_29 ?_
    refine nq_top (z := 0) (by decide) ?_
    refine lv_icmp_gt (tgt := 1599) hx hb dL_law_30 (by decide) (fun _ => ?_) (fun c_16 => absurd c_16 (by decide))
    refine lv_iconst (v := 1) hx hb dL_law_1599 (by decide) ?_
    refine va_forget (fun q hq => by have h9 := hS.2.2 q hq; rw [hAe] at h9; exact h9) ?_
    refine W.widen (k := 600002) (n := 7302232) (Nat.le_of_ble_eq_true rfl) (Nat.le_of_ble_eq_true rfl) ?_
    exact lw_ret hx hb hr hlocks dL_law_1600

set_option maxHeartbeats 400000 in
set_option maxRecDepth 100000 in
theorem lc_2 {p : Program} {e : Env} {s : State} {m : MethodId} {below : List Frame} {meth : Method} {c : Code} {l : Launch} {b : Nat} {xs : Nat → Int32} {G : va_G} {y : Nat → ClassId} {A : Nat → Prop} (hl0 : l.stackTraces = false) (C0 : lw_At p s m meth c b 6 xs) (hAe : A = fun q : Nat => s.heap.size ≤ q) (hK : nq_K G y s) (hXs : nq_X A s) (x0 : Nat) (tp : Nat) (ps : Nat) (sp : Nat) (tk : Nat) (dr : Nat) (pr : Nat) (da : Nat) (nw : Nat) (im : Nat) (ac : Nat) (ke : Nat) (si : Nat) (tx : Nat) (an : Nat) (dw : Nat) (tk1 : Nat) (tk2 : Nat) (tk3 : Nat) (tk4 : Nat) (sp1 : Nat) (sp2 : Nat) (sp3 : Nat) (sp4 : Nat) (sp5 : Nat) (sp6 : Nat) (sp7 : Nat) (sp8 : Nat) (sp9 : Nat) (sp10 : Nat) (m0 : Nat) (m_tree : Nat) (m_data : Nat) (m_made : Nat) (m_status : Nat) (m_tape : Nat) (m_paths : Nat) (m_pathSize : Nat) (m_set : Nat) (m_to : Nat) (m_lifted : Nat) (m_order : Nat) (m_past : Nat) (m_rowKind : Nat) (m_rowSteps : Nat) (m_rowPath : Nat) (m_rowWas : Nat) (m_rowIs : Nat) (m_pool : Nat) (m_rowsMany : Nat) (m_poolMany : Nat) (m_way : Nat) (m_out : Nat) (m_notedThing : Nat) (m_notedIs : Nat) (m_votes : Nat) (m_treeThen : Nat) (m_imageTree : Nat) (m_pastThen : Nat) (m_notedThingThen : Nat) (m_notedIsThen : Nat) (m_statusThen : Nat) (ou : Nat) (H : Heap) (locs : List Loc) (ls : Array Slot) (hP : va_P G vwCl [(x0, .inr (10, [.ref tp, .int 0, .int (-1), .ref ps, .ref sp, .ref tk, .ref dr, .ref pr, .ref da, .ref nw, .ref im, .int 0, .ref ac, .ref ke, .ref si, .ref tx, .ref an, .ref dw])), (pr, .inr (5, [.ref tk])), (tk, .inr (8, [.ref tk1, .ref tk2, .ref tk3, .ref tk4, .int 0, .int 0, .int 0, .int 0, .int (-1)])), (tk1, .inl (y 0, 401, .inl (fun _ => 0))), (tk2, .inl (y 0, 401, .inl (fun _ => 0))), (tk3, .inl (y 0, 401, .inl (fun _ => 0))), (tk4, .inl (y 0, 401, .inl (fun _ => 0))), (tp, .inl (y 0, 400, .inl (fun _ => 0))), (sp, .inr (4, [.ref sp1, .ref sp2, .ref sp3, .int 0, .ref sp4, .int 0, .ref sp5, .ref sp6, .int 0, .ref sp7, .ref sp8, .ref sp9, .ref sp10, .int 0])), (ps, .inl (y 3, 4, .inr (.inr (.inr (.inr (fun _ => none)))))), (m0, .inr (11, [.int 0, .ref m_tree, .ref m_data, .ref m_made, .ref m_status, .int 0, .ref m_tape, .ref m_paths, .ref m_pathSize, .null, .int 0, .int 0, .int 0, .int 0, .int 0, .int 0, .int 0, .int 0, .int 0, .int 0, .int 0, .int (-1), .int 0, .ref m_set, .ref m_to, .int 0, .int 0, .int 0, .int 0, .int 0, .int 0, .ref m_lifted, .int 0, .int 0, .int 0, .ref m_order, .int 0, .ref m_past, .int 0, .ref m_rowKind, .ref m_rowSteps, .ref m_rowPath, .ref m_rowWas, .ref m_rowIs, .ref m_pool, .ref m_rowsMany, .ref m_poolMany, .ref m_way, .int 0, .ref m_out, .int 0, .int 0, .ref m_notedThing, .ref m_notedIs, .ref m_votes, .int 0, .int 0, .ref m_treeThen, .int 0, .int 0, .int 0, .ref m_imageTree, .ref m_pastThen, .ref m_notedThingThen, .ref m_notedIsThen, .ref m_statusThen])), (m_status, .inl (y 0, 3, .inl (fun _ => 0))), (m_pathSize, .inl (y 0, 4, .inl (fun _ => 0))), (ou, .inl (y 1, 1, .inr (.inl (fun _ => 0))))] H) (hD : va_D A [(x0, .inr (10, [.ref tp, .int 0, .int (-1), .ref ps, .ref sp, .ref tk, .ref dr, .ref pr, .ref da, .ref nw, .ref im, .int 0, .ref ac, .ref ke, .ref si, .ref tx, .ref an, .ref dw])), (pr, .inr (5, [.ref tk])), (tk, .inr (8, [.ref tk1, .ref tk2, .ref tk3, .ref tk4, .int 0, .int 0, .int 0, .int 0, .int (-1)])), (tk1, .inl (y 0, 401, .inl (fun _ => 0))), (tk2, .inl (y 0, 401, .inl (fun _ => 0))), (tk3, .inl (y 0, 401, .inl (fun _ => 0))), (tk4, .inl (y 0, 401, .inl (fun _ => 0))), (tp, .inl (y 0, 400, .inl (fun _ => 0))), (sp, .inr (4, [.ref sp1, .ref sp2, .ref sp3, .int 0, .ref sp4, .int 0, .ref sp5, .ref sp6, .int 0, .ref sp7, .ref sp8, .ref sp9, .ref sp10, .int 0])), (ps, .inl (y 3, 4, .inr (.inr (.inr (.inr (fun _ => none)))))), (m0, .inr (11, [.int 0, .ref m_tree, .ref m_data, .ref m_made, .ref m_status, .int 0, .ref m_tape, .ref m_paths, .ref m_pathSize, .null, .int 0, .int 0, .int 0, .int 0, .int 0, .int 0, .int 0, .int 0, .int 0, .int 0, .int 0, .int (-1), .int 0, .ref m_set, .ref m_to, .int 0, .int 0, .int 0, .int 0, .int 0, .int 0, .ref m_lifted, .int 0, .int 0, .int 0, .ref m_order, .int 0, .ref m_past, .int 0, .ref m_rowKind, .ref m_rowSteps, .ref m_rowPath, .ref m_rowWas, .ref m_rowIs, .ref m_pool, .ref m_rowsMany, .ref m_poolMany, .ref m_way, .int 0, .ref m_out, .int 0, .int 0, .ref m_notedThing, .ref m_notedIs, .ref m_votes, .int 0, .int 0, .ref m_treeThen, .int 0, .int 0, .int 0, .ref m_imageTree, .ref m_pastThen, .ref m_notedThingThen, .ref m_notedIsThen, .ref m_statusThen])), (m_status, .inl (y 0, 3, .inl (fun _ => 0))), (m_pathSize, .inl (y 0, 4, .inl (fun _ => 0))), (ou, .inl (y 1, 1, .inr (.inl (fun _ => 0))))]) (hS : va_S A s.heap H locs) (hl : lv_has ls 7 [(4, .int 0), (3, .ref ou), (2, .ref m0), (1, .ref x0), (0, .ref b)]) : W p l e room_1 s m #[Value.ref b] below meth c H locs 121 52808 (lw_Z below #[Value.ref b] s) (F0 m 297 ls []) := by
  obtain ⟨hx, hb, hr, hml, hown, hts, hX, hbl, hlocks, hgv⟩ := C0
  have hA : ∀ q : Nat, s.heap.size ≤ q → A q := fun q h => by rw [hAe]; exact h
  have hbA : ¬ A b := by rw [hAe]; exact Nat.not_le.mpr hbl
  have hl : lv_has ls 7 [(4, .int 0), (3, .ref ou), (2, .ref m0), (1, .ref x0), (0, .ref b)] := hl
  obtain ⟨a1, ea1⟩ : ∃ z, z = xs 1 := ⟨_, rfl⟩
  obtain ⟨a2, ea2⟩ : ∃ z, z = xs 2 := ⟨_, rfl⟩
  obtain ⟨a3, ea3⟩ : ∃ z, z = xs 3 := ⟨_, rfl⟩
  obtain ⟨a4, ea4⟩ : ∃ z, z = xs 4 := ⟨_, rfl⟩
  obtain ⟨a5, ea5⟩ : ∃ z, z = xs 5 := ⟨_, rfl⟩
  refine lv_aload_n hx hb dL_law_297 rfl (lv_at hl 3 rfl) ?_
  refine lv_aload_n hx hb dL_law_298 rfl (lv_at hl 4 rfl) ?_
  refine lv_iload hx hb dL_law_299 (lv_at hl 0 rfl) ?_
  refine lv_iconst (v := 1) hx hb dL_law_301 (by decide) ?_
  refine lv_iadd hx hb dL_law_302 ?_
  refine nq_top (z := 1) (by decide) ?_
  refine va_sld hx hb hX hbl hbA hS (i := 1) (nq_in (by decide)) dL_law_303 ?_
  refine nq_top (z := a1) (ea1.symm) ?_
  refine lv_aload_n hx hb dL_law_304 rfl (lv_at hl 4 rfl) ?_
  refine lv_iload hx hb dL_law_305 (lv_at hl 0 rfl) ?_
  refine lv_iconst (v := 2) hx hb dL_law_307 (by decide) ?_
  refine lv_iadd hx hb dL_law_308 ?_
  refine nq_top (z := 2) (by decide) ?_
  refine va_sld hx hb hX hbl hbA hS (i := 2) (nq_in (by decide)) dL_law_309 ?_
  refine nq_top (z := a2) (ea2.symm) ?_
  refine lv_aload_n hx hb dL_law_310 rfl (lv_at hl 1 rfl) ?_
  refine nq_wri (wr := [(m0, .inr (11, [.int 0, .ref m_tree, .ref m_data, .ref m_made, .ref m_status, .int 0, .ref m_tape, .ref m_paths, .ref m_pathSize, .null, .int 0, .int 0, .int 0, .int 0, .int 0, .int 0, .int 0, .int 0, .int 0, .int 0, .int 0, .int (-1), .int 0, .ref m_set, .ref m_to, .int 0, .int 0, .int 0, .int 0, .int 0, .int 0, .ref m_lifted, .int 0, .int 0, .int 0, .ref m_order, .int 0, .ref m_past, .int 0, .ref m_rowKind, .ref m_rowSteps, .ref m_rowPath, .ref m_rowWas, .ref m_rowIs, .ref m_pool, .ref m_rowsMany, .ref m_poolMany, .ref m_way, .int 0, .ref m_out, .int 0, .int 0, .ref m_notedThing, .ref m_notedIs, .ref m_votes, .int 0, .int 0, .ref m_treeThen, .int 0, .int 0, .int 0, .ref m_imageTree, .ref m_pastThen, .ref m_notedThingThen, .ref m_notedIsThen, .ref m_statusThen])), (m_status, .inl (y 0, 3, .inl (fun _ => 0))), (m_pathSize, .inl (y 0, 4, .inl (fun _ => 0)))]) (w1 := (fun (g9 : Nat → Int64) => [(ou, .inl (y 1, 1, .inr (.inl g9)))])) (vx_runSW (hh := [(0, 10, 13, 19), (0, 10, 17, 13)]) (As := [.ref x0, .int a1, .int a2, .ref ou]) (rest := []) ⟨hx, hb, hml, hown, hts⟩ (w_path l hl0 G y H.size x0 tp ps sp tk dr pr da nw im ac ke si tx an dw tk1 tk2 tk3 tk4 sp1 sp2 sp3 sp4 sp5 sp6 sp7 sp8 sp9 sp10 a1 a2 ou) (vx_cwSW 4 hts gv_L_path_81 rfl rfl rfl (by decide +kernel) ⟨Nat.le_of_ble_eq_true rfl, Nat.le_of_ble_eq_true rfl⟩) (nq_PXS hK hP hD hS hA hXs [0, 1, 2, 3, 4, 5, 6, 7, 8, 9, 13] rfl rfl) rfl rfl hl.1 rfl (lv_room (Nat.le_of_ble_eq_true rfl)) dL_law_311 ⟨Nat.le_of_ble_eq_true rfl, Nat.le_of_ble_eq_true rfl⟩) hP hD hS hA [0, 1, 2, 3, 4, 5, 6, 7, 8, 9, 13] [10, 11, 12] rfl rfl (by decide) (by decide) (fun r_1 g_3 H locs hw_2 hP hD hS => ?_)
  have hP : va_P G vwCl [(m0, .inr (11, [.int 0, .ref m_tree, .ref m_data, .ref m_made, .ref m_status, .int 0, .ref m_tape, .ref m_paths, .ref m_pathSize, .null, .int 0, .int 0, .int 0, .int 0, .int 0, .int 0, .int 0, .int 0, .int 0, .int 0, .int 0, .int (-1), .int 0, .ref m_set, .ref m_to, .int 0, .int 0, .int 0, .int 0, .int 0, .int 0, .ref m_lifted, .int 0, .int 0, .int 0, .ref m_order, .int 0, .ref m_past, .int 0, .ref m_rowKind, .ref m_rowSteps, .ref m_rowPath, .ref m_rowWas, .ref m_rowIs, .ref m_pool, .ref m_rowsMany, .ref m_poolMany, .ref m_way, .int 0, .ref m_out, .int 0, .int 0, .ref m_notedThing, .ref m_notedIs, .ref m_votes, .int 0, .int 0, .ref m_treeThen, .int 0, .int 0, .int 0, .ref m_imageTree, .ref m_pastThen, .ref m_notedThingThen, .ref m_notedIsThen, .ref m_statusThen])), (m_status, .inl (y 0, 3, .inl (fun _ => 0))), (m_pathSize, .inl (y 0, 4, .inl (fun _ => 0))), (ou, .inl (y 1, 1, .inr (.inl g_3)))] H := hP
  have hD : va_D A [(m0, .inr (11, [.int 0, .ref m_tree, .ref m_data, .ref m_made, .ref m_status, .int 0, .ref m_tape, .ref m_paths, .ref m_pathSize, .null, .int 0, .int 0, .int 0, .int 0, .int 0, .int 0, .int 0, .int 0, .int 0, .int 0, .int 0, .int (-1), .int 0, .ref m_set, .ref m_to, .int 0, .int 0, .int 0, .int 0, .int 0, .int 0, .ref m_lifted, .int 0, .int 0, .int 0, .ref m_order, .int 0, .ref m_past, .int 0, .ref m_rowKind, .ref m_rowSteps, .ref m_rowPath, .ref m_rowWas, .ref m_rowIs, .ref m_pool, .ref m_rowsMany, .ref m_poolMany, .ref m_way, .int 0, .ref m_out, .int 0, .int 0, .ref m_notedThing, .ref m_notedIs, .ref m_votes, .int 0, .int 0, .ref m_treeThen, .int 0, .int 0, .int 0, .ref m_imageTree, .ref m_pastThen, .ref m_notedThingThen, .ref m_notedIsThen, .ref m_statusThen])), (m_status, .inl (y 0, 3, .inl (fun _ => 0))), (m_pathSize, .inl (y 0, 4, .inl (fun _ => 0))), (ou, .inl (y 1, 1, .inr (.inl g_3)))] := hD
  refine lv_istore (lv' := [(5, .int r_1), (4, .int 0), (3, .ref ou), (2, .ref m0), (1, .ref x0), (0, .ref b)]) hx hb dL_law_314 hl (by decide) rfl (fun ls hl => ?_)
  refine lv_aload_n hx hb dL_law_316 rfl (lv_at hl 3 rfl) ?_
  refine lv_aload_n hx hb dL_law_317 rfl (lv_at hl 5 rfl) ?_
  refine lv_iload hx hb dL_law_318 (lv_at hl 1 rfl) ?_
  refine lv_iconst (v := 1) hx hb dL_law_320 (by decide) ?_
  refine lv_iadd hx hb dL_law_321 ?_
  refine nq_top (z := 1) (by decide) ?_
  refine va_sld hx hb hX hbl hbA hS (i := 1) (nq_in (by decide)) dL_law_322 ?_
  refine nq_top (z := a1) (ea1.symm) ?_
  refine lv_aload_n hx hb dL_law_323 rfl (lv_at hl 5 rfl) ?_
  refine lv_iload hx hb dL_law_324 (lv_at hl 1 rfl) ?_
  refine lv_iconst (v := 2) hx hb dL_law_326 (by decide) ?_
  refine lv_iadd hx hb dL_law_327 ?_
  refine nq_top (z := 2) (by decide) ?_
  refine va_sld hx hb hX hbl hbA hS (i := 2) (nq_in (by decide)) dL_law_328 ?_
  refine nq_top (z := a2) (ea2.symm) ?_
  refine nq_wri (wr := [(ou, .inl (y 1, 1, .inr (.inl g_3)))]) (va_runV (As := [.int a1, .int a2]) (rest := []) ⟨hx, hb, hml, hown, hts⟩ (m_path l G y H.size m0 m_tree m_data m_made m_status m_tape m_paths m_pathSize m_set m_to m_lifted m_order m_past m_rowKind m_rowSteps m_rowPath m_rowWas m_rowIs m_pool m_rowsMany m_poolMany m_way m_out m_notedThing m_notedIs m_votes m_treeThen m_imageTree m_pastThen m_notedThingThen m_notedIsThen m_statusThen a1 a2 ) (cwV 2 hts gv_X11_path_84 rfl rfl rfl (by decide +kernel) ⟨Nat.le_of_ble_eq_true rfl, Nat.le_of_ble_eq_true rfl⟩) (nq_PV hK hP hD [0, 1, 2] rfl rfl 0 rfl rfl) rfl rfl hl.1 rfl (lv_room (Nat.le_of_ble_eq_true rfl)) dL_law_329 ⟨Nat.le_of_ble_eq_true rfl, Nat.le_of_ble_eq_true rfl⟩) hP hD hS hA [0, 1, 2] [3] rfl rfl (by decide) (by decide) (fun r_6 u_4 H locs hw_5 hP hD hS => ?_)
  have hP : va_P G vwCl [(ou, .inl (y 1, 1, .inr (.inl g_3))), (m0, .inr (11, u_4.2))] H := hP
  have hD : va_D A [(ou, .inl (y 1, 1, .inr (.inl g_3))), (m0, .inr (11, u_4.2))] := hD
  obtain ⟨hq_7, hq_8, hq_9⟩ := hw_5
  subst hq_9
  refine lv_istore (lv' := [(6, .int ((sp_path a1 a2).2)), (5, .int r_1), (4, .int 0), (3, .ref ou), (2, .ref m0), (1, .ref x0), (0, .ref b)]) hx hb dL_law_332 hl (by decide) rfl (fun ls hl => ?_)
  refine lv_aload_n hx hb dL_law_334 rfl (lv_at hl 4 rfl) ?_
  refine nq_rdi (va_runV (As := []) (rest := []) ⟨hx, hb, hml, hown, hts⟩ (m_thrown l G y H.size m0 u_4 hq_7) (cwV 0 hts gv_X11_thrown_77 rfl rfl rfl (by decide +kernel) ⟨Nat.le_of_ble_eq_true rfl, Nat.le_of_ble_eq_true rfl⟩) (nq_PV hK hP hD [1] rfl rfl 1 rfl rfl) rfl rfl hl.1 rfl (lv_room (Nat.le_of_ble_eq_true rfl)) dL_law_335 ⟨Nat.le_of_ble_eq_true rfl, Nat.le_of_ble_eq_true rfl⟩) hP hS hA (fun r_10 H locs hw_11 hP hS => ?_)
  subst hw_11
  refine lv_iload hx hb dL_law_338 (lv_at hl 1 rfl) ?_
  refine lv_icmp_eq (tgt := 345) hx hb dL_law_340 (by decide) (fun _ => ?_) (fun c_12 => absurd (hq_8.trans hw_2.1.symm) c_12)
  refine lv_iload hx hb dL_law_345 (lv_at hl 1 rfl) ?_
  refine lv_if_ne (tgt := 362) hx hb dL_law_347 (by decide) (fun c_13 => ?_) (fun c_13 => ?_)
  · refine lv_goto (tgt := 1593) hx hb dL_law_362 (by decide) ?_
    refine lv_iinc (v := 6) (lv' := [(4, .int 6), (6, .int ((sp_path a1 a2).2)), (5, .int r_1), (3, .ref ou), (2, .ref m0), (1, .ref x0), (0, .ref b)]) hx hb dL_law_1593 hl (k := 2) rfl (by decide) (by decide) rfl (fun ls hl => ?_)
    refine lv_goto (tgt := 23) hx hb dL_law_1596 (by decide) ?_
    refine lv_iload hx hb dL_law_23 (lv_at hl 0 rfl) ?_
    refine lv_aload_n hx hb dL_law_25 rfl (lv_at hl 6 rfl) ?_
    refine va_slen hx hb hX hbl hbA hS dL_law_26 ?_
    refine nq_top (z := 6) (by decide) ?_
    refine lv_bipush (v := 6) hx hb dL_law_27 (by decide) ?_
    refine lv_isub hx hb dL_law_29 ?_
    refine nq_top (z := 0) (by decide) ?_
    refine lv_icmp_gt (tgt := 1599) hx hb dL_law_30 (by decide) (fun _ => ?_) (fun c_14 => absurd c_14 (by decide))
    refine lv_iconst (v := 1) hx hb dL_law_1599 (by decide) ?_
    refine va_forget (fun q hq => by have h9 := hS.2.2 q hq; rw [hAe] at h9; exact h9) ?_
    refine W.widen (k := 600002) (n := 7302232) (Nat.le_of_ble_eq_true rfl) (Nat.le_of_ble_eq_true rfl) ?_
    exact lw_ret hx hb hr hlocks dL_law_1600
  · subst c_13
    refine lv_aload_n hx hb dL_law_350 rfl (lv_at hl 3 rfl) ?_
    refine lv_iconst (v := 0) hx hb dL_law_351 (by decide) ?_
    refine va_lald hx hb hK.1 hP 0 1 rfl rfl (i := 0) (nq_in (by decide)) dL_law_352 ?_
    refine nq_topl (z := ((sp_path a1 a2).2).toInt64) (hw_2.2 rfl) ?_
    refine lv_iload hx hb dL_law_353 (lv_at hl 0 rfl) ?_
    refine lv_i2l (v := ((sp_path a1 a2).2).toInt64) hx hb dL_law_355 rfl ?_
    refine W.lcmp hx hb dL_law_356 ?_
    refine nq_top (z := 0) (nq_cmp _) ?_
    refine lv_if_eq (tgt := 362) hx hb dL_law_357 (by decide) (fun _ => ?_) (fun c_15 => absurd c_15 (by decide))
    refine lv_goto (tgt := 1593) hx hb dL_law_362 (by decide) ?_
    refine lv_iinc (v := 6) (lv' := [(4, .int 6), (6, .int ((sp_path a1 a2).2)), (5, .int 0), (3, .ref ou), (2, .ref m0), (1, .ref x0), (0, .ref b)]) hx hb dL_law_1593 hl (k := 2) rfl (by decide) (by decide) rfl (fun ls hl => ?_)
    refine lv_goto (tgt := 23) hx hb dL_law_1596 (by decide) ?_
    refine lv_iload hx hb dL_law_23 (lv_at hl 0 rfl) ?_
    refine lv_aload_n hx hb dL_law_25 rfl (lv_at hl 6 rfl) ?_
    refine va_slen hx hb hX hbl hbA hS dL_law_26 ?_
    refine nq_top (z := 6) (by decide) ?_
    refine lv_bipush (v := 6) hx hb dL_law_27 (by decide) ?_
    refine lv_isub hx hb dL_law_29 ?_
    refine nq_top (z := 0) (by decide) ?_
    refine lv_icmp_gt (tgt := 1599) hx hb dL_law_30 (by decide) (fun _ => ?_) (fun c_16 => absurd c_16 (by decide))
    refine lv_iconst (v := 1) hx hb dL_law_1599 (by decide) ?_
    refine va_forget (fun q hq => by have h9 := hS.2.2 q hq; rw [hAe] at h9; exact h9) ?_
    refine W.widen (k := 600002) (n := 7302232) (Nat.le_of_ble_eq_true rfl) (Nat.le_of_ble_eq_true rfl) ?_
    exact lw_ret hx hb hr hlocks dL_law_1600

set_option maxHeartbeats 400000 in
set_option maxRecDepth 100000 in
theorem lc_3 {p : Program} {e : Env} {s : State} {m : MethodId} {below : List Frame} {meth : Method} {c : Code} {l : Launch} {b : Nat} {xs : Nat → Int32} {G : va_G} {y : Nat → ClassId} {A : Nat → Prop} (hl0 : l.stackTraces = false) (C0 : lw_At p s m meth c b 6 xs) (hAe : A = fun q : Nat => s.heap.size ≤ q) (hK : nq_K G y s) (hXs : nq_X A s) (x0 : Nat) (tp : Nat) (ps : Nat) (sp : Nat) (tk : Nat) (dr : Nat) (pr : Nat) (da : Nat) (nw : Nat) (im : Nat) (ac : Nat) (ke : Nat) (si : Nat) (tx : Nat) (an : Nat) (dw : Nat) (m0 : Nat) (m_tree : Nat) (m_data : Nat) (m_made : Nat) (m_status : Nat) (m_tape : Nat) (m_paths : Nat) (m_pathSize : Nat) (m_set : Nat) (m_to : Nat) (m_lifted : Nat) (m_order : Nat) (m_past : Nat) (m_rowKind : Nat) (m_rowSteps : Nat) (m_rowPath : Nat) (m_rowWas : Nat) (m_rowIs : Nat) (m_pool : Nat) (m_rowsMany : Nat) (m_poolMany : Nat) (m_way : Nat) (m_out : Nat) (m_notedThing : Nat) (m_notedIs : Nat) (m_votes : Nat) (m_treeThen : Nat) (m_imageTree : Nat) (m_pastThen : Nat) (m_notedThingThen : Nat) (m_notedIsThen : Nat) (m_statusThen : Nat) (ou : Nat) (H : Heap) (locs : List Loc) (ls : Array Slot) (hP : va_P G vwCl [(x0, .inr (10, [.ref tp, .int 0, .int (-1), .ref ps, .ref sp, .ref tk, .ref dr, .ref pr, .ref da, .ref nw, .ref im, .int 0, .ref ac, .ref ke, .ref si, .ref tx, .ref an, .ref dw])), (m0, .inr (11, [.int 0, .ref m_tree, .ref m_data, .ref m_made, .ref m_status, .int 0, .ref m_tape, .ref m_paths, .ref m_pathSize, .null, .int 0, .int 0, .int 0, .int 0, .int 0, .int 0, .int 0, .int 0, .int 0, .int 0, .int 0, .int (-1), .int 0, .ref m_set, .ref m_to, .int 0, .int 0, .int 0, .int 0, .int 0, .int 0, .ref m_lifted, .int 0, .int 0, .int 0, .ref m_order, .int 0, .ref m_past, .int 0, .ref m_rowKind, .ref m_rowSteps, .ref m_rowPath, .ref m_rowWas, .ref m_rowIs, .ref m_pool, .ref m_rowsMany, .ref m_poolMany, .ref m_way, .int 0, .ref m_out, .int 0, .int 0, .ref m_notedThing, .ref m_notedIs, .ref m_votes, .int 0, .int 0, .ref m_treeThen, .int 0, .int 0, .int 0, .ref m_imageTree, .ref m_pastThen, .ref m_notedThingThen, .ref m_notedIsThen, .ref m_statusThen])), (ou, .inl (y 1, 1, .inr (.inl (fun _ => 0))))] H) (hD : va_D A [(x0, .inr (10, [.ref tp, .int 0, .int (-1), .ref ps, .ref sp, .ref tk, .ref dr, .ref pr, .ref da, .ref nw, .ref im, .int 0, .ref ac, .ref ke, .ref si, .ref tx, .ref an, .ref dw])), (m0, .inr (11, [.int 0, .ref m_tree, .ref m_data, .ref m_made, .ref m_status, .int 0, .ref m_tape, .ref m_paths, .ref m_pathSize, .null, .int 0, .int 0, .int 0, .int 0, .int 0, .int 0, .int 0, .int 0, .int 0, .int 0, .int 0, .int (-1), .int 0, .ref m_set, .ref m_to, .int 0, .int 0, .int 0, .int 0, .int 0, .int 0, .ref m_lifted, .int 0, .int 0, .int 0, .ref m_order, .int 0, .ref m_past, .int 0, .ref m_rowKind, .ref m_rowSteps, .ref m_rowPath, .ref m_rowWas, .ref m_rowIs, .ref m_pool, .ref m_rowsMany, .ref m_poolMany, .ref m_way, .int 0, .ref m_out, .int 0, .int 0, .ref m_notedThing, .ref m_notedIs, .ref m_votes, .int 0, .int 0, .ref m_treeThen, .int 0, .int 0, .int 0, .ref m_imageTree, .ref m_pastThen, .ref m_notedThingThen, .ref m_notedIsThen, .ref m_statusThen])), (ou, .inl (y 1, 1, .inr (.inl (fun _ => 0))))]) (hS : va_S A s.heap H locs) (hl : lv_has ls 7 [(4, .int 0), (3, .ref ou), (2, .ref m0), (1, .ref x0), (0, .ref b)]) : W p l e room_1 s m #[Value.ref b] below meth c H locs 121 52808 (lw_Z below #[Value.ref b] s) (F0 m 365 ls []) := by
  obtain ⟨hx, hb, hr, hml, hown, hts, hX, hbl, hlocks, hgv⟩ := C0
  have hA : ∀ q : Nat, s.heap.size ≤ q → A q := fun q h => by rw [hAe]; exact h
  have hbA : ¬ A b := by rw [hAe]; exact Nat.not_le.mpr hbl
  have hl : lv_has ls 7 [(4, .int 0), (3, .ref ou), (2, .ref m0), (1, .ref x0), (0, .ref b)] := hl
  obtain ⟨a1, ea1⟩ : ∃ z, z = xs 1 := ⟨_, rfl⟩
  obtain ⟨a2, ea2⟩ : ∃ z, z = xs 2 := ⟨_, rfl⟩
  obtain ⟨a3, ea3⟩ : ∃ z, z = xs 3 := ⟨_, rfl⟩
  obtain ⟨a4, ea4⟩ : ∃ z, z = xs 4 := ⟨_, rfl⟩
  obtain ⟨a5, ea5⟩ : ∃ z, z = xs 5 := ⟨_, rfl⟩
  refine lv_aload_n hx hb dL_law_365 rfl (lv_at hl 3 rfl) ?_
  refine nq_rdi (va_runV (As := []) (rest := []) ⟨hx, hb, hml, hown, hts⟩ (c_fault l G y H.size x0 tp ps sp tk dr pr da nw im ac ke si tx an dw ) (cwV 0 hts gv_X10_fault_85 rfl rfl rfl (by decide +kernel) ⟨Nat.le_of_ble_eq_true rfl, Nat.le_of_ble_eq_true rfl⟩) (nq_PV hK hP hD [0] rfl rfl 0 rfl rfl) rfl rfl hl.1 rfl (lv_room (Nat.le_of_ble_eq_true rfl)) dL_law_366 ⟨Nat.le_of_ble_eq_true rfl, Nat.le_of_ble_eq_true rfl⟩) hP hS hA (fun r_1 H locs hw_2 hP hS => ?_)
  subst hw_2
  refine lv_aload_n hx hb dL_law_369 rfl (lv_at hl 2 rfl) ?_
  refine nq_wri (wr := [(x0, .inr (10, [.ref tp, .int 0, .int (-1), .ref ps, .ref sp, .ref tk, .ref dr, .ref pr, .ref da, .ref nw, .ref im, .int 0, .ref ac, .ref ke, .ref si, .ref tx, .ref an, .ref dw])), (ou, .inl (y 1, 1, .inr (.inl (fun _ => 0))))]) (va_runV (As := []) (rest := [.int (-1)]) ⟨hx, hb, hml, hown, hts⟩ (c_m_fault l G y H.size m0 m_tree m_data m_made m_status m_tape m_paths m_pathSize m_set m_to m_lifted m_order m_past m_rowKind m_rowSteps m_rowPath m_rowWas m_rowIs m_pool m_rowsMany m_poolMany m_way m_out m_notedThing m_notedIs m_votes m_treeThen m_imageTree m_pastThen m_notedThingThen m_notedIsThen m_statusThen ) (cwV 0 hts gv_X11_fault_88 rfl rfl rfl (by decide +kernel) ⟨Nat.le_of_ble_eq_true rfl, Nat.le_of_ble_eq_true rfl⟩) (nq_PV hK hP hD [1] rfl rfl 1 rfl rfl) rfl rfl hl.1 rfl (lv_room (Nat.le_of_ble_eq_true rfl)) dL_law_370 ⟨Nat.le_of_ble_eq_true rfl, Nat.le_of_ble_eq_true rfl⟩) hP hD hS hA [1] [0, 2] rfl rfl (by decide) (by decide) (fun r_5 u_3 H locs hw_4 hP hD hS => ?_)
  have hP : va_P G vwCl [(x0, .inr (10, [.ref tp, .int 0, .int (-1), .ref ps, .ref sp, .ref tk, .ref dr, .ref pr, .ref da, .ref nw, .ref im, .int 0, .ref ac, .ref ke, .ref si, .ref tx, .ref an, .ref dw])), (ou, .inl (y 1, 1, .inr (.inl (fun _ => 0))))] H := hP
  have hD : va_D A [(x0, .inr (10, [.ref tp, .int 0, .int (-1), .ref ps, .ref sp, .ref tk, .ref dr, .ref pr, .ref da, .ref nw, .ref im, .int 0, .ref ac, .ref ke, .ref si, .ref tx, .ref an, .ref dw])), (ou, .inl (y 1, 1, .inr (.inl (fun _ => 0))))] := hD
  subst hw_4
  refine lv_icmp_eq (tgt := 1593) hx hb dL_law_373 (by decide) (fun _ => ?_) (fun c_6 => absurd c_6 (by decide))
  refine lv_iinc (v := 6) (lv' := [(4, .int 6), (3, .ref ou), (2, .ref m0), (1, .ref x0), (0, .ref b)]) hx hb dL_law_1593 hl (k := 0) rfl (by decide) (by decide) rfl (fun ls hl => ?_)
  refine lv_goto (tgt := 23) hx hb dL_law_1596 (by decide) ?_
  refine lv_iload hx hb dL_law_23 (lv_at hl 0 rfl) ?_
  refine lv_aload_n hx hb dL_law_25 rfl (lv_at hl 4 rfl) ?_
  refine va_slen hx hb hX hbl hbA hS dL_law_26 ?_
  refine nq_top (z := 6) (by decide) ?_
  refine lv_bipush (v := 6) hx hb dL_law_27 (by decide) ?_
  refine lv_isub hx hb dL_law_29 ?_
  refine nq_top (z := 0) (by decide) ?_
  refine lv_icmp_gt (tgt := 1599) hx hb dL_law_30 (by decide) (fun _ => ?_) (fun c_7 => absurd c_7 (by decide))
  refine lv_iconst (v := 1) hx hb dL_law_1599 (by decide) ?_
  refine va_forget (fun q hq => by have h9 := hS.2.2 q hq; rw [hAe] at h9; exact h9) ?_
  refine W.widen (k := 600002) (n := 7302232) (Nat.le_of_ble_eq_true rfl) (Nat.le_of_ble_eq_true rfl) ?_
  exact lw_ret hx hb hr hlocks dL_law_1600

set_option maxHeartbeats 400000 in
set_option maxRecDepth 100000 in
theorem lc_4 {p : Program} {e : Env} {s : State} {m : MethodId} {below : List Frame} {meth : Method} {c : Code} {l : Launch} {b : Nat} {xs : Nat → Int32} {G : va_G} {y : Nat → ClassId} {A : Nat → Prop} (hl0 : l.stackTraces = false) (C0 : lw_At p s m meth c b 6 xs) (hAe : A = fun q : Nat => s.heap.size ≤ q) (hK : nq_K G y s) (hXs : nq_X A s) (x0 : Nat) (tp : Nat) (ps : Nat) (sp : Nat) (tk : Nat) (dr : Nat) (pr : Nat) (da : Nat) (nw : Nat) (im : Nat) (ac : Nat) (ke : Nat) (si : Nat) (tx : Nat) (an : Nat) (dw : Nat) (nwt : Nat) (nwb : Nat) (nwn : Nat) (nwi : Nat) (nwr : Nat) (nwtk : Nat) (nwtv : Nat) (nwte : Nat) (nwtd : Nat) (ke1 : Nat) (ke2 : Nat) (ke3 : Nat) (ke4 : Nat) (m0 : Nat) (m_tree : Nat) (m_data : Nat) (m_made : Nat) (m_status : Nat) (m_tape : Nat) (m_paths : Nat) (m_pathSize : Nat) (m_set : Nat) (m_to : Nat) (m_lifted : Nat) (m_order : Nat) (m_past : Nat) (m_rowKind : Nat) (m_rowSteps : Nat) (m_rowPath : Nat) (m_rowWas : Nat) (m_rowIs : Nat) (m_pool : Nat) (m_rowsMany : Nat) (m_poolMany : Nat) (m_way : Nat) (m_out : Nat) (m_notedThing : Nat) (m_notedIs : Nat) (m_votes : Nat) (m_treeThen : Nat) (m_imageTree : Nat) (m_pastThen : Nat) (m_notedThingThen : Nat) (m_notedIsThen : Nat) (m_statusThen : Nat) (ou : Nat) (H : Heap) (locs : List Loc) (ls : Array Slot) (hP : va_P G vwCl [(x0, .inr (10, [.ref tp, .int 0, .int (-1), .ref ps, .ref sp, .ref tk, .ref dr, .ref pr, .ref da, .ref nw, .ref im, .int 0, .ref ac, .ref ke, .ref si, .ref tx, .ref an, .ref dw])), (nw, .inr (6, [.ref nwt, .ref nwb, .int 0, .ref nwn, .ref nwi, .int 0, .ref nwr])), (nwt, .inr (9, [.ref nwtk, .ref nwtv, .ref nwte, .ref nwtd, .int 1])), (nwtk, .inl (y 0, 60, .inl (upd (fun _ => 0) 0 3))), (nwtd, .inl (y 0, 60, .inl (upd (fun _ => 0) 0 0))), (ps, .inl (y 3, 4, .inr (.inr (.inr (.inr (fun _ => none)))))), (an, .inl (y 1, 4, .inr (.inl (fun _ => 0)))), (ke, .inr (3, [.ref ke1, .ref ke2, .ref ke3, .ref ke4, .int 0])), (nwr, .inl (y 0, 3, .inl (fun _ => 0))), (m0, .inr (11, [.int 0, .ref m_tree, .ref m_data, .ref m_made, .ref m_status, .int 0, .ref m_tape, .ref m_paths, .ref m_pathSize, .null, .int 0, .int 0, .int 0, .int 0, .int 0, .int 0, .int 0, .int 0, .int 0, .int 0, .int 0, .int (-1), .int 0, .ref m_set, .ref m_to, .int 0, .int 0, .int 0, .int 0, .int 0, .int 0, .ref m_lifted, .int 0, .int 0, .int 0, .ref m_order, .int 0, .ref m_past, .int 0, .ref m_rowKind, .ref m_rowSteps, .ref m_rowPath, .ref m_rowWas, .ref m_rowIs, .ref m_pool, .ref m_rowsMany, .ref m_poolMany, .ref m_way, .int 0, .ref m_out, .int 0, .int 0, .ref m_notedThing, .ref m_notedIs, .ref m_votes, .int 0, .int 0, .ref m_treeThen, .int 0, .int 0, .int 0, .ref m_imageTree, .ref m_pastThen, .ref m_notedThingThen, .ref m_notedIsThen, .ref m_statusThen])), (m_tree, .inl (y 0, 240, .inl (upd (upd (fun _ => 0) 0 3) 3 1))), (m_pathSize, .inl (y 0, 4, .inl (fun _ => 0))), (m_rowsMany, .inl (y 0, 2, .inl (fun _ => 0))), (m_status, .inl (y 0, 3, .inl (fun _ => 0))), (m_votes, .inl (y 0, 60, .inl (fun _ => 0))), (ou, .inl (y 1, 1, .inr (.inl (fun _ => 0))))] H) (hD : va_D A [(x0, .inr (10, [.ref tp, .int 0, .int (-1), .ref ps, .ref sp, .ref tk, .ref dr, .ref pr, .ref da, .ref nw, .ref im, .int 0, .ref ac, .ref ke, .ref si, .ref tx, .ref an, .ref dw])), (nw, .inr (6, [.ref nwt, .ref nwb, .int 0, .ref nwn, .ref nwi, .int 0, .ref nwr])), (nwt, .inr (9, [.ref nwtk, .ref nwtv, .ref nwte, .ref nwtd, .int 1])), (nwtk, .inl (y 0, 60, .inl (upd (fun _ => 0) 0 3))), (nwtd, .inl (y 0, 60, .inl (upd (fun _ => 0) 0 0))), (ps, .inl (y 3, 4, .inr (.inr (.inr (.inr (fun _ => none)))))), (an, .inl (y 1, 4, .inr (.inl (fun _ => 0)))), (ke, .inr (3, [.ref ke1, .ref ke2, .ref ke3, .ref ke4, .int 0])), (nwr, .inl (y 0, 3, .inl (fun _ => 0))), (m0, .inr (11, [.int 0, .ref m_tree, .ref m_data, .ref m_made, .ref m_status, .int 0, .ref m_tape, .ref m_paths, .ref m_pathSize, .null, .int 0, .int 0, .int 0, .int 0, .int 0, .int 0, .int 0, .int 0, .int 0, .int 0, .int 0, .int (-1), .int 0, .ref m_set, .ref m_to, .int 0, .int 0, .int 0, .int 0, .int 0, .int 0, .ref m_lifted, .int 0, .int 0, .int 0, .ref m_order, .int 0, .ref m_past, .int 0, .ref m_rowKind, .ref m_rowSteps, .ref m_rowPath, .ref m_rowWas, .ref m_rowIs, .ref m_pool, .ref m_rowsMany, .ref m_poolMany, .ref m_way, .int 0, .ref m_out, .int 0, .int 0, .ref m_notedThing, .ref m_notedIs, .ref m_votes, .int 0, .int 0, .ref m_treeThen, .int 0, .int 0, .int 0, .ref m_imageTree, .ref m_pastThen, .ref m_notedThingThen, .ref m_notedIsThen, .ref m_statusThen])), (m_tree, .inl (y 0, 240, .inl (upd (upd (fun _ => 0) 0 3) 3 1))), (m_pathSize, .inl (y 0, 4, .inl (fun _ => 0))), (m_rowsMany, .inl (y 0, 2, .inl (fun _ => 0))), (m_status, .inl (y 0, 3, .inl (fun _ => 0))), (m_votes, .inl (y 0, 60, .inl (fun _ => 0))), (ou, .inl (y 1, 1, .inr (.inl (fun _ => 0))))]) (hS : va_S A s.heap H locs) (hl : lv_has ls 7 [(4, .int 0), (3, .ref ou), (2, .ref m0), (1, .ref x0), (0, .ref b)]) : W p l e room_1 s m #[Value.ref b] below meth c H locs 121 52808 (lw_Z below #[Value.ref b] s) (F0 m 378 ls []) := by
  obtain ⟨hx, hb, hr, hml, hown, hts, hX, hbl, hlocks, hgv⟩ := C0
  have hA : ∀ q : Nat, s.heap.size ≤ q → A q := fun q h => by rw [hAe]; exact h
  have hbA : ¬ A b := by rw [hAe]; exact Nat.not_le.mpr hbl
  have hl : lv_has ls 7 [(4, .int 0), (3, .ref ou), (2, .ref m0), (1, .ref x0), (0, .ref b)] := hl
  obtain ⟨a1, ea1⟩ : ∃ z, z = xs 1 := ⟨_, rfl⟩
  obtain ⟨a2, ea2⟩ : ∃ z, z = xs 2 := ⟨_, rfl⟩
  obtain ⟨a3, ea3⟩ : ∃ z, z = xs 3 := ⟨_, rfl⟩
  obtain ⟨a4, ea4⟩ : ∃ z, z = xs 4 := ⟨_, rfl⟩
  obtain ⟨a5, ea5⟩ : ∃ z, z = xs 5 := ⟨_, rfl⟩
  refine lv_aload_n hx hb dL_law_378 rfl (lv_at hl 3 rfl) ?_
  refine lv_aload_n hx hb dL_law_379 rfl (lv_at hl 4 rfl) ?_
  refine lv_iload hx hb dL_law_380 (lv_at hl 0 rfl) ?_
  refine lv_iconst (v := 1) hx hb dL_law_382 (by decide) ?_
  refine lv_iadd hx hb dL_law_383 ?_
  refine nq_top (z := 1) (by decide) ?_
  refine va_sld hx hb hX hbl hbA hS (i := 1) (nq_in (by decide)) dL_law_384 ?_
  refine nq_top (z := a1) (ea1.symm) ?_
  refine lv_aload_n hx hb dL_law_385 rfl (lv_at hl 1 rfl) ?_
  refine nq_wri (wr := [(m0, .inr (11, [.int 0, .ref m_tree, .ref m_data, .ref m_made, .ref m_status, .int 0, .ref m_tape, .ref m_paths, .ref m_pathSize, .null, .int 0, .int 0, .int 0, .int 0, .int 0, .int 0, .int 0, .int 0, .int 0, .int 0, .int 0, .int (-1), .int 0, .ref m_set, .ref m_to, .int 0, .int 0, .int 0, .int 0, .int 0, .int 0, .ref m_lifted, .int 0, .int 0, .int 0, .ref m_order, .int 0, .ref m_past, .int 0, .ref m_rowKind, .ref m_rowSteps, .ref m_rowPath, .ref m_rowWas, .ref m_rowIs, .ref m_pool, .ref m_rowsMany, .ref m_poolMany, .ref m_way, .int 0, .ref m_out, .int 0, .int 0, .ref m_notedThing, .ref m_notedIs, .ref m_votes, .int 0, .int 0, .ref m_treeThen, .int 0, .int 0, .int 0, .ref m_imageTree, .ref m_pastThen, .ref m_notedThingThen, .ref m_notedIsThen, .ref m_statusThen])), (m_tree, .inl (y 0, 240, .inl (upd (upd (fun _ => 0) 0 3) 3 1))), (m_pathSize, .inl (y 0, 4, .inl (fun _ => 0))), (m_rowsMany, .inl (y 0, 2, .inl (fun _ => 0))), (m_status, .inl (y 0, 3, .inl (fun _ => 0))), (m_votes, .inl (y 0, 60, .inl (fun _ => 0)))]) (w1 := (fun (g9 : Nat → Int64) => [(ou, .inl (y 1, 1, .inr (.inl g9)))])) (vx_runSW (hh := [(0, 9, 12, 19)]) (As := [.ref x0, .int a1, .ref ou]) (rest := []) ⟨hx, hb, hml, hown, hts⟩ (w_count l hl0 G y H.size x0 tp ps sp tk dr pr da nw im ac ke si tx an dw nwt nwb nwn nwi nwr nwtk nwtv nwte nwtd ke1 ke2 ke3 ke4 a1 ou) (vx_cwSW 3 hts gv_L_count_89 rfl rfl rfl (by decide +kernel) ⟨Nat.le_of_ble_eq_true rfl, Nat.le_of_ble_eq_true rfl⟩) (nq_PXS hK hP hD hS hA hXs [0, 1, 2, 3, 4, 5, 6, 7, 8, 15] rfl rfl) rfl rfl hl.1 rfl (lv_room (Nat.le_of_ble_eq_true rfl)) dL_law_386 ⟨Nat.le_of_ble_eq_true rfl, Nat.le_of_ble_eq_true rfl⟩) hP hD hS hA [0, 1, 2, 3, 4, 5, 6, 7, 8, 15] [9, 10, 11, 12, 13, 14] rfl rfl (by decide) (by decide) (fun r_1 g_3 H locs hw_2 hP hD hS => ?_)
  have hP : va_P G vwCl [(m0, .inr (11, [.int 0, .ref m_tree, .ref m_data, .ref m_made, .ref m_status, .int 0, .ref m_tape, .ref m_paths, .ref m_pathSize, .null, .int 0, .int 0, .int 0, .int 0, .int 0, .int 0, .int 0, .int 0, .int 0, .int 0, .int 0, .int (-1), .int 0, .ref m_set, .ref m_to, .int 0, .int 0, .int 0, .int 0, .int 0, .int 0, .ref m_lifted, .int 0, .int 0, .int 0, .ref m_order, .int 0, .ref m_past, .int 0, .ref m_rowKind, .ref m_rowSteps, .ref m_rowPath, .ref m_rowWas, .ref m_rowIs, .ref m_pool, .ref m_rowsMany, .ref m_poolMany, .ref m_way, .int 0, .ref m_out, .int 0, .int 0, .ref m_notedThing, .ref m_notedIs, .ref m_votes, .int 0, .int 0, .ref m_treeThen, .int 0, .int 0, .int 0, .ref m_imageTree, .ref m_pastThen, .ref m_notedThingThen, .ref m_notedIsThen, .ref m_statusThen])), (m_tree, .inl (y 0, 240, .inl (upd (upd (fun _ => 0) 0 3) 3 1))), (m_pathSize, .inl (y 0, 4, .inl (fun _ => 0))), (m_rowsMany, .inl (y 0, 2, .inl (fun _ => 0))), (m_status, .inl (y 0, 3, .inl (fun _ => 0))), (m_votes, .inl (y 0, 60, .inl (fun _ => 0))), (ou, .inl (y 1, 1, .inr (.inl g_3)))] H := hP
  have hD : va_D A [(m0, .inr (11, [.int 0, .ref m_tree, .ref m_data, .ref m_made, .ref m_status, .int 0, .ref m_tape, .ref m_paths, .ref m_pathSize, .null, .int 0, .int 0, .int 0, .int 0, .int 0, .int 0, .int 0, .int 0, .int 0, .int 0, .int 0, .int (-1), .int 0, .ref m_set, .ref m_to, .int 0, .int 0, .int 0, .int 0, .int 0, .int 0, .ref m_lifted, .int 0, .int 0, .int 0, .ref m_order, .int 0, .ref m_past, .int 0, .ref m_rowKind, .ref m_rowSteps, .ref m_rowPath, .ref m_rowWas, .ref m_rowIs, .ref m_pool, .ref m_rowsMany, .ref m_poolMany, .ref m_way, .int 0, .ref m_out, .int 0, .int 0, .ref m_notedThing, .ref m_notedIs, .ref m_votes, .int 0, .int 0, .ref m_treeThen, .int 0, .int 0, .int 0, .ref m_imageTree, .ref m_pastThen, .ref m_notedThingThen, .ref m_notedIsThen, .ref m_statusThen])), (m_tree, .inl (y 0, 240, .inl (upd (upd (fun _ => 0) 0 3) 3 1))), (m_pathSize, .inl (y 0, 4, .inl (fun _ => 0))), (m_rowsMany, .inl (y 0, 2, .inl (fun _ => 0))), (m_status, .inl (y 0, 3, .inl (fun _ => 0))), (m_votes, .inl (y 0, 60, .inl (fun _ => 0))), (ou, .inl (y 1, 1, .inr (.inl g_3)))] := hD
  refine lv_istore (lv' := [(5, .int r_1), (4, .int 0), (3, .ref ou), (2, .ref m0), (1, .ref x0), (0, .ref b)]) hx hb dL_law_389 hl (by decide) rfl (fun ls hl => ?_)
  refine lv_aload_n hx hb dL_law_391 rfl (lv_at hl 3 rfl) ?_
  refine lv_aload_n hx hb dL_law_392 rfl (lv_at hl 5 rfl) ?_
  refine lv_iload hx hb dL_law_393 (lv_at hl 1 rfl) ?_
  refine lv_iconst (v := 1) hx hb dL_law_395 (by decide) ?_
  refine lv_iadd hx hb dL_law_396 ?_
  refine nq_top (z := 1) (by decide) ?_
  refine va_sld hx hb hX hbl hbA hS (i := 1) (nq_in (by decide)) dL_law_397 ?_
  refine nq_top (z := a1) (ea1.symm) ?_
  refine nq_wri (wr := [(ou, .inl (y 1, 1, .inr (.inl g_3)))]) (va_runV (As := [.int a1]) (rest := []) ⟨hx, hb, hml, hown, hts⟩ (m_count l G y H.size m0 m_tree m_data m_made m_status m_tape m_paths m_pathSize m_set m_to m_lifted m_order m_past m_rowKind m_rowSteps m_rowPath m_rowWas m_rowIs m_pool m_rowsMany m_poolMany m_way m_out m_notedThing m_notedIs m_votes m_treeThen m_imageTree m_pastThen m_notedThingThen m_notedIsThen m_statusThen a1 ) (cwV 1 hts gv_X11_count_91 rfl rfl rfl (by decide +kernel) ⟨Nat.le_of_ble_eq_true rfl, Nat.le_of_ble_eq_true rfl⟩) (nq_PV hK hP hD [0, 1, 2, 3, 4, 5] rfl rfl 0 rfl rfl) rfl rfl hl.1 rfl (lv_room (Nat.le_of_ble_eq_true rfl)) dL_law_398 ⟨Nat.le_of_ble_eq_true rfl, Nat.le_of_ble_eq_true rfl⟩) hP hD hS hA [0, 1, 2, 3, 4, 5] [6] rfl rfl (by decide) (by decide) (fun r_6 u_4 H locs hw_5 hP hD hS => ?_)
  have hP : va_P G vwCl [(ou, .inl (y 1, 1, .inr (.inl g_3))), (m0, .inr (11, u_4.2))] H := hP
  have hD : va_D A [(ou, .inl (y 1, 1, .inr (.inl g_3))), (m0, .inr (11, u_4.2))] := hD
  obtain ⟨hq_7, hq_8, hq_9⟩ := hw_5
  subst hq_9
  refine lv_istore (lv' := [(6, .int ((sp_count a1).2)), (5, .int r_1), (4, .int 0), (3, .ref ou), (2, .ref m0), (1, .ref x0), (0, .ref b)]) hx hb dL_law_401 hl (by decide) rfl (fun ls hl => ?_)
  refine lv_aload_n hx hb dL_law_403 rfl (lv_at hl 4 rfl) ?_
  refine nq_rdi (va_runV (As := []) (rest := []) ⟨hx, hb, hml, hown, hts⟩ (m_thrown l G y H.size m0 u_4 hq_7) (cwV 0 hts gv_X11_thrown_77 rfl rfl rfl (by decide +kernel) ⟨Nat.le_of_ble_eq_true rfl, Nat.le_of_ble_eq_true rfl⟩) (nq_PV hK hP hD [1] rfl rfl 1 rfl rfl) rfl rfl hl.1 rfl (lv_room (Nat.le_of_ble_eq_true rfl)) dL_law_404 ⟨Nat.le_of_ble_eq_true rfl, Nat.le_of_ble_eq_true rfl⟩) hP hS hA (fun r_10 H locs hw_11 hP hS => ?_)
  subst hw_11
  refine lv_iload hx hb dL_law_407 (lv_at hl 1 rfl) ?_
  refine lv_icmp_eq (tgt := 414) hx hb dL_law_409 (by decide) (fun _ => ?_) (fun c_12 => absurd (hq_8.trans hw_2.1.symm) c_12)
  refine lv_iload hx hb dL_law_414 (lv_at hl 1 rfl) ?_
  refine lv_if_ne (tgt := 431) hx hb dL_law_416 (by decide) (fun c_13 => ?_) (fun c_13 => ?_)
  · refine lv_goto (tgt := 1593) hx hb dL_law_431 (by decide) ?_
    refine lv_iinc (v := 6) (lv' := [(4, .int 6), (6, .int ((sp_count a1).2)), (5, .int r_1), (3, .ref ou), (2, .ref m0), (1, .ref x0), (0, .ref b)]) hx hb dL_law_1593 hl (k := 2) rfl (by decide) (by decide) rfl (fun ls hl => ?_)
    refine lv_goto (tgt := 23) hx hb dL_law_1596 (by decide) ?_
    refine lv_iload hx hb dL_law_23 (lv_at hl 0 rfl) ?_
    refine lv_aload_n hx hb dL_law_25 rfl (lv_at hl 6 rfl) ?_
    refine va_slen hx hb hX hbl hbA hS dL_law_26 ?_
    refine nq_top (z := 6) (by decide) ?_
    refine lv_bipush (v := 6) hx hb dL_law_27 (by decide) ?_
    refine lv_isub hx hb dL_law_29 ?_
    refine nq_top (z := 0) (by decide) ?_
    refine lv_icmp_gt (tgt := 1599) hx hb dL_law_30 (by decide) (fun _ => ?_) (fun c_14 => absurd c_14 (by decide))
    refine lv_iconst (v := 1) hx hb dL_law_1599 (by decide) ?_
    refine va_forget (fun q hq => by have h9 := hS.2.2 q hq; rw [hAe] at h9; exact h9) ?_
    refine W.widen (k := 600002) (n := 7302232) (Nat.le_of_ble_eq_true rfl) (Nat.le_of_ble_eq_true rfl) ?_
    exact lw_ret hx hb hr hlocks dL_law_1600
  · subst c_13
    refine lv_aload_n hx hb dL_law_419 rfl (lv_at hl 3 rfl) ?_
    refine lv_iconst (v := 0) hx hb dL_law_420 (by decide) ?_
    refine va_lald hx hb hK.1 hP 0 1 rfl rfl (i := 0) (nq_in (by decide)) dL_law_421 ?_
    refine nq_topl (z := ((sp_count a1).2).toInt64) (hw_2.2 rfl) ?_
    refine lv_iload hx hb dL_law_422 (lv_at hl 0 rfl) ?_
    refine lv_i2l (v := ((sp_count a1).2).toInt64) hx hb dL_law_424 rfl ?_
    refine W.lcmp hx hb dL_law_425 ?_
    refine nq_top (z := 0) (nq_cmp _) ?_
    refine lv_if_eq (tgt := 431) hx hb dL_law_426 (by decide) (fun _ => ?_) (fun c_15 => absurd c_15 (by decide))
    refine lv_goto (tgt := 1593) hx hb dL_law_431 (by decide) ?_
    refine lv_iinc (v := 6) (lv' := [(4, .int 6), (6, .int ((sp_count a1).2)), (5, .int 0), (3, .ref ou), (2, .ref m0), (1, .ref x0), (0, .ref b)]) hx hb dL_law_1593 hl (k := 2) rfl (by decide) (by decide) rfl (fun ls hl => ?_)
    refine lv_goto (tgt := 23) hx hb dL_law_1596 (by decide) ?_
    refine lv_iload hx hb dL_law_23 (lv_at hl 0 rfl) ?_
    refine lv_aload_n hx hb dL_law_25 rfl (lv_at hl 6 rfl) ?_
    refine va_slen hx hb hX hbl hbA hS dL_law_26 ?_
    refine nq_top (z := 6) (by decide) ?_
    refine lv_bipush (v := 6) hx hb dL_law_27 (by decide) ?_
    refine lv_isub hx hb dL_law_29 ?_
    refine nq_top (z := 0) (by decide) ?_
    refine lv_icmp_gt (tgt := 1599) hx hb dL_law_30 (by decide) (fun _ => ?_) (fun c_16 => absurd c_16 (by decide))
    refine lv_iconst (v := 1) hx hb dL_law_1599 (by decide) ?_
    refine va_forget (fun q hq => by have h9 := hS.2.2 q hq; rw [hAe] at h9; exact h9) ?_
    refine W.widen (k := 600002) (n := 7302232) (Nat.le_of_ble_eq_true rfl) (Nat.le_of_ble_eq_true rfl) ?_
    exact lw_ret hx hb hr hlocks dL_law_1600

set_option maxHeartbeats 400000 in
set_option maxRecDepth 100000 in
theorem lc_5 {p : Program} {e : Env} {s : State} {m : MethodId} {below : List Frame} {meth : Method} {c : Code} {l : Launch} {b : Nat} {xs : Nat → Int32} {G : va_G} {y : Nat → ClassId} {A : Nat → Prop} (hl0 : l.stackTraces = false) (C0 : lw_At p s m meth c b 6 xs) (hAe : A = fun q : Nat => s.heap.size ≤ q) (hK : nq_K G y s) (hXs : nq_X A s) (x0 : Nat) (tp : Nat) (ps : Nat) (sp : Nat) (tk : Nat) (dr : Nat) (pr : Nat) (da : Nat) (nw : Nat) (im : Nat) (ac : Nat) (ke : Nat) (si : Nat) (tx : Nat) (an : Nat) (dw : Nat) (nwt : Nat) (nwb : Nat) (nwn : Nat) (nwi : Nat) (nwr : Nat) (nwtk : Nat) (nwtv : Nat) (nwte : Nat) (nwtd : Nat) (m0 : Nat) (m_tree : Nat) (m_data : Nat) (m_made : Nat) (m_status : Nat) (m_tape : Nat) (m_paths : Nat) (m_pathSize : Nat) (m_set : Nat) (m_to : Nat) (m_lifted : Nat) (m_order : Nat) (m_past : Nat) (m_rowKind : Nat) (m_rowSteps : Nat) (m_rowPath : Nat) (m_rowWas : Nat) (m_rowIs : Nat) (m_pool : Nat) (m_rowsMany : Nat) (m_poolMany : Nat) (m_way : Nat) (m_out : Nat) (m_notedThing : Nat) (m_notedIs : Nat) (m_votes : Nat) (m_treeThen : Nat) (m_imageTree : Nat) (m_pastThen : Nat) (m_notedThingThen : Nat) (m_notedIsThen : Nat) (m_statusThen : Nat) (ou : Nat) (H : Heap) (locs : List Loc) (ls : Array Slot) (hP : va_P G vwCl [(x0, .inr (10, [.ref tp, .int 0, .int (-1), .ref ps, .ref sp, .ref tk, .ref dr, .ref pr, .ref da, .ref nw, .ref im, .int 0, .ref ac, .ref ke, .ref si, .ref tx, .ref an, .ref dw])), (nw, .inr (6, [.ref nwt, .ref nwb, .int 0, .ref nwn, .ref nwi, .int 0, .ref nwr])), (nwt, .inr (9, [.ref nwtk, .ref nwtv, .ref nwte, .ref nwtd, .int 1])), (nwtk, .inl (y 0, 60, .inl (upd (fun _ => 0) 0 3))), (nwtd, .inl (y 0, 60, .inl (upd (fun _ => 0) 0 0))), (nwte, .inl (y 0, 60, .inl (upd (fun _ => 0) 0 0))), (ps, .inl (y 3, 4, .inr (.inr (.inr (.inr (fun _ => none)))))), (an, .inl (y 1, 4, .inr (.inl (fun _ => 0)))), (m0, .inr (11, [.int 0, .ref m_tree, .ref m_data, .ref m_made, .ref m_status, .int 0, .ref m_tape, .ref m_paths, .ref m_pathSize, .null, .int 0, .int 0, .int 0, .int 0, .int 0, .int 0, .int 0, .int 0, .int 0, .int 0, .int 0, .int (-1), .int 0, .ref m_set, .ref m_to, .int 0, .int 0, .int 0, .int 0, .int 0, .int 0, .ref m_lifted, .int 0, .int 0, .int 0, .ref m_order, .int 0, .ref m_past, .int 0, .ref m_rowKind, .ref m_rowSteps, .ref m_rowPath, .ref m_rowWas, .ref m_rowIs, .ref m_pool, .ref m_rowsMany, .ref m_poolMany, .ref m_way, .int 0, .ref m_out, .int 0, .int 0, .ref m_notedThing, .ref m_notedIs, .ref m_votes, .int 0, .int 0, .ref m_treeThen, .int 0, .int 0, .int 0, .ref m_imageTree, .ref m_pastThen, .ref m_notedThingThen, .ref m_notedIsThen, .ref m_statusThen])), (m_tree, .inl (y 0, 240, .inl (upd (upd (fun _ => 0) 0 3) 3 1))), (m_pathSize, .inl (y 0, 4, .inl (fun _ => 0))), (ou, .inl (y 1, 1, .inr (.inl (fun _ => 0))))] H) (hD : va_D A [(x0, .inr (10, [.ref tp, .int 0, .int (-1), .ref ps, .ref sp, .ref tk, .ref dr, .ref pr, .ref da, .ref nw, .ref im, .int 0, .ref ac, .ref ke, .ref si, .ref tx, .ref an, .ref dw])), (nw, .inr (6, [.ref nwt, .ref nwb, .int 0, .ref nwn, .ref nwi, .int 0, .ref nwr])), (nwt, .inr (9, [.ref nwtk, .ref nwtv, .ref nwte, .ref nwtd, .int 1])), (nwtk, .inl (y 0, 60, .inl (upd (fun _ => 0) 0 3))), (nwtd, .inl (y 0, 60, .inl (upd (fun _ => 0) 0 0))), (nwte, .inl (y 0, 60, .inl (upd (fun _ => 0) 0 0))), (ps, .inl (y 3, 4, .inr (.inr (.inr (.inr (fun _ => none)))))), (an, .inl (y 1, 4, .inr (.inl (fun _ => 0)))), (m0, .inr (11, [.int 0, .ref m_tree, .ref m_data, .ref m_made, .ref m_status, .int 0, .ref m_tape, .ref m_paths, .ref m_pathSize, .null, .int 0, .int 0, .int 0, .int 0, .int 0, .int 0, .int 0, .int 0, .int 0, .int 0, .int 0, .int (-1), .int 0, .ref m_set, .ref m_to, .int 0, .int 0, .int 0, .int 0, .int 0, .int 0, .ref m_lifted, .int 0, .int 0, .int 0, .ref m_order, .int 0, .ref m_past, .int 0, .ref m_rowKind, .ref m_rowSteps, .ref m_rowPath, .ref m_rowWas, .ref m_rowIs, .ref m_pool, .ref m_rowsMany, .ref m_poolMany, .ref m_way, .int 0, .ref m_out, .int 0, .int 0, .ref m_notedThing, .ref m_notedIs, .ref m_votes, .int 0, .int 0, .ref m_treeThen, .int 0, .int 0, .int 0, .ref m_imageTree, .ref m_pastThen, .ref m_notedThingThen, .ref m_notedIsThen, .ref m_statusThen])), (m_tree, .inl (y 0, 240, .inl (upd (upd (fun _ => 0) 0 3) 3 1))), (m_pathSize, .inl (y 0, 4, .inl (fun _ => 0))), (ou, .inl (y 1, 1, .inr (.inl (fun _ => 0))))]) (hS : va_S A s.heap H locs) (hl : lv_has ls 7 [(4, .int 0), (3, .ref ou), (2, .ref m0), (1, .ref x0), (0, .ref b)]) : W p l e room_1 s m #[Value.ref b] below meth c H locs 121 52808 (lw_Z below #[Value.ref b] s) (F0 m 434 ls []) := by
  obtain ⟨hx, hb, hr, hml, hown, hts, hX, hbl, hlocks, hgv⟩ := C0
  have hA : ∀ q : Nat, s.heap.size ≤ q → A q := fun q h => by rw [hAe]; exact h
  have hbA : ¬ A b := by rw [hAe]; exact Nat.not_le.mpr hbl
  have hl : lv_has ls 7 [(4, .int 0), (3, .ref ou), (2, .ref m0), (1, .ref x0), (0, .ref b)] := hl
  obtain ⟨a1, ea1⟩ : ∃ z, z = xs 1 := ⟨_, rfl⟩
  obtain ⟨a2, ea2⟩ : ∃ z, z = xs 2 := ⟨_, rfl⟩
  obtain ⟨a3, ea3⟩ : ∃ z, z = xs 3 := ⟨_, rfl⟩
  obtain ⟨a4, ea4⟩ : ∃ z, z = xs 4 := ⟨_, rfl⟩
  obtain ⟨a5, ea5⟩ : ∃ z, z = xs 5 := ⟨_, rfl⟩
  refine lv_aload_n hx hb dL_law_434 rfl (lv_at hl 3 rfl) ?_
  refine lv_aload_n hx hb dL_law_435 rfl (lv_at hl 4 rfl) ?_
  refine lv_iload hx hb dL_law_436 (lv_at hl 0 rfl) ?_
  refine lv_iconst (v := 1) hx hb dL_law_438 (by decide) ?_
  refine lv_iadd hx hb dL_law_439 ?_
  refine nq_top (z := 1) (by decide) ?_
  refine va_sld hx hb hX hbl hbA hS (i := 1) (nq_in (by decide)) dL_law_440 ?_
  refine nq_top (z := a1) (ea1.symm) ?_
  refine lv_aload_n hx hb dL_law_441 rfl (lv_at hl 4 rfl) ?_
  refine lv_iload hx hb dL_law_442 (lv_at hl 0 rfl) ?_
  refine lv_iconst (v := 2) hx hb dL_law_444 (by decide) ?_
  refine lv_iadd hx hb dL_law_445 ?_
  refine nq_top (z := 2) (by decide) ?_
  refine va_sld hx hb hX hbl hbA hS (i := 2) (nq_in (by decide)) dL_law_446 ?_
  refine nq_top (z := a2) (ea2.symm) ?_
  refine lv_aload_n hx hb dL_law_447 rfl (lv_at hl 1 rfl) ?_
  refine nq_wri (wr := [(m0, .inr (11, [.int 0, .ref m_tree, .ref m_data, .ref m_made, .ref m_status, .int 0, .ref m_tape, .ref m_paths, .ref m_pathSize, .null, .int 0, .int 0, .int 0, .int 0, .int 0, .int 0, .int 0, .int 0, .int 0, .int 0, .int 0, .int (-1), .int 0, .ref m_set, .ref m_to, .int 0, .int 0, .int 0, .int 0, .int 0, .int 0, .ref m_lifted, .int 0, .int 0, .int 0, .ref m_order, .int 0, .ref m_past, .int 0, .ref m_rowKind, .ref m_rowSteps, .ref m_rowPath, .ref m_rowWas, .ref m_rowIs, .ref m_pool, .ref m_rowsMany, .ref m_poolMany, .ref m_way, .int 0, .ref m_out, .int 0, .int 0, .ref m_notedThing, .ref m_notedIs, .ref m_votes, .int 0, .int 0, .ref m_treeThen, .int 0, .int 0, .int 0, .ref m_imageTree, .ref m_pastThen, .ref m_notedThingThen, .ref m_notedIsThen, .ref m_statusThen])), (m_tree, .inl (y 0, 240, .inl (upd (upd (fun _ => 0) 0 3) 3 1))), (m_pathSize, .inl (y 0, 4, .inl (fun _ => 0)))]) (w1 := (fun (g9 : Nat → Int64) => [(ou, .inl (y 1, 1, .inr (.inl g9)))])) (vx_runSW (hh := [(0, 10, 13, 19)]) (As := [.ref x0, .int a1, .int a2, .ref ou]) (rest := []) ⟨hx, hb, hml, hown, hts⟩ (w_thing l hl0 G y H.size x0 tp ps sp tk dr pr da nw im ac ke si tx an dw nwt nwb nwn nwi nwr nwtk nwtv nwte nwtd a1 a2 ou) (vx_cwSW 4 hts gv_L_thing_92 rfl rfl rfl (by decide +kernel) ⟨Nat.le_of_ble_eq_true rfl, Nat.le_of_ble_eq_true rfl⟩) (nq_PXS hK hP hD hS hA hXs [0, 1, 2, 3, 4, 5, 6, 7, 11] rfl rfl) rfl rfl hl.1 rfl (lv_room (Nat.le_of_ble_eq_true rfl)) dL_law_448 ⟨Nat.le_of_ble_eq_true rfl, Nat.le_of_ble_eq_true rfl⟩) hP hD hS hA [0, 1, 2, 3, 4, 5, 6, 7, 11] [8, 9, 10] rfl rfl (by decide) (by decide) (fun r_1 g_3 H locs hw_2 hP hD hS => ?_)
  have hP : va_P G vwCl [(m0, .inr (11, [.int 0, .ref m_tree, .ref m_data, .ref m_made, .ref m_status, .int 0, .ref m_tape, .ref m_paths, .ref m_pathSize, .null, .int 0, .int 0, .int 0, .int 0, .int 0, .int 0, .int 0, .int 0, .int 0, .int 0, .int 0, .int (-1), .int 0, .ref m_set, .ref m_to, .int 0, .int 0, .int 0, .int 0, .int 0, .int 0, .ref m_lifted, .int 0, .int 0, .int 0, .ref m_order, .int 0, .ref m_past, .int 0, .ref m_rowKind, .ref m_rowSteps, .ref m_rowPath, .ref m_rowWas, .ref m_rowIs, .ref m_pool, .ref m_rowsMany, .ref m_poolMany, .ref m_way, .int 0, .ref m_out, .int 0, .int 0, .ref m_notedThing, .ref m_notedIs, .ref m_votes, .int 0, .int 0, .ref m_treeThen, .int 0, .int 0, .int 0, .ref m_imageTree, .ref m_pastThen, .ref m_notedThingThen, .ref m_notedIsThen, .ref m_statusThen])), (m_tree, .inl (y 0, 240, .inl (upd (upd (fun _ => 0) 0 3) 3 1))), (m_pathSize, .inl (y 0, 4, .inl (fun _ => 0))), (ou, .inl (y 1, 1, .inr (.inl g_3)))] H := hP
  have hD : va_D A [(m0, .inr (11, [.int 0, .ref m_tree, .ref m_data, .ref m_made, .ref m_status, .int 0, .ref m_tape, .ref m_paths, .ref m_pathSize, .null, .int 0, .int 0, .int 0, .int 0, .int 0, .int 0, .int 0, .int 0, .int 0, .int 0, .int 0, .int (-1), .int 0, .ref m_set, .ref m_to, .int 0, .int 0, .int 0, .int 0, .int 0, .int 0, .ref m_lifted, .int 0, .int 0, .int 0, .ref m_order, .int 0, .ref m_past, .int 0, .ref m_rowKind, .ref m_rowSteps, .ref m_rowPath, .ref m_rowWas, .ref m_rowIs, .ref m_pool, .ref m_rowsMany, .ref m_poolMany, .ref m_way, .int 0, .ref m_out, .int 0, .int 0, .ref m_notedThing, .ref m_notedIs, .ref m_votes, .int 0, .int 0, .ref m_treeThen, .int 0, .int 0, .int 0, .ref m_imageTree, .ref m_pastThen, .ref m_notedThingThen, .ref m_notedIsThen, .ref m_statusThen])), (m_tree, .inl (y 0, 240, .inl (upd (upd (fun _ => 0) 0 3) 3 1))), (m_pathSize, .inl (y 0, 4, .inl (fun _ => 0))), (ou, .inl (y 1, 1, .inr (.inl g_3)))] := hD
  refine lv_istore (lv' := [(5, .int r_1), (4, .int 0), (3, .ref ou), (2, .ref m0), (1, .ref x0), (0, .ref b)]) hx hb dL_law_451 hl (by decide) rfl (fun ls hl => ?_)
  refine lv_aload_n hx hb dL_law_453 rfl (lv_at hl 3 rfl) ?_
  refine lv_aload_n hx hb dL_law_454 rfl (lv_at hl 5 rfl) ?_
  refine lv_iload hx hb dL_law_455 (lv_at hl 1 rfl) ?_
  refine lv_iconst (v := 1) hx hb dL_law_457 (by decide) ?_
  refine lv_iadd hx hb dL_law_458 ?_
  refine nq_top (z := 1) (by decide) ?_
  refine va_sld hx hb hX hbl hbA hS (i := 1) (nq_in (by decide)) dL_law_459 ?_
  refine nq_top (z := a1) (ea1.symm) ?_
  refine lv_aload_n hx hb dL_law_460 rfl (lv_at hl 5 rfl) ?_
  refine lv_iload hx hb dL_law_461 (lv_at hl 1 rfl) ?_
  refine lv_iconst (v := 2) hx hb dL_law_463 (by decide) ?_
  refine lv_iadd hx hb dL_law_464 ?_
  refine nq_top (z := 2) (by decide) ?_
  refine va_sld hx hb hX hbl hbA hS (i := 2) (nq_in (by decide)) dL_law_465 ?_
  refine nq_top (z := a2) (ea2.symm) ?_
  refine nq_wri (wr := [(ou, .inl (y 1, 1, .inr (.inl g_3)))]) (va_runV (As := [.int a1, .int a2]) (rest := []) ⟨hx, hb, hml, hown, hts⟩ (m_thing l G y H.size m0 m_tree m_data m_made m_status m_tape m_paths m_pathSize m_set m_to m_lifted m_order m_past m_rowKind m_rowSteps m_rowPath m_rowWas m_rowIs m_pool m_rowsMany m_poolMany m_way m_out m_notedThing m_notedIs m_votes m_treeThen m_imageTree m_pastThen m_notedThingThen m_notedIsThen m_statusThen a1 a2 ) (cwV 2 hts gv_X11_thing_94 rfl rfl rfl (by decide +kernel) ⟨Nat.le_of_ble_eq_true rfl, Nat.le_of_ble_eq_true rfl⟩) (nq_PV hK hP hD [0, 1, 2] rfl rfl 0 rfl rfl) rfl rfl hl.1 rfl (lv_room (Nat.le_of_ble_eq_true rfl)) dL_law_466 ⟨Nat.le_of_ble_eq_true rfl, Nat.le_of_ble_eq_true rfl⟩) hP hD hS hA [0, 1, 2] [3] rfl rfl (by decide) (by decide) (fun r_6 u_4 H locs hw_5 hP hD hS => ?_)
  have hP : va_P G vwCl [(ou, .inl (y 1, 1, .inr (.inl g_3))), (m0, .inr (11, u_4.2))] H := hP
  have hD : va_D A [(ou, .inl (y 1, 1, .inr (.inl g_3))), (m0, .inr (11, u_4.2))] := hD
  obtain ⟨hq_7, hq_8, hq_9⟩ := hw_5
  subst hq_9
  refine lv_istore (lv' := [(6, .int ((sp_thing a1 a2).2)), (5, .int r_1), (4, .int 0), (3, .ref ou), (2, .ref m0), (1, .ref x0), (0, .ref b)]) hx hb dL_law_469 hl (by decide) rfl (fun ls hl => ?_)
  refine lv_aload_n hx hb dL_law_471 rfl (lv_at hl 4 rfl) ?_
  refine nq_rdi (va_runV (As := []) (rest := []) ⟨hx, hb, hml, hown, hts⟩ (m_thrown l G y H.size m0 u_4 hq_7) (cwV 0 hts gv_X11_thrown_77 rfl rfl rfl (by decide +kernel) ⟨Nat.le_of_ble_eq_true rfl, Nat.le_of_ble_eq_true rfl⟩) (nq_PV hK hP hD [1] rfl rfl 1 rfl rfl) rfl rfl hl.1 rfl (lv_room (Nat.le_of_ble_eq_true rfl)) dL_law_472 ⟨Nat.le_of_ble_eq_true rfl, Nat.le_of_ble_eq_true rfl⟩) hP hS hA (fun r_10 H locs hw_11 hP hS => ?_)
  subst hw_11
  refine lv_iload hx hb dL_law_475 (lv_at hl 1 rfl) ?_
  refine lv_icmp_eq (tgt := 482) hx hb dL_law_477 (by decide) (fun _ => ?_) (fun c_12 => absurd (hq_8.trans hw_2.1.symm) c_12)
  refine lv_iload hx hb dL_law_482 (lv_at hl 1 rfl) ?_
  refine lv_if_ne (tgt := 499) hx hb dL_law_484 (by decide) (fun c_13 => ?_) (fun c_13 => ?_)
  · refine lv_goto (tgt := 1593) hx hb dL_law_499 (by decide) ?_
    refine lv_iinc (v := 6) (lv' := [(4, .int 6), (6, .int ((sp_thing a1 a2).2)), (5, .int r_1), (3, .ref ou), (2, .ref m0), (1, .ref x0), (0, .ref b)]) hx hb dL_law_1593 hl (k := 2) rfl (by decide) (by decide) rfl (fun ls hl => ?_)
    refine lv_goto (tgt := 23) hx hb dL_law_1596 (by decide) ?_
    refine lv_iload hx hb dL_law_23 (lv_at hl 0 rfl) ?_
    refine lv_aload_n hx hb dL_law_25 rfl (lv_at hl 6 rfl) ?_
    refine va_slen hx hb hX hbl hbA hS dL_law_26 ?_
    refine nq_top (z := 6) (by decide) ?_
    refine lv_bipush (v := 6) hx hb dL_law_27 (by decide) ?_
    refine lv_isub hx hb dL_law_29 ?_
    refine nq_top (z := 0) (by decide) ?_
    refine lv_icmp_gt (tgt := 1599) hx hb dL_law_30 (by decide) (fun _ => ?_) (fun c_14 => absurd c_14 (by decide))
    refine lv_iconst (v := 1) hx hb dL_law_1599 (by decide) ?_
    refine va_forget (fun q hq => by have h9 := hS.2.2 q hq; rw [hAe] at h9; exact h9) ?_
    refine W.widen (k := 600002) (n := 7302232) (Nat.le_of_ble_eq_true rfl) (Nat.le_of_ble_eq_true rfl) ?_
    exact lw_ret hx hb hr hlocks dL_law_1600
  · subst c_13
    refine lv_aload_n hx hb dL_law_487 rfl (lv_at hl 3 rfl) ?_
    refine lv_iconst (v := 0) hx hb dL_law_488 (by decide) ?_
    refine va_lald hx hb hK.1 hP 0 1 rfl rfl (i := 0) (nq_in (by decide)) dL_law_489 ?_
    refine nq_topl (z := ((sp_thing a1 a2).2).toInt64) (hw_2.2 rfl) ?_
    refine lv_iload hx hb dL_law_490 (lv_at hl 0 rfl) ?_
    refine lv_i2l (v := ((sp_thing a1 a2).2).toInt64) hx hb dL_law_492 rfl ?_
    refine W.lcmp hx hb dL_law_493 ?_
    refine nq_top (z := 0) (nq_cmp _) ?_
    refine lv_if_eq (tgt := 499) hx hb dL_law_494 (by decide) (fun _ => ?_) (fun c_15 => absurd c_15 (by decide))
    refine lv_goto (tgt := 1593) hx hb dL_law_499 (by decide) ?_
    refine lv_iinc (v := 6) (lv' := [(4, .int 6), (6, .int ((sp_thing a1 a2).2)), (5, .int 0), (3, .ref ou), (2, .ref m0), (1, .ref x0), (0, .ref b)]) hx hb dL_law_1593 hl (k := 2) rfl (by decide) (by decide) rfl (fun ls hl => ?_)
    refine lv_goto (tgt := 23) hx hb dL_law_1596 (by decide) ?_
    refine lv_iload hx hb dL_law_23 (lv_at hl 0 rfl) ?_
    refine lv_aload_n hx hb dL_law_25 rfl (lv_at hl 6 rfl) ?_
    refine va_slen hx hb hX hbl hbA hS dL_law_26 ?_
    refine nq_top (z := 6) (by decide) ?_
    refine lv_bipush (v := 6) hx hb dL_law_27 (by decide) ?_
    refine lv_isub hx hb dL_law_29 ?_
    refine nq_top (z := 0) (by decide) ?_
    refine lv_icmp_gt (tgt := 1599) hx hb dL_law_30 (by decide) (fun _ => ?_) (fun c_16 => absurd c_16 (by decide))
    refine lv_iconst (v := 1) hx hb dL_law_1599 (by decide) ?_
    refine va_forget (fun q hq => by have h9 := hS.2.2 q hq; rw [hAe] at h9; exact h9) ?_
    refine W.widen (k := 600002) (n := 7302232) (Nat.le_of_ble_eq_true rfl) (Nat.le_of_ble_eq_true rfl) ?_
    exact lw_ret hx hb hr hlocks dL_law_1600

set_option maxHeartbeats 400000 in
set_option maxRecDepth 100000 in
theorem lc_6 {p : Program} {e : Env} {s : State} {m : MethodId} {below : List Frame} {meth : Method} {c : Code} {l : Launch} {b : Nat} {xs : Nat → Int32} {G : va_G} {y : Nat → ClassId} {A : Nat → Prop} (hl0 : l.stackTraces = false) (C0 : lw_At p s m meth c b 6 xs) (hAe : A = fun q : Nat => s.heap.size ≤ q) (hK : nq_K G y s) (hXs : nq_X A s) (x0 : Nat) (tp : Nat) (ps : Nat) (sp : Nat) (tk : Nat) (dr : Nat) (pr : Nat) (da : Nat) (nw : Nat) (im : Nat) (ac : Nat) (ke : Nat) (si : Nat) (tx : Nat) (an : Nat) (dw : Nat) (nwt : Nat) (nwb : Nat) (nwn : Nat) (nwi : Nat) (nwr : Nat) (nwtk : Nat) (nwtv : Nat) (nwte : Nat) (nwtd : Nat) (m0 : Nat) (m_tree : Nat) (m_data : Nat) (m_made : Nat) (m_status : Nat) (m_tape : Nat) (m_paths : Nat) (m_pathSize : Nat) (m_set : Nat) (m_to : Nat) (m_lifted : Nat) (m_order : Nat) (m_past : Nat) (m_rowKind : Nat) (m_rowSteps : Nat) (m_rowPath : Nat) (m_rowWas : Nat) (m_rowIs : Nat) (m_pool : Nat) (m_rowsMany : Nat) (m_poolMany : Nat) (m_way : Nat) (m_out : Nat) (m_notedThing : Nat) (m_notedIs : Nat) (m_votes : Nat) (m_treeThen : Nat) (m_imageTree : Nat) (m_pastThen : Nat) (m_notedThingThen : Nat) (m_notedIsThen : Nat) (m_statusThen : Nat) (ou : Nat) (H : Heap) (locs : List Loc) (ls : Array Slot) (hP : va_P G vwCl [(x0, .inr (10, [.ref tp, .int 0, .int (-1), .ref ps, .ref sp, .ref tk, .ref dr, .ref pr, .ref da, .ref nw, .ref im, .int 0, .ref ac, .ref ke, .ref si, .ref tx, .ref an, .ref dw])), (nw, .inr (6, [.ref nwt, .ref nwb, .int 0, .ref nwn, .ref nwi, .int 0, .ref nwr])), (nwt, .inr (9, [.ref nwtk, .ref nwtv, .ref nwte, .ref nwtd, .int 1])), (nwtk, .inl (y 0, 60, .inl (upd (fun _ => 0) 0 3))), (m0, .inr (11, [.int 0, .ref m_tree, .ref m_data, .ref m_made, .ref m_status, .int 0, .ref m_tape, .ref m_paths, .ref m_pathSize, .null, .int 0, .int 0, .int 0, .int 0, .int 0, .int 0, .int 0, .int 0, .int 0, .int 0, .int 0, .int (-1), .int 0, .ref m_set, .ref m_to, .int 0, .int 0, .int 0, .int 0, .int 0, .int 0, .ref m_lifted, .int 0, .int 0, .int 0, .ref m_order, .int 0, .ref m_past, .int 0, .ref m_rowKind, .ref m_rowSteps, .ref m_rowPath, .ref m_rowWas, .ref m_rowIs, .ref m_pool, .ref m_rowsMany, .ref m_poolMany, .ref m_way, .int 0, .ref m_out, .int 0, .int 0, .ref m_notedThing, .ref m_notedIs, .ref m_votes, .int 0, .int 0, .ref m_treeThen, .int 0, .int 0, .int 0, .ref m_imageTree, .ref m_pastThen, .ref m_notedThingThen, .ref m_notedIsThen, .ref m_statusThen])), (m_tree, .inl (y 0, 240, .inl (upd (upd (fun _ => 0) 0 3) 3 1))), (ou, .inl (y 1, 1, .inr (.inl (fun _ => 0))))] H) (hD : va_D A [(x0, .inr (10, [.ref tp, .int 0, .int (-1), .ref ps, .ref sp, .ref tk, .ref dr, .ref pr, .ref da, .ref nw, .ref im, .int 0, .ref ac, .ref ke, .ref si, .ref tx, .ref an, .ref dw])), (nw, .inr (6, [.ref nwt, .ref nwb, .int 0, .ref nwn, .ref nwi, .int 0, .ref nwr])), (nwt, .inr (9, [.ref nwtk, .ref nwtv, .ref nwte, .ref nwtd, .int 1])), (nwtk, .inl (y 0, 60, .inl (upd (fun _ => 0) 0 3))), (m0, .inr (11, [.int 0, .ref m_tree, .ref m_data, .ref m_made, .ref m_status, .int 0, .ref m_tape, .ref m_paths, .ref m_pathSize, .null, .int 0, .int 0, .int 0, .int 0, .int 0, .int 0, .int 0, .int 0, .int 0, .int 0, .int 0, .int (-1), .int 0, .ref m_set, .ref m_to, .int 0, .int 0, .int 0, .int 0, .int 0, .int 0, .ref m_lifted, .int 0, .int 0, .int 0, .ref m_order, .int 0, .ref m_past, .int 0, .ref m_rowKind, .ref m_rowSteps, .ref m_rowPath, .ref m_rowWas, .ref m_rowIs, .ref m_pool, .ref m_rowsMany, .ref m_poolMany, .ref m_way, .int 0, .ref m_out, .int 0, .int 0, .ref m_notedThing, .ref m_notedIs, .ref m_votes, .int 0, .int 0, .ref m_treeThen, .int 0, .int 0, .int 0, .ref m_imageTree, .ref m_pastThen, .ref m_notedThingThen, .ref m_notedIsThen, .ref m_statusThen])), (m_tree, .inl (y 0, 240, .inl (upd (upd (fun _ => 0) 0 3) 3 1))), (ou, .inl (y 1, 1, .inr (.inl (fun _ => 0))))]) (hS : va_S A s.heap H locs) (hl : lv_has ls 7 [(4, .int 0), (3, .ref ou), (2, .ref m0), (1, .ref x0), (0, .ref b)]) : W p l e room_1 s m #[Value.ref b] below meth c H locs 121 52808 (lw_Z below #[Value.ref b] s) (F0 m 502 ls []) := by
  obtain ⟨hx, hb, hr, hml, hown, hts, hX, hbl, hlocks, hgv⟩ := C0
  have hA : ∀ q : Nat, s.heap.size ≤ q → A q := fun q h => by rw [hAe]; exact h
  have hbA : ¬ A b := by rw [hAe]; exact Nat.not_le.mpr hbl
  have hl : lv_has ls 7 [(4, .int 0), (3, .ref ou), (2, .ref m0), (1, .ref x0), (0, .ref b)] := hl
  obtain ⟨a1, ea1⟩ : ∃ z, z = xs 1 := ⟨_, rfl⟩
  obtain ⟨a2, ea2⟩ : ∃ z, z = xs 2 := ⟨_, rfl⟩
  obtain ⟨a3, ea3⟩ : ∃ z, z = xs 3 := ⟨_, rfl⟩
  obtain ⟨a4, ea4⟩ : ∃ z, z = xs 4 := ⟨_, rfl⟩
  obtain ⟨a5, ea5⟩ : ∃ z, z = xs 5 := ⟨_, rfl⟩
  refine lv_aload_n hx hb dL_law_502 rfl (lv_at hl 3 rfl) ?_
  refine lv_aload_n hx hb dL_law_503 rfl (lv_at hl 4 rfl) ?_
  refine lv_iload hx hb dL_law_504 (lv_at hl 0 rfl) ?_
  refine lv_iconst (v := 1) hx hb dL_law_506 (by decide) ?_
  refine lv_iadd hx hb dL_law_507 ?_
  refine nq_top (z := 1) (by decide) ?_
  refine va_sld hx hb hX hbl hbA hS (i := 1) (nq_in (by decide)) dL_law_508 ?_
  refine nq_top (z := a1) (ea1.symm) ?_
  refine lv_aload_n hx hb dL_law_509 rfl (lv_at hl 4 rfl) ?_
  refine lv_iload hx hb dL_law_510 (lv_at hl 0 rfl) ?_
  refine lv_iconst (v := 2) hx hb dL_law_512 (by decide) ?_
  refine lv_iadd hx hb dL_law_513 ?_
  refine nq_top (z := 2) (by decide) ?_
  refine va_sld hx hb hX hbl hbA hS (i := 2) (nq_in (by decide)) dL_law_514 ?_
  refine nq_top (z := a2) (ea2.symm) ?_
  refine lv_aload_n hx hb dL_law_515 rfl (lv_at hl 1 rfl) ?_
  refine nq_wri (wr := [(m0, .inr (11, [.int 0, .ref m_tree, .ref m_data, .ref m_made, .ref m_status, .int 0, .ref m_tape, .ref m_paths, .ref m_pathSize, .null, .int 0, .int 0, .int 0, .int 0, .int 0, .int 0, .int 0, .int 0, .int 0, .int 0, .int 0, .int (-1), .int 0, .ref m_set, .ref m_to, .int 0, .int 0, .int 0, .int 0, .int 0, .int 0, .ref m_lifted, .int 0, .int 0, .int 0, .ref m_order, .int 0, .ref m_past, .int 0, .ref m_rowKind, .ref m_rowSteps, .ref m_rowPath, .ref m_rowWas, .ref m_rowIs, .ref m_pool, .ref m_rowsMany, .ref m_poolMany, .ref m_way, .int 0, .ref m_out, .int 0, .int 0, .ref m_notedThing, .ref m_notedIs, .ref m_votes, .int 0, .int 0, .ref m_treeThen, .int 0, .int 0, .int 0, .ref m_imageTree, .ref m_pastThen, .ref m_notedThingThen, .ref m_notedIsThen, .ref m_statusThen])), (m_tree, .inl (y 0, 240, .inl (upd (upd (fun _ => 0) 0 3) 3 1)))]) (w1 := (fun (g9 : Nat → Int64) => [(ou, .inl (y 1, 1, .inr (.inl g9)))])) (vx_runSW (hh := [(0, 10, 13, 19)]) (As := [.ref x0, .int a1, .int a2, .ref ou]) (rest := []) ⟨hx, hb, hml, hown, hts⟩ (w_within l hl0 G y H.size x0 tp ps sp tk dr pr da nw im ac ke si tx an dw nwt nwb nwn nwi nwr nwtk nwtv nwte nwtd a1 a2 ou) (vx_cwSW 4 hts gv_L_within_95 rfl rfl rfl (by decide +kernel) ⟨Nat.le_of_ble_eq_true rfl, Nat.le_of_ble_eq_true rfl⟩) (nq_PXS hK hP hD hS hA hXs [0, 1, 2, 3, 6] rfl rfl) rfl rfl hl.1 rfl (lv_room (Nat.le_of_ble_eq_true rfl)) dL_law_516 ⟨Nat.le_of_ble_eq_true rfl, Nat.le_of_ble_eq_true rfl⟩) hP hD hS hA [0, 1, 2, 3, 6] [4, 5] rfl rfl (by decide) (by decide) (fun r_1 g_3 H locs hw_2 hP hD hS => ?_)
  have hP : va_P G vwCl [(m0, .inr (11, [.int 0, .ref m_tree, .ref m_data, .ref m_made, .ref m_status, .int 0, .ref m_tape, .ref m_paths, .ref m_pathSize, .null, .int 0, .int 0, .int 0, .int 0, .int 0, .int 0, .int 0, .int 0, .int 0, .int 0, .int 0, .int (-1), .int 0, .ref m_set, .ref m_to, .int 0, .int 0, .int 0, .int 0, .int 0, .int 0, .ref m_lifted, .int 0, .int 0, .int 0, .ref m_order, .int 0, .ref m_past, .int 0, .ref m_rowKind, .ref m_rowSteps, .ref m_rowPath, .ref m_rowWas, .ref m_rowIs, .ref m_pool, .ref m_rowsMany, .ref m_poolMany, .ref m_way, .int 0, .ref m_out, .int 0, .int 0, .ref m_notedThing, .ref m_notedIs, .ref m_votes, .int 0, .int 0, .ref m_treeThen, .int 0, .int 0, .int 0, .ref m_imageTree, .ref m_pastThen, .ref m_notedThingThen, .ref m_notedIsThen, .ref m_statusThen])), (m_tree, .inl (y 0, 240, .inl (upd (upd (fun _ => 0) 0 3) 3 1))), (ou, .inl (y 1, 1, .inr (.inl g_3)))] H := hP
  have hD : va_D A [(m0, .inr (11, [.int 0, .ref m_tree, .ref m_data, .ref m_made, .ref m_status, .int 0, .ref m_tape, .ref m_paths, .ref m_pathSize, .null, .int 0, .int 0, .int 0, .int 0, .int 0, .int 0, .int 0, .int 0, .int 0, .int 0, .int 0, .int (-1), .int 0, .ref m_set, .ref m_to, .int 0, .int 0, .int 0, .int 0, .int 0, .int 0, .ref m_lifted, .int 0, .int 0, .int 0, .ref m_order, .int 0, .ref m_past, .int 0, .ref m_rowKind, .ref m_rowSteps, .ref m_rowPath, .ref m_rowWas, .ref m_rowIs, .ref m_pool, .ref m_rowsMany, .ref m_poolMany, .ref m_way, .int 0, .ref m_out, .int 0, .int 0, .ref m_notedThing, .ref m_notedIs, .ref m_votes, .int 0, .int 0, .ref m_treeThen, .int 0, .int 0, .int 0, .ref m_imageTree, .ref m_pastThen, .ref m_notedThingThen, .ref m_notedIsThen, .ref m_statusThen])), (m_tree, .inl (y 0, 240, .inl (upd (upd (fun _ => 0) 0 3) 3 1))), (ou, .inl (y 1, 1, .inr (.inl g_3)))] := hD
  refine lv_istore (lv' := [(5, .int r_1), (4, .int 0), (3, .ref ou), (2, .ref m0), (1, .ref x0), (0, .ref b)]) hx hb dL_law_519 hl (by decide) rfl (fun ls hl => ?_)
  refine lv_aload_n hx hb dL_law_521 rfl (lv_at hl 3 rfl) ?_
  refine lv_aload_n hx hb dL_law_522 rfl (lv_at hl 5 rfl) ?_
  refine lv_iload hx hb dL_law_523 (lv_at hl 1 rfl) ?_
  refine lv_iconst (v := 1) hx hb dL_law_525 (by decide) ?_
  refine lv_iadd hx hb dL_law_526 ?_
  refine nq_top (z := 1) (by decide) ?_
  refine va_sld hx hb hX hbl hbA hS (i := 1) (nq_in (by decide)) dL_law_527 ?_
  refine nq_top (z := a1) (ea1.symm) ?_
  refine lv_aload_n hx hb dL_law_528 rfl (lv_at hl 5 rfl) ?_
  refine lv_iload hx hb dL_law_529 (lv_at hl 1 rfl) ?_
  refine lv_iconst (v := 2) hx hb dL_law_531 (by decide) ?_
  refine lv_iadd hx hb dL_law_532 ?_
  refine nq_top (z := 2) (by decide) ?_
  refine va_sld hx hb hX hbl hbA hS (i := 2) (nq_in (by decide)) dL_law_533 ?_
  refine nq_top (z := a2) (ea2.symm) ?_
  refine nq_wri (wr := [(ou, .inl (y 1, 1, .inr (.inl g_3)))]) (va_runV (As := [.int a1, .int a2]) (rest := []) ⟨hx, hb, hml, hown, hts⟩ (m_within l G y H.size m0 m_tree m_data m_made m_status m_tape m_paths m_pathSize m_set m_to m_lifted m_order m_past m_rowKind m_rowSteps m_rowPath m_rowWas m_rowIs m_pool m_rowsMany m_poolMany m_way m_out m_notedThing m_notedIs m_votes m_treeThen m_imageTree m_pastThen m_notedThingThen m_notedIsThen m_statusThen a1 a2 ) (cwV 2 hts gv_X11_within_97 rfl rfl rfl (by decide +kernel) ⟨Nat.le_of_ble_eq_true rfl, Nat.le_of_ble_eq_true rfl⟩) (nq_PV hK hP hD [0, 1] rfl rfl 0 rfl rfl) rfl rfl hl.1 rfl (lv_room (Nat.le_of_ble_eq_true rfl)) dL_law_534 ⟨Nat.le_of_ble_eq_true rfl, Nat.le_of_ble_eq_true rfl⟩) hP hD hS hA [0, 1] [2] rfl rfl (by decide) (by decide) (fun r_6 u_4 H locs hw_5 hP hD hS => ?_)
  have hP : va_P G vwCl [(ou, .inl (y 1, 1, .inr (.inl g_3))), (m0, .inr (11, u_4.2))] H := hP
  have hD : va_D A [(ou, .inl (y 1, 1, .inr (.inl g_3))), (m0, .inr (11, u_4.2))] := hD
  obtain ⟨hq_7, hq_8, hq_9⟩ := hw_5
  subst hq_9
  refine lv_istore (lv' := [(6, .int ((sp_within a1 a2).2)), (5, .int r_1), (4, .int 0), (3, .ref ou), (2, .ref m0), (1, .ref x0), (0, .ref b)]) hx hb dL_law_537 hl (by decide) rfl (fun ls hl => ?_)
  refine lv_aload_n hx hb dL_law_539 rfl (lv_at hl 4 rfl) ?_
  refine nq_rdi (va_runV (As := []) (rest := []) ⟨hx, hb, hml, hown, hts⟩ (m_thrown l G y H.size m0 u_4 hq_7) (cwV 0 hts gv_X11_thrown_77 rfl rfl rfl (by decide +kernel) ⟨Nat.le_of_ble_eq_true rfl, Nat.le_of_ble_eq_true rfl⟩) (nq_PV hK hP hD [1] rfl rfl 1 rfl rfl) rfl rfl hl.1 rfl (lv_room (Nat.le_of_ble_eq_true rfl)) dL_law_540 ⟨Nat.le_of_ble_eq_true rfl, Nat.le_of_ble_eq_true rfl⟩) hP hS hA (fun r_10 H locs hw_11 hP hS => ?_)
  subst hw_11
  refine lv_iload hx hb dL_law_543 (lv_at hl 1 rfl) ?_
  refine lv_icmp_eq (tgt := 550) hx hb dL_law_545 (by decide) (fun _ => ?_) (fun c_12 => absurd (hq_8.trans hw_2.1.symm) c_12)
  refine lv_iload hx hb dL_law_550 (lv_at hl 1 rfl) ?_
  refine lv_if_ne (tgt := 567) hx hb dL_law_552 (by decide) (fun c_13 => ?_) (fun c_13 => ?_)
  · refine lv_goto (tgt := 1593) hx hb dL_law_567 (by decide) ?_
    refine lv_iinc (v := 6) (lv' := [(4, .int 6), (6, .int ((sp_within a1 a2).2)), (5, .int r_1), (3, .ref ou), (2, .ref m0), (1, .ref x0), (0, .ref b)]) hx hb dL_law_1593 hl (k := 2) rfl (by decide) (by decide) rfl (fun ls hl => ?_)
    refine lv_goto (tgt := 23) hx hb dL_law_1596 (by decide) ?_
    refine lv_iload hx hb dL_law_23 (lv_at hl 0 rfl) ?_
    refine lv_aload_n hx hb dL_law_25 rfl (lv_at hl 6 rfl) ?_
    refine va_slen hx hb hX hbl hbA hS dL_law_26 ?_
    refine nq_top (z := 6) (by decide) ?_
    refine lv_bipush (v := 6) hx hb dL_law_27 (by decide) ?_
    refine lv_isub hx hb dL_law_29 ?_
    refine nq_top (z := 0) (by decide) ?_
    refine lv_icmp_gt (tgt := 1599) hx hb dL_law_30 (by decide) (fun _ => ?_) (fun c_14 => absurd c_14 (by decide))
    refine lv_iconst (v := 1) hx hb dL_law_1599 (by decide) ?_
    refine va_forget (fun q hq => by have h9 := hS.2.2 q hq; rw [hAe] at h9; exact h9) ?_
    refine W.widen (k := 600002) (n := 7302232) (Nat.le_of_ble_eq_true rfl) (Nat.le_of_ble_eq_true rfl) ?_
    exact lw_ret hx hb hr hlocks dL_law_1600
  · subst c_13
    refine lv_aload_n hx hb dL_law_555 rfl (lv_at hl 3 rfl) ?_
    refine lv_iconst (v := 0) hx hb dL_law_556 (by decide) ?_
    refine va_lald hx hb hK.1 hP 0 1 rfl rfl (i := 0) (nq_in (by decide)) dL_law_557 ?_
    refine nq_topl (z := ((sp_within a1 a2).2).toInt64) (hw_2.2 rfl) ?_
    refine lv_iload hx hb dL_law_558 (lv_at hl 0 rfl) ?_
    refine lv_i2l (v := ((sp_within a1 a2).2).toInt64) hx hb dL_law_560 rfl ?_
    refine W.lcmp hx hb dL_law_561 ?_
    refine nq_top (z := 0) (nq_cmp _) ?_
    refine lv_if_eq (tgt := 567) hx hb dL_law_562 (by decide) (fun _ => ?_) (fun c_15 => absurd c_15 (by decide))
    refine lv_goto (tgt := 1593) hx hb dL_law_567 (by decide) ?_
    refine lv_iinc (v := 6) (lv' := [(4, .int 6), (6, .int ((sp_within a1 a2).2)), (5, .int 0), (3, .ref ou), (2, .ref m0), (1, .ref x0), (0, .ref b)]) hx hb dL_law_1593 hl (k := 2) rfl (by decide) (by decide) rfl (fun ls hl => ?_)
    refine lv_goto (tgt := 23) hx hb dL_law_1596 (by decide) ?_
    refine lv_iload hx hb dL_law_23 (lv_at hl 0 rfl) ?_
    refine lv_aload_n hx hb dL_law_25 rfl (lv_at hl 6 rfl) ?_
    refine va_slen hx hb hX hbl hbA hS dL_law_26 ?_
    refine nq_top (z := 6) (by decide) ?_
    refine lv_bipush (v := 6) hx hb dL_law_27 (by decide) ?_
    refine lv_isub hx hb dL_law_29 ?_
    refine nq_top (z := 0) (by decide) ?_
    refine lv_icmp_gt (tgt := 1599) hx hb dL_law_30 (by decide) (fun _ => ?_) (fun c_16 => absurd c_16 (by decide))
    refine lv_iconst (v := 1) hx hb dL_law_1599 (by decide) ?_
    refine va_forget (fun q hq => by have h9 := hS.2.2 q hq; rw [hAe] at h9; exact h9) ?_
    refine W.widen (k := 600002) (n := 7302232) (Nat.le_of_ble_eq_true rfl) (Nat.le_of_ble_eq_true rfl) ?_
    exact lw_ret hx hb hr hlocks dL_law_1600
