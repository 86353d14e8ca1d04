set_option maxHeartbeats 400000 in
set_option maxRecDepth 100000 in
theorem c_m_sum_z (l : Launch) (G : va_G) (y : Nat → ClassId) (sz : Nat) (h0 : Nat) (m_tree : Nat) (m_data : Nat) (m_made : Nat) (m_status : Nat) (m_tape : Nat) (m_paths : Nat) (m_pathSize : Nat) (m_set : Nat) (m_to : Nat) (m_lifted : Nat) (m_order : Nat) (m_past : Nat) (m_rowKind : Nat) (m_rowSteps : Nat) (m_rowPath : Nat) (m_rowWas : Nat) (m_rowIs : Nat) (m_pool : Nat) (m_rowsMany : Nat) (m_poolMany : Nat) (m_way : Nat) (m_out : Nat) (m_notedThing : Nat) (m_notedIs : Nat) (m_votes : Nat) (m_treeThen : Nat) (m_imageTree : Nat) (m_pastThen : Nat) (m_notedThingThen : Nat) (m_notedIsThen : Nat) (m_statusThen : Nat) (z : Int32)  : Met l yX11_sum wsX11_sum ({ frames := 1, cells := 0, slots := 0, locals := 21 }) (nq_P G y sz [.ref h0] [(h0, .inr (11, [.int 0, .ref m_tree, .ref m_data, .ref m_made, .ref m_status, .int 0, .ref m_tape, .ref m_paths, .ref m_pathSize, .null, .int 0, .int 0, .int 0, .int 0, .int 0, .int 0, .int 0, .int 0, .int 0, .int 0, .int 0, .int (-1), .int 0, .ref m_set, .ref m_to, .int 0, .int 0, .int 0, .int 0, .int 0, .int 0, .ref m_lifted, .int 0, .int 0, .int 0, .ref m_order, .int 0, .ref m_past, .int 0, .ref m_rowKind, .ref m_rowSteps, .ref m_rowPath, .ref m_rowWas, .ref m_rowIs, .ref m_pool, .ref m_rowsMany, .ref m_poolMany, .ref m_way, .int 0, .ref m_out, .int 0, .int 0, .ref m_notedThing, .ref m_notedIs, .ref m_votes, .int 0, .int z, .ref m_treeThen, .int 0, .int 0, .int 0, .ref m_imageTree, .ref m_pastThen, .ref m_notedThingThen, .ref m_notedIsThen, .ref m_statusThen])), (m_tree, .inl (y 0, 240, .inl (upd (upd (fun _ => 0) 0 3) 3 1)))]) (va_Qi (fun (r : Int32) (_ : Unit) => r = 0) (fun _ _ => True) (va_A [] sz)) 0 0 (va_A [] sz) := by
  refine Met.ofW (cc := cX11_sum) (maxL := 3) (ret := (some .int)) (by decide) rfl ?_
  intro p e s m args below meth c s₁ B hml hv
  obtain ⟨rfl, hsz, hP, hK, hD0⟩ := hv
  have hx := B.exec
  have hb := B.bytes
  have hr := B.returns
  have hts := atoms_spec (ws := wsX11_sum) B.pre
  have hown : s.vm.findClass RX11 = some m.cls := findClass_of_methodNamed B.named
  have hlocks := B.notSynchronized
  subst hsz
  have hD := hD0
  have hA : ∀ q : Nat, s.heap.size ≤ q → va_A [] s.heap.size q := fun q h => Or.inr h
  have hS : va_S (va_A [] s.heap.size) s.heap s.heap [] := va_S.rf
  have hP : va_P G vwCl [(h0, .inr (11, [.int 0, .ref m_tree, .ref m_data, .ref m_made, .ref m_status, .int 0, .ref m_tape, .ref m_paths, .ref m_pathSize, .null, .int 0, .int 0, .int 0, .int 0, .int 0, .int 0, .int 0, .int 0, .int 0, .int 0, .int 0, .int (-1), .int 0, .ref m_set, .ref m_to, .int 0, .int 0, .int 0, .int 0, .int 0, .int 0, .ref m_lifted, .int 0, .int 0, .int 0, .ref m_order, .int 0, .ref m_past, .int 0, .ref m_rowKind, .ref m_rowSteps, .ref m_rowPath, .ref m_rowWas, .ref m_rowIs, .ref m_pool, .ref m_rowsMany, .ref m_poolMany, .ref m_way, .int 0, .ref m_out, .int 0, .int 0, .ref m_notedThing, .ref m_notedIs, .ref m_votes, .int 0, .int z, .ref m_treeThen, .int 0, .int 0, .int 0, .ref m_imageTree, .ref m_pastThen, .ref m_notedThingThen, .ref m_notedIsThen, .ref m_statusThen])), (m_tree, .inl (y 0, 240, .inl (upd (upd (fun _ => 0) 0 3) 3 1)))] s.heap := hP
  have inX11 : ∀ w ∈ wsX110, w ∈ wsX11_sum := by decide +kernel
  have hl := lv_entry ([.ref h0]) (n := 3) (Nat.le_of_ble_eq_true rfl)
  rw [lg_entry_eq]
  generalize (lg_sl ([.ref h0]) ++ List.replicate (3 - (lg_sl ([.ref h0])).length) Slot.unset).toArray = ls at hl ⊢
  have hl : lv_has ls 3 [(0, .ref h0)] := hl
  refine lv_iconst (v := 0) hx hb dX11_sum_0 (by decide) ?_
  refine lv_istore_n (lv' := [(1, .int 0), (0, .ref h0)]) hx hb dX11_sum_1 rfl hl (by decide) rfl (fun ls hl => ?_)
  refine lv_iconst (v := 0) hx hb dX11_sum_2 (by decide) ?_
  refine lv_istore_n (lv' := [(2, .int 0), (1, .int 0), (0, .ref h0)]) hx hb dX11_sum_3 rfl hl (by decide) rfl (fun ls hl => ?_)
  refine lv_iload_n hx hb dX11_sum_4 rfl (lv_at hl 0 rfl) ?_
  refine lv_aload_n hx hb dX11_sum_5 rfl (lv_at hl 2 rfl) ?_
  refine nq_rdi (va_runV (As := []) (rest := [.int 0]) ⟨hx, hb, hml, hown, hts⟩ (c_m_things_z l G y s.heap.size h0 m_tree m_data m_made m_status m_tape m_paths m_pathSize m_set m_to m_lifted m_order m_past m_rowKind m_rowSteps m_rowPath m_rowWas m_rowIs m_pool m_rowsMany m_poolMany m_way m_out m_notedThing m_notedIs m_votes m_treeThen m_imageTree m_pastThen m_notedThingThen m_notedIsThen m_statusThen z ) (cwV 0 hts gX11_sum_X11_things rfl rfl rfl (by decide +kernel) ⟨Nat.le_of_ble_eq_true rfl, Nat.le_of_ble_eq_true rfl⟩) (nq_PV hK hP hD [0, 1] rfl rfl 0 rfl rfl) rfl rfl hl.1 rfl (lv_room (Nat.le_of_ble_eq_true rfl)) dX11_sum_6 ⟨Nat.le_of_ble_eq_true rfl, Nat.le_of_ble_eq_true rfl⟩) hP hS hA (fun r_1 H locs hw_2 hP hS => ?_)
  subst hw_2
  refine lv_icmp_ge (tgt := 46) hx hb dX11_sum_9 (by decide) (fun c_3 => absurd c_3 (by decide)) (fun _ => ?_)
  refine lv_iload_n hx hb dX11_sum_12 rfl (lv_at hl 1 rfl) ?_
  refine lv_aload_n hx hb dX11_sum_13 rfl (lv_at hl 2 rfl) ?_
  refine va_get (D := G) (ci := 11) (v := .ref m_tree) (C := RX11) (T := TX11) (N := 66) hx hb hts inX11 hown hK.1 hP 0 rfl rfl 1 (by decide) (hts (.fieldLink RX11 9 "NestQueryModel" "tree" "[I") (by decide +kernel)) (fun _ h9 => h9) rfl dX11_sum_14 ?_
  refine lv_iload_n hx hb dX11_sum_17 rfl (lv_at hl 0 rfl) ?_
  refine nq_rdi (va_runS (As := [.ref m_tree, .int 0]) (rest := [.int 0]) ⟨hx, hb, hml, hown, hts⟩ (c_m_kind l G y H.size m_tree ) (va_cwS 2 hts gX11_sum_X11_kind rfl rfl rfl (by decide +kernel) ⟨Nat.le_of_ble_eq_true rfl, Nat.le_of_ble_eq_true rfl⟩) (nq_PS hK hP hD [1] rfl rfl) rfl rfl hl.1 rfl (lv_room (Nat.le_of_ble_eq_true rfl)) dX11_sum_18 ⟨Nat.le_of_ble_eq_true rfl, Nat.le_of_ble_eq_true rfl⟩) hP hS hA (fun r_4 H locs hw_5 hP hS => ?_)
  subst hw_5
  refine lv_if_ne (tgt := 37) hx hb dX11_sum_21 (by decide) (fun _ => ?_) (fun c_6 => absurd c_6 (by decide))
  refine lv_iconst (v := 0) hx hb dX11_sum_37 (by decide) ?_
  refine lv_iadd hx hb dX11_sum_38 ?_
  refine nq_top (z := 0) (by decide) ?_
  refine lv_istore_n (lv' := [(1, .int 0), (2, .int 0), (0, .ref h0)]) hx hb dX11_sum_39 rfl hl (by decide) rfl (fun ls hl => ?_)
  refine lv_iinc (v := 1) (lv' := [(2, .int 1), (1, .int 0), (0, .ref h0)]) hx hb dX11_sum_40 hl (k := 1) rfl (by decide) (by decide) rfl (fun ls hl => ?_)
  refine lv_goto (tgt := 4) hx hb dX11_sum_43 (by decide) ?_
  refine lv_iload_n hx hb dX11_sum_4 rfl (lv_at hl 0 rfl) ?_
  refine lv_aload_n hx hb dX11_sum_5 rfl (lv_at hl 2 rfl) ?_
  refine nq_rdi (va_runV (As := []) (rest := [.int 1]) ⟨hx, hb, hml, hown, hts⟩ (c_m_things_z l G y H.size h0 m_tree m_data m_made m_status m_tape m_paths m_pathSize m_set m_to m_lifted m_order m_past m_rowKind m_rowSteps m_rowPath m_rowWas m_rowIs m_pool m_rowsMany m_poolMany m_way m_out m_notedThing m_notedIs m_votes m_treeThen m_imageTree m_pastThen m_notedThingThen m_notedIsThen m_statusThen z ) (cwV 0 hts gX11_sum_X11_things rfl rfl rfl (by decide +kernel) ⟨Nat.le_of_ble_eq_true rfl, Nat.le_of_ble_eq_true rfl⟩) (nq_PV hK hP hD [0, 1] rfl rfl 0 rfl rfl) rfl rfl hl.1 rfl (lv_room (Nat.le_of_ble_eq_true rfl)) dX11_sum_6 ⟨Nat.le_of_ble_eq_true rfl, Nat.le_of_ble_eq_true rfl⟩) hP hS hA (fun r_7 H locs hw_8 hP hS => ?_)
  subst hw_8
  refine lv_icmp_ge (tgt := 46) hx hb dX11_sum_9 (by decide) (fun _ => ?_) (fun c_9 => absurd c_9 (by decide))
  refine lv_iload_n hx hb dX11_sum_46 rfl (lv_at hl 1 rfl) ?_
  refine W.widen (k := 0) (n := 0) (Nat.le_of_ble_eq_true rfl) (Nat.le_of_ble_eq_true rfl) ?_
  exact W.iret (v := 0) hx hb hr (fun t ht hW => ⟨⟨0, (), rfl, rfl, trivial⟩, hS.F ht⟩) hS.2.2 dX11_sum_47

