set_option maxHeartbeats 400000 in
set_option maxRecDepth 100000 in
theorem x_image (l : Launch) (G : va_G) (y : Nat → ClassId) (sz : Nat) (h0 : Nat) (tp : Nat) (ps : Nat) (sp : Nat) (tk : Nat) (dr : Nat) (pr : Nat) (da : Nat) (nw : Nat) (im : Nat) (ac : Nat) (ke : Nat) (si : Nat) (tx : Nat) (an : Nat) (dw : Nat) (imt : Nat) (imb : Nat) (imn : Nat) (imi : Nat) (imr : Nat) (imtk : Nat) (imtv : Nat) (imte : Nat) (imtd : Nat) (nwt : Nat) (nwb : Nat) (nwn : Nat) (nwi : Nat) (nwr : Nat) (nwtk : Nat) (nwtv : Nat) (nwte : Nat) (nwtd : Nat)  : Met l yX10_image wsX10_image ({ frames := 3, cells := 0, slots := 0, locals := 104 }) (nq_P G y sz [.ref h0] [(h0, .inr (10, [.ref tp, .int 0, .int (-1), .ref ps, .ref sp, .ref tk, .ref dr, .ref pr, .ref da, .ref nw, .ref im, .int 0, .ref ac, .ref ke, .ref si, .ref tx, .ref an, .ref dw])), (im, .inr (6, [.ref imt, .ref imb, .int 0, .ref imn, .ref imi, .int 0, .ref imr])), (imt, .inr (9, [.ref imtk, .ref imtv, .ref imte, .ref imtd, .int 0])), (imtk, .inl (y 0, 60, .inl (fun _ => 0))), (imtv, .inl (y 0, 60, .inl (fun _ => 0))), (imte, .inl (y 0, 60, .inl (fun _ => 0))), (imtd, .inl (y 0, 60, .inl (fun _ => 0))), (imn, .inl (y 0, 8, .inl (fun _ => 0))), (imi, .inl (y 2, 8, .inl (fun _ => 0))), (imr, .inl (y 0, 3, .inl (fun _ => 0))), (nw, .inr (6, [.ref nwt, .ref nwb, .int 0, .ref nwn, .ref nwi, .int 0, .ref nwr])), (nwt, .inr (9, [.ref nwtk, .ref nwtv, .ref nwte, .ref nwtd, .int 1])), (nwtk, .inl (y 0, 60, .inl (upd (fun _ => 0) 0 3))), (nwtv, .inl (y 0, 60, .inl (upd (fun _ => 0) 0 0))), (nwte, .inl (y 0, 60, .inl (upd (fun _ => 0) 0 0))), (nwtd, .inl (y 0, 60, .inl (upd (fun _ => 0) 0 0))), (nwn, .inl (y 0, 8, .inl (fun _ => 0))), (nwi, .inl (y 2, 8, .inl (fun _ => 0))), (nwr, .inl (y 0, 3, .inl (fun _ => 0)))]) (va_Qv (fun (_ : Unit) => True) (fun (u : Unit) t9 => va_P G vwCl ([]) t9.heap ∧ va_D (va_A [(h0, .inr (10, [.ref tp, .int 0, .int (-1), .ref ps, .ref sp, .ref tk, .ref dr, .ref pr, .ref da, .ref nw, .ref im, .int 0, .ref ac, .ref ke, .ref si, .ref tx, .ref an, .ref dw])), (im, .inr (6, [.ref imt, .ref imb, .int 0, .ref imn, .ref imi, .int 0, .ref imr])), (imt, .inr (9, [.ref imtk, .ref imtv, .ref imte, .ref imtd, .int 0])), (imtk, .inl (y 0, 60, .inl (fun _ => 0))), (imtv, .inl (y 0, 60, .inl (fun _ => 0))), (imte, .inl (y 0, 60, .inl (fun _ => 0))), (imtd, .inl (y 0, 60, .inl (fun _ => 0))), (imn, .inl (y 0, 8, .inl (fun _ => 0))), (imi, .inl (y 2, 8, .inl (fun _ => 0))), (imr, .inl (y 0, 3, .inl (fun _ => 0))), (nw, .inr (6, [.ref nwt, .ref nwb, .int 0, .ref nwn, .ref nwi, .int 0, .ref nwr])), (nwt, .inr (9, [.ref nwtk, .ref nwtv, .ref nwte, .ref nwtd, .int 1])), (nwtk, .inl (y 0, 60, .inl (upd (fun _ => 0) 0 3))), (nwtv, .inl (y 0, 60, .inl (upd (fun _ => 0) 0 0))), (nwte, .inl (y 0, 60, .inl (upd (fun _ => 0) 0 0))), (nwtd, .inl (y 0, 60, .inl (upd (fun _ => 0) 0 0))), (nwn, .inl (y 0, 8, .inl (fun _ => 0))), (nwi, .inl (y 2, 8, .inl (fun _ => 0))), (nwr, .inl (y 0, 3, .inl (fun _ => 0)))] sz) ([])) (va_A [(h0, .inr (10, [.ref tp, .int 0, .int (-1), .ref ps, .ref sp, .ref tk, .ref dr, .ref pr, .ref da, .ref nw, .ref im, .int 0, .ref ac, .ref ke, .ref si, .ref tx, .ref an, .ref dw])), (im, .inr (6, [.ref imt, .ref imb, .int 0, .ref imn, .ref imi, .int 0, .ref imr])), (imt, .inr (9, [.ref imtk, .ref imtv, .ref imte, .ref imtd, .int 0])), (imtk, .inl (y 0, 60, .inl (fun _ => 0))), (imtv, .inl (y 0, 60, .inl (fun _ => 0))), (imte, .inl (y 0, 60, .inl (fun _ => 0))), (imtd, .inl (y 0, 60, .inl (fun _ => 0))), (imn, .inl (y 0, 8, .inl (fun _ => 0))), (imi, .inl (y 2, 8, .inl (fun _ => 0))), (imr, .inl (y 0, 3, .inl (fun _ => 0))), (nw, .inr (6, [.ref nwt, .ref nwb, .int 0, .ref nwn, .ref nwi, .int 0, .ref nwr])), (nwt, .inr (9, [.ref nwtk, .ref nwtv, .ref nwte, .ref nwtd, .int 1])), (nwtk, .inl (y 0, 60, .inl (upd (fun _ => 0) 0 3))), (nwtv, .inl (y 0, 60, .inl (upd (fun _ => 0) 0 0))), (nwte, .inl (y 0, 60, .inl (upd (fun _ => 0) 0 0))), (nwtd, .inl (y 0, 60, .inl (upd (fun _ => 0) 0 0))), (nwn, .inl (y 0, 8, .inl (fun _ => 0))), (nwi, .inl (y 2, 8, .inl (fun _ => 0))), (nwr, .inl (y 0, 3, .inl (fun _ => 0)))] sz)) 0 0 (va_A [(h0, .inr (10, [.ref tp, .int 0, .int (-1), .ref ps, .ref sp, .ref tk, .ref dr, .ref pr, .ref da, .ref nw, .ref im, .int 0, .ref ac, .ref ke, .ref si, .ref tx, .ref an, .ref dw])), (im, .inr (6, [.ref imt, .ref imb, .int 0, .ref imn, .ref imi, .int 0, .ref imr])), (imt, .inr (9, [.ref imtk, .ref imtv, .ref imte, .ref imtd, .int 0])), (imtk, .inl (y 0, 60, .inl (fun _ => 0))), (imtv, .inl (y 0, 60, .inl (fun _ => 0))), (imte, .inl (y 0, 60, .inl (fun _ => 0))), (imtd, .inl (y 0, 60, .inl (fun _ => 0))), (imn, .inl (y 0, 8, .inl (fun _ => 0))), (imi, .inl (y 2, 8, .inl (fun _ => 0))), (imr, .inl (y 0, 3, .inl (fun _ => 0))), (nw, .inr (6, [.ref nwt, .ref nwb, .int 0, .ref nwn, .ref nwi, .int 0, .ref nwr])), (nwt, .inr (9, [.ref nwtk, .ref nwtv, .ref nwte, .ref nwtd, .int 1])), (nwtk, .inl (y 0, 60, .inl (upd (fun _ => 0) 0 3))), (nwtv, .inl (y 0, 60, .inl (upd (fun _ => 0) 0 0))), (nwte, .inl (y 0, 60, .inl (upd (fun _ => 0) 0 0))), (nwtd, .inl (y 0, 60, .inl (upd (fun _ => 0) 0 0))), (nwn, .inl (y 0, 8, .inl (fun _ => 0))), (nwi, .inl (y 2, 8, .inl (fun _ => 0))), (nwr, .inl (y 0, 3, .inl (fun _ => 0)))] sz) := by
  refine Met.ofW (cc := cX10_image) (maxL := 1) (ret := none) (by decide) rfl ?_
  intro p e s m args below meth c s₁ B hml hv
  obtain ⟨rfl, hsz, hP, hK, hD0⟩ := hv
  have hx := B.exec
  have hb := B.bytes
  have hr := B.returns
  have hts := atoms_spec (ws := wsX10_image) B.pre
  have hown : s.vm.findClass RX10 = some m.cls := findClass_of_methodNamed B.named
  have hlocks := B.notSynchronized
  subst hsz
  have hD := hD0.self (sz := s.heap.size)
  generalize hAe : va_A [(h0, .inr (10, [.ref tp, .int 0, .int (-1), .ref ps, .ref sp, .ref tk, .ref dr, .ref pr, .ref da, .ref nw, .ref im, .int 0, .ref ac, .ref ke, .ref si, .ref tx, .ref an, .ref dw])), (im, .inr (6, [.ref imt, .ref imb, .int 0, .ref imn, .ref imi, .int 0, .ref imr])), (imt, .inr (9, [.ref imtk, .ref imtv, .ref imte, .ref imtd, .int 0])), (imtk, .inl (y 0, 60, .inl (fun _ => 0))), (imtv, .inl (y 0, 60, .inl (fun _ => 0))), (imte, .inl (y 0, 60, .inl (fun _ => 0))), (imtd, .inl (y 0, 60, .inl (fun _ => 0))), (imn, .inl (y 0, 8, .inl (fun _ => 0))), (imi, .inl (y 2, 8, .inl (fun _ => 0))), (imr, .inl (y 0, 3, .inl (fun _ => 0))), (nw, .inr (6, [.ref nwt, .ref nwb, .int 0, .ref nwn, .ref nwi, .int 0, .ref nwr])), (nwt, .inr (9, [.ref nwtk, .ref nwtv, .ref nwte, .ref nwtd, .int 1])), (nwtk, .inl (y 0, 60, .inl (upd (fun _ => 0) 0 3))), (nwtv, .inl (y 0, 60, .inl (upd (fun _ => 0) 0 0))), (nwte, .inl (y 0, 60, .inl (upd (fun _ => 0) 0 0))), (nwtd, .inl (y 0, 60, .inl (upd (fun _ => 0) 0 0))), (nwn, .inl (y 0, 8, .inl (fun _ => 0))), (nwi, .inl (y 2, 8, .inl (fun _ => 0))), (nwr, .inl (y 0, 3, .inl (fun _ => 0)))] s.heap.size = A at hD ⊢
  have hA : ∀ q : Nat, s.heap.size ≤ q → A q := fun q h => by rw [← hAe]; exact Or.inr h
  have hS : va_S A s.heap s.heap [] := va_S.rf
  have hP : va_P G vwCl [(h0, .inr (10, [.ref tp, .int 0, .int (-1), .ref ps, .ref sp, .ref tk, .ref dr, .ref pr, .ref da, .ref nw, .ref im, .int 0, .ref ac, .ref ke, .ref si, .ref tx, .ref an, .ref dw])), (im, .inr (6, [.ref imt, .ref imb, .int 0, .ref imn, .ref imi, .int 0, .ref imr])), (imt, .inr (9, [.ref imtk, .ref imtv, .ref imte, .ref imtd, .int 0])), (imtk, .inl (y 0, 60, .inl (fun _ => 0))), (imtv, .inl (y 0, 60, .inl (fun _ => 0))), (imte, .inl (y 0, 60, .inl (fun _ => 0))), (imtd, .inl (y 0, 60, .inl (fun _ => 0))), (imn, .inl (y 0, 8, .inl (fun _ => 0))), (imi, .inl (y 2, 8, .inl (fun _ => 0))), (imr, .inl (y 0, 3, .inl (fun _ => 0))), (nw, .inr (6, [.ref nwt, .ref nwb, .int 0, .ref nwn, .ref nwi, .int 0, .ref nwr])), (nwt, .inr (9, [.ref nwtk, .ref nwtv, .ref nwte, .ref nwtd, .int 1])), (nwtk, .inl (y 0, 60, .inl (upd (fun _ => 0) 0 3))), (nwtv, .inl (y 0, 60, .inl (upd (fun _ => 0) 0 0))), (nwte, .inl (y 0, 60, .inl (upd (fun _ => 0) 0 0))), (nwtd, .inl (y 0, 60, .inl (upd (fun _ => 0) 0 0))), (nwn, .inl (y 0, 8, .inl (fun _ => 0))), (nwi, .inl (y 2, 8, .inl (fun _ => 0))), (nwr, .inl (y 0, 3, .inl (fun _ => 0)))] s.heap := hP
  have inX10 : ∀ w ∈ wsX100, w ∈ wsX10_image := by decide +kernel
  have hl := lv_entry ([.ref h0]) (n := 1) (Nat.le_of_ble_eq_true rfl)
  rw [lg_entry_eq]
  generalize (lg_sl ([.ref h0]) ++ List.replicate (1 - (lg_sl ([.ref h0])).length) Slot.unset).toArray = ls at hl ⊢
  have hl : lv_has ls 1 [(0, .ref h0)] := hl
  refine lv_aload_n hx hb dX10_image_0 rfl (lv_at hl 0 rfl) ?_
  refine va_get (D := G) (ci := 10) (v := .ref im) (C := RX10) (T := TX10) (N := 18) hx hb hts inX10 hown hK.1 hP 0 rfl rfl 10 (by decide) (hts (.fieldLink RX10 67 "NestQuery" "imaged" "LNestQuery$State;") (by decide +kernel)) (fun _ h9 => h9) rfl dX10_image_1 ?_
  refine lv_aload_n hx hb dX10_image_4 rfl (lv_at hl 0 rfl) ?_
  refine va_get (D := G) (ci := 10) (v := .ref nw) (C := RX10) (T := TX10) (N := 18) hx hb hts inX10 hown hK.1 hP 0 rfl rfl 9 (by decide) (hts (.fieldLink RX10 63 "NestQuery" "now" "LNestQuery$State;") (by decide +kernel)) (fun _ h9 => h9) rfl dX10_image_5 ?_
  refine nq_wrv (wr := [(h0, .inr (10, [.ref tp, .int 0, .int (-1), .ref ps, .ref sp, .ref tk, .ref dr, .ref pr, .ref da, .ref nw, .ref im, .int 0, .ref ac, .ref ke, .ref si, .ref tx, .ref an, .ref dw]))]) (va_runV (As := [.ref nw]) (rest := []) ⟨hx, hb, hml, hown, hts⟩ (c_takeAll l G y s.heap.size im imt imb imn imi imr imtk imtv imte imtd nw nwt nwb nwn nwi nwr nwtk nwtv nwte nwtd ) (cwV 1 hts gX10_image_X6_takeAll rfl rfl rfl (by decide +kernel) ⟨Nat.le_of_ble_eq_true rfl, Nat.le_of_ble_eq_true rfl⟩) (nq_PV hK hP hD [1, 2, 3, 4, 5, 6, 7, 8, 9, 10, 11, 12, 13, 14, 15, 16, 17, 18] rfl rfl 1 rfl rfl) rfl rfl hl.1 rfl (lv_room (Nat.le_of_ble_eq_true rfl)) dX10_image_8 ⟨Nat.le_of_ble_eq_true rfl, Nat.le_of_ble_eq_true rfl⟩) hP hD hS hA [1, 2, 3, 4, 5, 6, 7, 8, 9, 10, 11, 12, 13, 14, 15, 16, 17, 18] [0] rfl rfl (by decide) (by decide) (fun u_1 H locs hw_2 hP hD hS => ?_)
  have hP : va_P G vwCl [(h0, .inr (10, [.ref tp, .int 0, .int (-1), .ref ps, .ref sp, .ref tk, .ref dr, .ref pr, .ref da, .ref nw, .ref im, .int 0, .ref ac, .ref ke, .ref si, .ref tx, .ref an, .ref dw]))] H := hP
  have hD : va_D A [(h0, .inr (10, [.ref tp, .int 0, .int (-1), .ref ps, .ref sp, .ref tk, .ref dr, .ref pr, .ref da, .ref nw, .ref im, .int 0, .ref ac, .ref ke, .ref si, .ref tx, .ref an, .ref dw]))] := hD
  refine lv_aload_n hx hb dX10_image_11 rfl (lv_at hl 0 rfl) ?_
  refine lv_iconst (v := 1) hx hb dX10_image_12 (by decide) ?_
  refine va_put (D := G) (ci := 10) (v := .int 1) (ty := .boolean) (C := RX10) (T := TX10) (N := 18) hx hb hts inX10 tyX10 tyX10_ok nmX10 hown hK.1 hP hD hS 0 rfl rfl 11 (by decide) (hts (.fieldLink RX10 145 "NestQuery" "imageThere" "Z") (by decide +kernel)) (fun _ h9 => h9) rfl (by decide +kernel) (by decide) rfl (Nat.le_of_ble_eq_true rfl) dX10_image_13 (fun H locs hP hD hS => ?_)
  have hP : va_P G vwCl [(h0, .inr (10, [.ref tp, .int 0, .int (-1), .ref ps, .ref sp, .ref tk, .ref dr, .ref pr, .ref da, .ref nw, .ref im, .int 1, .ref ac, .ref ke, .ref si, .ref tx, .ref an, .ref dw]))] H := hP
  have hD : va_D A [(h0, .inr (10, [.ref tp, .int 0, .int (-1), .ref ps, .ref sp, .ref tk, .ref dr, .ref pr, .ref da, .ref nw, .ref im, .int 1, .ref ac, .ref ke, .ref si, .ref tx, .ref an, .ref dw]))] := hD
  have hP9 := hP.sub (ws' := []) [] rfl
  have hD9 := hD.sub (ws' := []) [] (by decide) rfl
  refine W.widen (k := 0) (n := 0) (Nat.le_of_ble_eq_true rfl) (Nat.le_of_ble_eq_true rfl) ?_
  exact W.vret hx hb hr (fun t ht hW => ⟨⟨(), rfl, trivial, by rw [ht]; exact hP9, by first | exact hD9 | (rw [hAe]; exact hD9)⟩, hS.F ht⟩) hS.2.2 dX10_image_16

set_option maxHeartbeats 400000 in
set_option maxRecDepth 100000 in
theorem c_Draws_begin (l : Launch) (G : va_G) (y : Nat → ClassId) (sz : Nat) (dw : Nat) (z : Int32) (a : Int32)  : Met l yX2_begin wsX2_begin ({ frames := 0, cells := 0, slots := 0, locals := 0 }) (nq_P G y sz [.ref dw, .int a] [(dw, .inr (2, [.int z]))]) (va_Qv (fun (_ : Unit) => True) (fun (u : Unit) t9 => va_P G vwCl ([(dw, .inr (2, [.int a]))]) t9.heap ∧ va_D (va_A [(dw, .inr (2, [.int z]))] sz) ([(dw, .inr (2, [.int a]))])) (va_A [(dw, .inr (2, [.int z]))] sz)) 0 0 (va_A [(dw, .inr (2, [.int z]))] sz) := by
  refine Met.ofW (cc := cX2_begin) (maxL := 2) (ret := none) (by decide) rfl ?_
  intro p e s m args below meth c s₁ B hml hv
  obtain ⟨rfl, hsz, hP, hK, hD0⟩ := hv
  have hx := B.exec
  have hb := B.bytes
  have hr := B.returns
  have hts := atoms_spec (ws := wsX2_begin) B.pre
  have hown : s.vm.findClass RX2 = some m.cls := findClass_of_methodNamed B.named
  have hlocks := B.notSynchronized
  subst hsz
  have hD := hD0.self (sz := s.heap.size)
  generalize hAe : va_A [(dw, .inr (2, [.int z]))] s.heap.size = A at hD ⊢
  have hA : ∀ q : Nat, s.heap.size ≤ q → A q := fun q h => by rw [← hAe]; exact Or.inr h
  have hS : va_S A s.heap s.heap [] := va_S.rf
  have hP : va_P G vwCl [(dw, .inr (2, [.int z]))] s.heap := hP
  have inX2 : ∀ w ∈ wsX20, w ∈ wsX2_begin := by decide +kernel
  have hl := lv_entry ([.ref dw, .int a]) (n := 2) (Nat.le_of_ble_eq_true rfl)
  rw [lg_entry_eq]
  generalize (lg_sl ([.ref dw, .int a]) ++ List.replicate (2 - (lg_sl ([.ref dw, .int a])).length) Slot.unset).toArray = ls at hl ⊢
  have hl : lv_has ls 2 [(0, .ref dw), (1, .int a)] := hl
  refine lv_aload_n hx hb dX2_begin_0 rfl (lv_at hl 0 rfl) ?_
  refine lv_iload_n hx hb dX2_begin_1 rfl (lv_at hl 1 rfl) ?_
  refine va_put (D := G) (ci := 2) (v := .int a) (ty := .int) (C := RX2) (T := TX2) (N := 1) hx hb hts inX2 tyX2 tyX2_ok nmX2 hown hK.1 hP hD hS 0 rfl rfl 0 (by decide) (hts (.fieldLink RX2 7 "NestQuery$Draws" "seed" "I") (by decide +kernel)) (fun _ h9 => h9) rfl (by decide +kernel) rfl rfl (Nat.le_of_ble_eq_true rfl) dX2_begin_2 (fun H locs hP hD hS => ?_)
  have hP : va_P G vwCl [(dw, .inr (2, [.int a]))] H := hP
  have hD : va_D A [(dw, .inr (2, [.int a]))] := hD
  have hP9 := hP.sub (ws' := [(dw, .inr (2, [.int a]))]) [0] rfl
  have hD9 := hD.sub (ws' := [(dw, .inr (2, [.int a]))]) [0] (by decide) rfl
  refine W.widen (k := 0) (n := 0) (Nat.le_of_ble_eq_true rfl) (Nat.le_of_ble_eq_true rfl) ?_
  exact W.vret hx hb hr (fun t ht hW => ⟨⟨(), rfl, trivial, by rw [ht]; exact hP9, by first | exact hD9 | (rw [hAe]; exact hD9)⟩, hS.F ht⟩) hS.2.2 dX2_begin_5

set_option maxHeartbeats 400000 in
set_option maxRecDepth 100000 in
theorem c_next5 (l : Launch) (G : va_G) (y : Nat → ClassId) (sz : Nat) (dw : Nat) (z : Int32)  : Met l yX2_next wsX2_next ({ frames := 0, cells := 0, slots := 0, locals := 0 }) (nq_P G y sz [.ref dw, .int 5] [(dw, .inr (2, [.int z]))]) (va_Qi (fun (r : Int32) (_ : Int32) => True) (fun (u : Int32) t9 => va_P G vwCl ([(dw, .inr (2, [.int u]))]) t9.heap ∧ va_D (va_A [(dw, .inr (2, [.int z]))] sz) ([(dw, .inr (2, [.int u]))])) (va_A [(dw, .inr (2, [.int z]))] sz)) 0 0 (va_A [(dw, .inr (2, [.int z]))] sz) := by
  refine Met.ofW (cc := cX2_next) (maxL := 2) (ret := (some .int)) (by decide) rfl ?_
  intro p e s m args below meth c s₁ B hml hv
  obtain ⟨rfl, hsz, hP, hK, hD0⟩ := hv
  have hx := B.exec
  have hb := B.bytes
  have hr := B.returns
  have hts := atoms_spec (ws := wsX2_next) B.pre
  have hown : s.vm.findClass RX2 = some m.cls := findClass_of_methodNamed B.named
  have hlocks := B.notSynchronized
  subst hsz
  have hD := hD0.self (sz := s.heap.size)
  generalize hAe : va_A [(dw, .inr (2, [.int z]))] s.heap.size = A at hD ⊢
  have hA : ∀ q : Nat, s.heap.size ≤ q → A q := fun q h => by rw [← hAe]; exact Or.inr h
  have hS : va_S A s.heap s.heap [] := va_S.rf
  have hP : va_P G vwCl [(dw, .inr (2, [.int z]))] s.heap := hP
  have inX2 : ∀ w ∈ wsX20, w ∈ wsX2_next := by decide +kernel
  have hl := lv_entry ([.ref dw, .int 5]) (n := 2) (Nat.le_of_ble_eq_true rfl)
  rw [lg_entry_eq]
  generalize (lg_sl ([.ref dw, .int 5]) ++ List.replicate (2 - (lg_sl ([.ref dw, .int 5])).length) Slot.unset).toArray = ls at hl ⊢
  have hl : lv_has ls 2 [(0, .ref dw), (1, .int 5)] := hl
  refine lv_aload_n hx hb dX2_next_0 rfl (lv_at hl 0 rfl) ?_
  refine lv_aload_n hx hb dX2_next_1 rfl (lv_at hl 0 rfl) ?_
  refine va_get (D := G) (ci := 2) (v := .int z) (C := RX2) (T := TX2) (N := 1) hx hb hts inX2 hown hK.1 hP 0 rfl rfl 0 (by decide) (hts (.fieldLink RX2 7 "NestQuery$Draws" "seed" "I") (by decide +kernel)) (fun _ h9 => h9) rfl dX2_next_2 ?_
  refine lv_ldc (v := 1103515245) hx hb hown (hts (.constant RX2 13 1103515245) (by decide +kernel)) dX2_next_5 ?_
  refine lv_imul hx hb dX2_next_7 ?_
  refine lv_topi (fun w_1 _ => ?_)
  refine lv_sipush (v := 12345) hx hb dX2_next_8 (by decide) ?_
  refine lv_iadd hx hb dX2_next_11 ?_
  refine lv_topi (fun w_2 _ => ?_)
  refine va_put (D := G) (ci := 2) (v := .int w_2) (ty := .int) (C := RX2) (T := TX2) (N := 1) hx hb hts inX2 tyX2 tyX2_ok nmX2 hown hK.1 hP hD hS 0 rfl rfl 0 (by decide) (hts (.fieldLink RX2 7 "NestQuery$Draws" "seed" "I") (by decide +kernel)) (fun _ h9 => h9) rfl (by decide +kernel) rfl rfl (Nat.le_of_ble_eq_true rfl) dX2_next_12 (fun H locs hP hD hS => ?_)
  have hP : va_P G vwCl [(dw, .inr (2, [.int w_2]))] H := hP
  have hD : va_D A [(dw, .inr (2, [.int w_2]))] := hD
  refine lv_iload_n hx hb dX2_next_15 rfl (lv_at hl 1 rfl) ?_
  refine lv_iconst (v := 1) hx hb dX2_next_16 (by decide) ?_
  refine lv_icmp_ge (tgt := 24) hx hb dX2_next_17 (by decide) (fun _ => ?_) (fun c_3 => absurd c_3 (by decide))
  refine lv_aload_n hx hb dX2_next_24 rfl (lv_at hl 0 rfl) ?_
  refine va_get (D := G) (ci := 2) (v := .int w_2) (C := RX2) (T := TX2) (N := 1) hx hb hts inX2 hown hK.1 hP 0 rfl rfl 0 (by decide) (hts (.fieldLink RX2 7 "NestQuery$Draws" "seed" "I") (by decide +kernel)) (fun _ h9 => h9) rfl dX2_next_25 ?_
  refine lv_bipush (v := 16) hx hb dX2_next_28 (by decide) ?_
  refine lv_iushr hx hb dX2_next_30 rfl ?_
  refine lv_topi (fun w_4 _ => ?_)
  refine lv_sipush (v := 32767) hx hb dX2_next_31 (by decide) ?_
  refine lv_iand hx hb dX2_next_34 ?_
  refine lv_topi (fun w_5 _ => ?_)
  refine lv_iload_n hx hb dX2_next_35 rfl (lv_at hl 1 rfl) ?_
  refine lv_irem hx hb dX2_next_36 (by decide) ?_
  refine lv_topi (fun w_6 _ => ?_)
  have hP9 := hP.sub (ws' := [(dw, .inr (2, [.int w_2]))]) [0] rfl
  have hD9 := hD.sub (ws' := [(dw, .inr (2, [.int w_2]))]) [0] (by decide) rfl
  refine W.widen (k := 0) (n := 0) (Nat.le_of_ble_eq_true rfl) (Nat.le_of_ble_eq_true rfl) ?_
  exact W.iret (v := w_6) hx hb hr (fun t ht hW => ⟨⟨w_6, (w_2), rfl, trivial, by rw [ht]; exact hP9, by first | exact hD9 | (rw [hAe]; exact hD9)⟩, hS.F ht⟩) hS.2.2 dX2_next_37

set_option maxHeartbeats 400000 in
set_option maxRecDepth 100000 in
theorem c_next4 (l : Launch) (G : va_G) (y : Nat → ClassId) (sz : Nat) (dw : Nat) (z : Int32)  : Met l yX2_next wsX2_next ({ frames := 0, cells := 0, slots := 0, locals := 0 }) (nq_P G y sz [.ref dw, .int 4] [(dw, .inr (2, [.int z]))]) (va_Qi (fun (r : Int32) (_ : Int32) => True) (fun (u : Int32) t9 => va_P G vwCl ([(dw, .inr (2, [.int u]))]) t9.heap ∧ va_D (va_A [(dw, .inr (2, [.int z]))] sz) ([(dw, .inr (2, [.int u]))])) (va_A [(dw, .inr (2, [.int z]))] sz)) 0 0 (va_A [(dw, .inr (2, [.int z]))] sz) := by
  refine Met.ofW (cc := cX2_next) (maxL := 2) (ret := (some .int)) (by decide) rfl ?_
  intro p e s m args below meth c s₁ B hml hv
  obtain ⟨rfl, hsz, hP, hK, hD0⟩ := hv
  have hx := B.exec
  have hb := B.bytes
  have hr := B.returns
  have hts := atoms_spec (ws := wsX2_next) B.pre
  have hown : s.vm.findClass RX2 = some m.cls := findClass_of_methodNamed B.named
  have hlocks := B.notSynchronized
  subst hsz
  have hD := hD0.self (sz := s.heap.size)
  generalize hAe : va_A [(dw, .inr (2, [.int z]))] s.heap.size = A at hD ⊢
  have hA : ∀ q : Nat, s.heap.size ≤ q → A q := fun q h => by rw [← hAe]; exact Or.inr h
  have hS : va_S A s.heap s.heap [] := va_S.rf
  have hP : va_P G vwCl [(dw, .inr (2, [.int z]))] s.heap := hP
  have inX2 : ∀ w ∈ wsX20, w ∈ wsX2_next := by decide +kernel
  have hl := lv_entry ([.ref dw, .int 4]) (n := 2) (Nat.le_of_ble_eq_true rfl)
  rw [lg_entry_eq]
  generalize (lg_sl ([.ref dw, .int 4]) ++ List.replicate (2 - (lg_sl ([.ref dw, .int 4])).length) Slot.unset).toArray = ls at hl ⊢
  have hl : lv_has ls 2 [(0, .ref dw), (1, .int 4)] := hl
  refine lv_aload_n hx hb dX2_next_0 rfl (lv_at hl 0 rfl) ?_
  refine lv_aload_n hx hb dX2_next_1 rfl (lv_at hl 0 rfl) ?_
  refine va_get (D := G) (ci := 2) (v := .int z) (C := RX2) (T := TX2) (N := 1) hx hb hts inX2 hown hK.1 hP 0 rfl rfl 0 (by decide) (hts (.fieldLink RX2 7 "NestQuery$Draws" "seed" "I") (by decide +kernel)) (fun _ h9 => h9) rfl dX2_next_2 ?_
  refine lv_ldc (v := 1103515245) hx hb hown (hts (.constant RX2 13 1103515245) (by decide +kernel)) dX2_next_5 ?_
  refine lv_imul hx hb dX2_next_7 ?_
  refine lv_topi (fun w_1 _ => ?_)
  refine lv_sipush (v := 12345) hx hb dX2_next_8 (by decide) ?_
  refine lv_iadd hx hb dX2_next_11 ?_
  refine lv_topi (fun w_2 _ => ?_)
  refine va_put (D := G) (ci := 2) (v := .int w_2) (ty := .int) (C := RX2) (T := TX2) (N := 1) hx hb hts inX2 tyX2 tyX2_ok nmX2 hown hK.1 hP hD hS 0 rfl rfl 0 (by decide) (hts (.fieldLink RX2 7 "NestQuery$Draws" "seed" "I") (by decide +kernel)) (fun _ h9 => h9) rfl (by decide +kernel) rfl rfl (Nat.le_of_ble_eq_true rfl) dX2_next_12 (fun H locs hP hD hS => ?_)
  have hP : va_P G vwCl [(dw, .inr (2, [.int w_2]))] H := hP
  have hD : va_D A [(dw, .inr (2, [.int w_2]))] := hD
  refine lv_iload_n hx hb dX2_next_15 rfl (lv_at hl 1 rfl) ?_
  refine lv_iconst (v := 1) hx hb dX2_next_16 (by decide) ?_
  refine lv_icmp_ge (tgt := 24) hx hb dX2_next_17 (by decide) (fun _ => ?_) (fun c_3 => absurd c_3 (by decide))
  refine lv_aload_n hx hb dX2_next_24 rfl (lv_at hl 0 rfl) ?_
  refine va_get (D := G) (ci := 2) (v := .int w_2) (C := RX2) (T := TX2) (N := 1) hx hb hts inX2 hown hK.1 hP 0 rfl rfl 0 (by decide) (hts (.fieldLink RX2 7 "NestQuery$Draws" "seed" "I") (by decide +kernel)) (fun _ h9 => h9) rfl dX2_next_25 ?_
  refine lv_bipush (v := 16) hx hb dX2_next_28 (by decide) ?_
  refine lv_iushr hx hb dX2_next_30 rfl ?_
  refine lv_topi (fun w_4 _ => ?_)
  refine lv_sipush (v := 32767) hx hb dX2_next_31 (by decide) ?_
  refine lv_iand hx hb dX2_next_34 ?_
  refine lv_topi (fun w_5 _ => ?_)
  refine lv_iload_n hx hb dX2_next_35 rfl (lv_at hl 1 rfl) ?_
  refine lv_irem hx hb dX2_next_36 (by decide) ?_
  refine lv_topi (fun w_6 _ => ?_)
  have hP9 := hP.sub (ws' := [(dw, .inr (2, [.int w_2]))]) [0] rfl
  have hD9 := hD.sub (ws' := [(dw, .inr (2, [.int w_2]))]) [0] (by decide) rfl
  refine W.widen (k := 0) (n := 0) (Nat.le_of_ble_eq_true rfl) (Nat.le_of_ble_eq_true rfl) ?_
  exact W.iret (v := w_6) hx hb hr (fun t ht hW => ⟨⟨w_6, (w_2), rfl, trivial, by rw [ht]; exact hP9, by first | exact hD9 | (rw [hAe]; exact hD9)⟩, hS.F ht⟩) hS.2.2 dX2_next_37

set_option maxHeartbeats 400000 in
set_option maxRecDepth 100000 in
theorem c_next21 (l : Launch) (G : va_G) (y : Nat → ClassId) (sz : Nat) (dw : Nat) (z : Int32)  : Met l yX2_next wsX2_next ({ frames := 0, cells := 0, slots := 0, locals := 0 }) (nq_P G y sz [.ref dw, .int 21] [(dw, .inr (2, [.int z]))]) (va_Qi (fun (r : Int32) (_ : Int32) => True) (fun (u : Int32) t9 => va_P G vwCl ([(dw, .inr (2, [.int u]))]) t9.heap ∧ va_D (va_A [(dw, .inr (2, [.int z]))] sz) ([(dw, .inr (2, [.int u]))])) (va_A [(dw, .inr (2, [.int z]))] sz)) 0 0 (va_A [(dw, .inr (2, [.int z]))] sz) := by
  refine Met.ofW (cc := cX2_next) (maxL := 2) (ret := (some .int)) (by decide) rfl ?_
  intro p e s m args below meth c s₁ B hml hv
  obtain ⟨rfl, hsz, hP, hK, hD0⟩ := hv
  have hx := B.exec
  have hb := B.bytes
  have hr := B.returns
  have hts := atoms_spec (ws := wsX2_next) B.pre
  have hown : s.vm.findClass RX2 = some m.cls := findClass_of_methodNamed B.named
  have hlocks := B.notSynchronized
  subst hsz
  have hD := hD0.self (sz := s.heap.size)
  generalize hAe : va_A [(dw, .inr (2, [.int z]))] s.heap.size = A at hD ⊢
  have hA : ∀ q : Nat, s.heap.size ≤ q → A q := fun q h => by rw [← hAe]; exact Or.inr h
  have hS : va_S A s.heap s.heap [] := va_S.rf
  have hP : va_P G vwCl [(dw, .inr (2, [.int z]))] s.heap := hP
  have inX2 : ∀ w ∈ wsX20, w ∈ wsX2_next := by decide +kernel
  have hl := lv_entry ([.ref dw, .int 21]) (n := 2) (Nat.le_of_ble_eq_true rfl)
  rw [lg_entry_eq]
  generalize (lg_sl ([.ref dw, .int 21]) ++ List.replicate (2 - (lg_sl ([.ref dw, .int 21])).length) Slot.unset).toArray = ls at hl ⊢
  have hl : lv_has ls 2 [(0, .ref dw), (1, .int 21)] := hl
  refine lv_aload_n hx hb dX2_next_0 rfl (lv_at hl 0 rfl) ?_
  refine lv_aload_n hx hb dX2_next_1 rfl (lv_at hl 0 rfl) ?_
  refine va_get (D := G) (ci := 2) (v := .int z) (C := RX2) (T := TX2) (N := 1) hx hb hts inX2 hown hK.1 hP 0 rfl rfl 0 (by decide) (hts (.fieldLink RX2 7 "NestQuery$Draws" "seed" "I") (by decide +kernel)) (fun _ h9 => h9) rfl dX2_next_2 ?_
  refine lv_ldc (v := 1103515245) hx hb hown (hts (.constant RX2 13 1103515245) (by decide +kernel)) dX2_next_5 ?_
  refine lv_imul hx hb dX2_next_7 ?_
  refine lv_topi (fun w_1 _ => ?_)
  refine lv_sipush (v := 12345) hx hb dX2_next_8 (by decide) ?_
  refine lv_iadd hx hb dX2_next_11 ?_
  refine lv_topi (fun w_2 _ => ?_)
  refine va_put (D := G) (ci := 2) (v := .int w_2) (ty := .int) (C := RX2) (T := TX2) (N := 1) hx hb hts inX2 tyX2 tyX2_ok nmX2 hown hK.1 hP hD hS 0 rfl rfl 0 (by decide) (hts (.fieldLink RX2 7 "NestQuery$Draws" "seed" "I") (by decide +kernel)) (fun _ h9 => h9) rfl (by decide +kernel) rfl rfl (Nat.le_of_ble_eq_true rfl) dX2_next_12 (fun H locs hP hD hS => ?_)
  have hP : va_P G vwCl [(dw, .inr (2, [.int w_2]))] H := hP
  have hD : va_D A [(dw, .inr (2, [.int w_2]))] := hD
  refine lv_iload_n hx hb dX2_next_15 rfl (lv_at hl 1 rfl) ?_
  refine lv_iconst (v := 1) hx hb dX2_next_16 (by decide) ?_
  refine lv_icmp_ge (tgt := 24) hx hb dX2_next_17 (by decide) (fun _ => ?_) (fun c_3 => absurd c_3 (by decide))
  refine lv_aload_n hx hb dX2_next_24 rfl (lv_at hl 0 rfl) ?_
  refine va_get (D := G) (ci := 2) (v := .int w_2) (C := RX2) (T := TX2) (N := 1) hx hb hts inX2 hown hK.1 hP 0 rfl rfl 0 (by decide) (hts (.fieldLink RX2 7 "NestQuery$Draws" "seed" "I") (by decide +kernel)) (fun _ h9 => h9) rfl dX2_next_25 ?_
  refine lv_bipush (v := 16) hx hb dX2_next_28 (by decide) ?_
  refine lv_iushr hx hb dX2_next_30 rfl ?_
  refine lv_topi (fun w_4 _ => ?_)
  refine lv_sipush (v := 32767) hx hb dX2_next_31 (by decide) ?_
  refine lv_iand hx hb dX2_next_34 ?_
  refine lv_topi (fun w_5 _ => ?_)
  refine lv_iload_n hx hb dX2_next_35 rfl (lv_at hl 1 rfl) ?_
  refine lv_irem hx hb dX2_next_36 (by decide) ?_
  refine lv_topi (fun w_6 _ => ?_)
  have hP9 := hP.sub (ws' := [(dw, .inr (2, [.int w_2]))]) [0] rfl
  have hD9 := hD.sub (ws' := [(dw, .inr (2, [.int w_2]))]) [0] (by decide) rfl
  refine W.widen (k := 0) (n := 0) (Nat.le_of_ble_eq_true rfl) (Nat.le_of_ble_eq_true rfl) ?_
  exact W.iret (v := w_6) hx hb hr (fun t ht hW => ⟨⟨w_6, (w_2), rfl, trivial, by rw [ht]; exact hP9, by first | exact hD9 | (rw [hAe]; exact hD9)⟩, hS.F ht⟩) hS.2.2 dX2_next_37

set_option maxHeartbeats 400000 in
set_option maxRecDepth 100000 in
theorem c_next1 (l : Launch) (G : va_G) (y : Nat → ClassId) (sz : Nat) (dw : Nat) (z : Int32)  : Met l yX2_next wsX2_next ({ frames := 0, cells := 0, slots := 0, locals := 0 }) (nq_P G y sz [.ref dw, .int 1] [(dw, .inr (2, [.int z]))]) (va_Qi (fun (r : Int32) (_ : Int32) => True) (fun (u : Int32) t9 => va_P G vwCl ([(dw, .inr (2, [.int u]))]) t9.heap ∧ va_D (va_A [(dw, .inr (2, [.int z]))] sz) ([(dw, .inr (2, [.int u]))])) (va_A [(dw, .inr (2, [.int z]))] sz)) 0 0 (va_A [(dw, .inr (2, [.int z]))] sz) := by
  refine Met.ofW (cc := cX2_next) (maxL := 2) (ret := (some .int)) (by decide) rfl ?_
  intro p e s m args below meth c s₁ B hml hv
  obtain ⟨rfl, hsz, hP, hK, hD0⟩ := hv
  have hx := B.exec
  have hb := B.bytes
  have hr := B.returns
  have hts := atoms_spec (ws := wsX2_next) B.pre
  have hown : s.vm.findClass RX2 = some m.cls := findClass_of_methodNamed B.named
  have hlocks := B.notSynchronized
  subst hsz
  have hD := hD0.self (sz := s.heap.size)
  generalize hAe : va_A [(dw, .inr (2, [.int z]))] s.heap.size = A at hD ⊢
  have hA : ∀ q : Nat, s.heap.size ≤ q → A q := fun q h => by rw [← hAe]; exact Or.inr h
  have hS : va_S A s.heap s.heap [] := va_S.rf
  have hP : va_P G vwCl [(dw, .inr (2, [.int z]))] s.heap := hP
  have inX2 : ∀ w ∈ wsX20, w ∈ wsX2_next := by decide +kernel
  have hl := lv_entry ([.ref dw, .int 1]) (n := 2) (Nat.le_of_ble_eq_true rfl)
  rw [lg_entry_eq]
  generalize (lg_sl ([.ref dw, .int 1]) ++ List.replicate (2 - (lg_sl ([.ref dw, .int 1])).length) Slot.unset).toArray = ls at hl ⊢
  have hl : lv_has ls 2 [(0, .ref dw), (1, .int 1)] := hl
  refine lv_aload_n hx hb dX2_next_0 rfl (lv_at hl 0 rfl) ?_
  refine lv_aload_n hx hb dX2_next_1 rfl (lv_at hl 0 rfl) ?_
  refine va_get (D := G) (ci := 2) (v := .int z) (C := RX2) (T := TX2) (N := 1) hx hb hts inX2 hown hK.1 hP 0 rfl rfl 0 (by decide) (hts (.fieldLink RX2 7 "NestQuery$Draws" "seed" "I") (by decide +kernel)) (fun _ h9 => h9) rfl dX2_next_2 ?_
  refine lv_ldc (v := 1103515245) hx hb hown (hts (.constant RX2 13 1103515245) (by decide +kernel)) dX2_next_5 ?_
  refine lv_imul hx hb dX2_next_7 ?_
  refine lv_topi (fun w_1 _ => ?_)
  refine lv_sipush (v := 12345) hx hb dX2_next_8 (by decide) ?_
  refine lv_iadd hx hb dX2_next_11 ?_
  refine lv_topi (fun w_2 _ => ?_)
  refine va_put (D := G) (ci := 2) (v := .int w_2) (ty := .int) (C := RX2) (T := TX2) (N := 1) hx hb hts inX2 tyX2 tyX2_ok nmX2 hown hK.1 hP hD hS 0 rfl rfl 0 (by decide) (hts (.fieldLink RX2 7 "NestQuery$Draws" "seed" "I") (by decide +kernel)) (fun _ h9 => h9) rfl (by decide +kernel) rfl rfl (Nat.le_of_ble_eq_true rfl) dX2_next_12 (fun H locs hP hD hS => ?_)
  have hP : va_P G vwCl [(dw, .inr (2, [.int w_2]))] H := hP
  have hD : va_D A [(dw, .inr (2, [.int w_2]))] := hD
  refine lv_iload_n hx hb dX2_next_15 rfl (lv_at hl 1 rfl) ?_
  refine lv_iconst (v := 1) hx hb dX2_next_16 (by decide) ?_
  refine lv_icmp_ge (tgt := 24) hx hb dX2_next_17 (by decide) (fun _ => ?_) (fun c_3 => absurd c_3 (by decide))
  refine lv_aload_n hx hb dX2_next_24 rfl (lv_at hl 0 rfl) ?_
  refine va_get (D := G) (ci := 2) (v := .int w_2) (C := RX2) (T := TX2) (N := 1) hx hb hts inX2 hown hK.1 hP 0 rfl rfl 0 (by decide) (hts (.fieldLink RX2 7 "NestQuery$Draws" "seed" "I") (by decide +kernel)) (fun _ h9 => h9) rfl dX2_next_25 ?_
  refine lv_bipush (v := 16) hx hb dX2_next_28 (by decide) ?_
  refine lv_iushr hx hb dX2_next_30 rfl ?_
  refine lv_topi (fun w_4 _ => ?_)
  refine lv_sipush (v := 32767) hx hb dX2_next_31 (by decide) ?_
  refine lv_iand hx hb dX2_next_34 ?_
  refine lv_topi (fun w_5 _ => ?_)
  refine lv_iload_n hx hb dX2_next_35 rfl (lv_at hl 1 rfl) ?_
  refine lv_irem hx hb dX2_next_36 (by decide) ?_
  refine lv_topi (fun w_6 _ => ?_)
  have hP9 := hP.sub (ws' := [(dw, .inr (2, [.int w_2]))]) [0] rfl
  have hD9 := hD.sub (ws' := [(dw, .inr (2, [.int w_2]))]) [0] (by decide) rfl
  refine W.widen (k := 0) (n := 0) (Nat.le_of_ble_eq_true rfl) (Nat.le_of_ble_eq_true rfl) ?_
  exact W.iret (v := w_6) hx hb hr (fun t ht hW => ⟨⟨w_6, (w_2), rfl, trivial, by rw [ht]; exact hP9, by first | exact hD9 | (rw [hAe]; exact hD9)⟩, hS.F ht⟩) hS.2.2 dX2_next_37

