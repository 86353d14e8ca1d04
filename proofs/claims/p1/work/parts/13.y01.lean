set_option maxHeartbeats 400000 in
set_option maxRecDepth 100000 in
theorem c_takeAll (l : Launch) (G : va_G) (y : Nat → ClassId) (sz : Nat) (im : Nat) (imt : Nat) (imb : Nat) (imn : Nat) (imi : Nat) (imr : Nat) (imtk : Nat) (imtv : Nat) (imte : Nat) (imtd : Nat) (nw : Nat) (nwt : Nat) (nwb : Nat) (nwn : Nat) (nwi : Nat) (nwr : Nat) (nwtk : Nat) (nwtv : Nat) (nwte : Nat) (nwtd : Nat)  : Met l yX6_takeAll wsX6_takeAll ({ frames := 2, cells := 0, slots := 0, locals := 82 }) (nq_P G y sz [.ref im, .ref nw] [(im, .inr (6, [.ref imt, .ref imb, .int 0, .ref imn, .ref imi, .int 0, .ref imr])), (imt, .inr (9, [.ref imtk, .ref imtv, .ref imte, .ref imtd, .int 0])), (imtk, .inl (y 0, 60, .inl (fun _ => 0))), (imtv, .inl (y 0, 60, .inl (fun _ => 0))), (imte, .inl (y 0, 60, .inl (fun _ => 0))), (imtd, .inl (y 0, 60, .inl (fun _ => 0))), (imn, .inl (y 0, 8, .inl (fun _ => 0))), (imi, .inl (y 2, 8, .inl (fun _ => 0))), (imr, .inl (y 0, 3, .inl (fun _ => 0))), (nw, .inr (6, [.ref nwt, .ref nwb, .int 0, .ref nwn, .ref nwi, .int 0, .ref nwr])), (nwt, .inr (9, [.ref nwtk, .ref nwtv, .ref nwte, .ref nwtd, .int 1])), (nwtk, .inl (y 0, 60, .inl (upd (fun _ => 0) 0 3))), (nwtv, .inl (y 0, 60, .inl (upd (fun _ => 0) 0 0))), (nwte, .inl (y 0, 60, .inl (upd (fun _ => 0) 0 0))), (nwtd, .inl (y 0, 60, .inl (upd (fun _ => 0) 0 0))), (nwn, .inl (y 0, 8, .inl (fun _ => 0))), (nwi, .inl (y 2, 8, .inl (fun _ => 0))), (nwr, .inl (y 0, 3, .inl (fun _ => 0)))]) (va_Qv (fun (_ : Unit) => True) (fun (u : Unit) t9 => va_P G vwCl ([]) t9.heap ∧ va_D (va_A [(im, .inr (6, [.ref imt, .ref imb, .int 0, .ref imn, .ref imi, .int 0, .ref imr])), (imt, .inr (9, [.ref imtk, .ref imtv, .ref imte, .ref imtd, .int 0])), (imtk, .inl (y 0, 60, .inl (fun _ => 0))), (imtv, .inl (y 0, 60, .inl (fun _ => 0))), (imte, .inl (y 0, 60, .inl (fun _ => 0))), (imtd, .inl (y 0, 60, .inl (fun _ => 0))), (imn, .inl (y 0, 8, .inl (fun _ => 0))), (imi, .inl (y 2, 8, .inl (fun _ => 0))), (imr, .inl (y 0, 3, .inl (fun _ => 0))), (nw, .inr (6, [.ref nwt, .ref nwb, .int 0, .ref nwn, .ref nwi, .int 0, .ref nwr])), (nwt, .inr (9, [.ref nwtk, .ref nwtv, .ref nwte, .ref nwtd, .int 1])), (nwtk, .inl (y 0, 60, .inl (upd (fun _ => 0) 0 3))), (nwtv, .inl (y 0, 60, .inl (upd (fun _ => 0) 0 0))), (nwte, .inl (y 0, 60, .inl (upd (fun _ => 0) 0 0))), (nwtd, .inl (y 0, 60, .inl (upd (fun _ => 0) 0 0))), (nwn, .inl (y 0, 8, .inl (fun _ => 0))), (nwi, .inl (y 2, 8, .inl (fun _ => 0))), (nwr, .inl (y 0, 3, .inl (fun _ => 0)))] sz) ([])) (va_A [(im, .inr (6, [.ref imt, .ref imb, .int 0, .ref imn, .ref imi, .int 0, .ref imr])), (imt, .inr (9, [.ref imtk, .ref imtv, .ref imte, .ref imtd, .int 0])), (imtk, .inl (y 0, 60, .inl (fun _ => 0))), (imtv, .inl (y 0, 60, .inl (fun _ => 0))), (imte, .inl (y 0, 60, .inl (fun _ => 0))), (imtd, .inl (y 0, 60, .inl (fun _ => 0))), (imn, .inl (y 0, 8, .inl (fun _ => 0))), (imi, .inl (y 2, 8, .inl (fun _ => 0))), (imr, .inl (y 0, 3, .inl (fun _ => 0))), (nw, .inr (6, [.ref nwt, .ref nwb, .int 0, .ref nwn, .ref nwi, .int 0, .ref nwr])), (nwt, .inr (9, [.ref nwtk, .ref nwtv, .ref nwte, .ref nwtd, .int 1])), (nwtk, .inl (y 0, 60, .inl (upd (fun _ => 0) 0 3))), (nwtv, .inl (y 0, 60, .inl (upd (fun _ => 0) 0 0))), (nwte, .inl (y 0, 60, .inl (upd (fun _ => 0) 0 0))), (nwtd, .inl (y 0, 60, .inl (upd (fun _ => 0) 0 0))), (nwn, .inl (y 0, 8, .inl (fun _ => 0))), (nwi, .inl (y 2, 8, .inl (fun _ => 0))), (nwr, .inl (y 0, 3, .inl (fun _ => 0)))] sz)) 0 0 (va_A [(im, .inr (6, [.ref imt, .ref imb, .int 0, .ref imn, .ref imi, .int 0, .ref imr])), (imt, .inr (9, [.ref imtk, .ref imtv, .ref imte, .ref imtd, .int 0])), (imtk, .inl (y 0, 60, .inl (fun _ => 0))), (imtv, .inl (y 0, 60, .inl (fun _ => 0))), (imte, .inl (y 0, 60, .inl (fun _ => 0))), (imtd, .inl (y 0, 60, .inl (fun _ => 0))), (imn, .inl (y 0, 8, .inl (fun _ => 0))), (imi, .inl (y 2, 8, .inl (fun _ => 0))), (imr, .inl (y 0, 3, .inl (fun _ => 0))), (nw, .inr (6, [.ref nwt, .ref nwb, .int 0, .ref nwn, .ref nwi, .int 0, .ref nwr])), (nwt, .inr (9, [.ref nwtk, .ref nwtv, .ref nwte, .ref nwtd, .int 1])), (nwtk, .inl (y 0, 60, .inl (upd (fun _ => 0) 0 3))), (nwtv, .inl (y 0, 60, .inl (upd (fun _ => 0) 0 0))), (nwte, .inl (y 0, 60, .inl (upd (fun _ => 0) 0 0))), (nwtd, .inl (y 0, 60, .inl (upd (fun _ => 0) 0 0))), (nwn, .inl (y 0, 8, .inl (fun _ => 0))), (nwi, .inl (y 2, 8, .inl (fun _ => 0))), (nwr, .inl (y 0, 3, .inl (fun _ => 0)))] sz) := by
  refine Met.ofW (cc := cX6_takeAll) (maxL := 3) (ret := none) (by decide) rfl ?_
  intro p e s m args below meth c s₁ B hml hv
  obtain ⟨rfl, hsz, hP, hK, hD0⟩ := hv
  have hx := B.exec
  have hb := B.bytes
  have hr := B.returns
  have hts := atoms_spec (ws := wsX6_takeAll) B.pre
  have hown : s.vm.findClass RX6 = some m.cls := findClass_of_methodNamed B.named
  have hlocks := B.notSynchronized
  subst hsz
  have hD := hD0.self (sz := s.heap.size)
  generalize hAe : va_A [(im, .inr (6, [.ref imt, .ref imb, .int 0, .ref imn, .ref imi, .int 0, .ref imr])), (imt, .inr (9, [.ref imtk, .ref imtv, .ref imte, .ref imtd, .int 0])), (imtk, .inl (y 0, 60, .inl (fun _ => 0))), (imtv, .inl (y 0, 60, .inl (fun _ => 0))), (imte, .inl (y 0, 60, .inl (fun _ => 0))), (imtd, .inl (y 0, 60, .inl (fun _ => 0))), (imn, .inl (y 0, 8, .inl (fun _ => 0))), (imi, .inl (y 2, 8, .inl (fun _ => 0))), (imr, .inl (y 0, 3, .inl (fun _ => 0))), (nw, .inr (6, [.ref nwt, .ref nwb, .int 0, .ref nwn, .ref nwi, .int 0, .ref nwr])), (nwt, .inr (9, [.ref nwtk, .ref nwtv, .ref nwte, .ref nwtd, .int 1])), (nwtk, .inl (y 0, 60, .inl (upd (fun _ => 0) 0 3))), (nwtv, .inl (y 0, 60, .inl (upd (fun _ => 0) 0 0))), (nwte, .inl (y 0, 60, .inl (upd (fun _ => 0) 0 0))), (nwtd, .inl (y 0, 60, .inl (upd (fun _ => 0) 0 0))), (nwn, .inl (y 0, 8, .inl (fun _ => 0))), (nwi, .inl (y 2, 8, .inl (fun _ => 0))), (nwr, .inl (y 0, 3, .inl (fun _ => 0)))] s.heap.size = A at hD ⊢
  have hA : ∀ q : Nat, s.heap.size ≤ q → A q := fun q h => by rw [← hAe]; exact Or.inr h
  have hS : va_S A s.heap s.heap [] := va_S.rf
  have hP : va_P G vwCl [(im, .inr (6, [.ref imt, .ref imb, .int 0, .ref imn, .ref imi, .int 0, .ref imr])), (imt, .inr (9, [.ref imtk, .ref imtv, .ref imte, .ref imtd, .int 0])), (imtk, .inl (y 0, 60, .inl (fun _ => 0))), (imtv, .inl (y 0, 60, .inl (fun _ => 0))), (imte, .inl (y 0, 60, .inl (fun _ => 0))), (imtd, .inl (y 0, 60, .inl (fun _ => 0))), (imn, .inl (y 0, 8, .inl (fun _ => 0))), (imi, .inl (y 2, 8, .inl (fun _ => 0))), (imr, .inl (y 0, 3, .inl (fun _ => 0))), (nw, .inr (6, [.ref nwt, .ref nwb, .int 0, .ref nwn, .ref nwi, .int 0, .ref nwr])), (nwt, .inr (9, [.ref nwtk, .ref nwtv, .ref nwte, .ref nwtd, .int 1])), (nwtk, .inl (y 0, 60, .inl (upd (fun _ => 0) 0 3))), (nwtv, .inl (y 0, 60, .inl (upd (fun _ => 0) 0 0))), (nwte, .inl (y 0, 60, .inl (upd (fun _ => 0) 0 0))), (nwtd, .inl (y 0, 60, .inl (upd (fun _ => 0) 0 0))), (nwn, .inl (y 0, 8, .inl (fun _ => 0))), (nwi, .inl (y 2, 8, .inl (fun _ => 0))), (nwr, .inl (y 0, 3, .inl (fun _ => 0)))] s.heap := hP
  have inX6 : ∀ w ∈ wsX60, w ∈ wsX6_takeAll := by decide +kernel
  have hl := lv_entry ([.ref im, .ref nw]) (n := 3) (Nat.le_of_ble_eq_true rfl)
  rw [lg_entry_eq]
  generalize (lg_sl ([.ref im, .ref nw]) ++ List.replicate (3 - (lg_sl ([.ref im, .ref nw])).length) Slot.unset).toArray = ls at hl ⊢
  have hl : lv_has ls 3 [(0, .ref im), (1, .ref nw)] := hl
  refine lv_aload_n hx hb dX6_takeAll_0 rfl (lv_at hl 0 rfl) ?_
  refine va_get (D := G) (ci := 6) (v := .ref imt) (C := RX6) (T := TX6) (N := 7) hx hb hts inX6 hown hK.1 hP 0 rfl rfl 0 (by decide) (hts (.fieldLink RX6 14 "NestQuery$State" "tree" "LNestQuery$Tree;") (by decide +kernel)) (fun _ h9 => h9) rfl dX6_takeAll_1 ?_
  refine lv_aload_n hx hb dX6_takeAll_4 rfl (lv_at hl 1 rfl) ?_
  refine va_get (D := G) (ci := 6) (v := .ref nwt) (C := RX6) (T := TX6) (N := 7) hx hb hts inX6 hown hK.1 hP 9 rfl rfl 0 (by decide) (hts (.fieldLink RX6 14 "NestQuery$State" "tree" "LNestQuery$Tree;") (by decide +kernel)) (fun _ h9 => h9) rfl dX6_takeAll_5 ?_
  refine nq_wrv (wr := [(im, .inr (6, [.ref imt, .ref imb, .int 0, .ref imn, .ref imi, .int 0, .ref imr])), (imn, .inl (y 0, 8, .inl (fun _ => 0))), (imi, .inl (y 2, 8, .inl (fun _ => 0))), (imr, .inl (y 0, 3, .inl (fun _ => 0))), (nw, .inr (6, [.ref nwt, .ref nwb, .int 0, .ref nwn, .ref nwi, .int 0, .ref nwr])), (nwn, .inl (y 0, 8, .inl (fun _ => 0))), (nwi, .inl (y 2, 8, .inl (fun _ => 0))), (nwr, .inl (y 0, 3, .inl (fun _ => 0)))]) (va_runV (As := [.ref nwt]) (rest := []) ⟨hx, hb, hml, hown, hts⟩ (c_become l G y s.heap.size imt imtk imtv imte imtd nwt nwtk nwtv nwte nwtd (fun _ => 0) (fun _ => 0) (fun _ => 0) (fun _ => 0) (upd (fun _ => 0) 0 3) (upd (fun _ => 0) 0 0) (upd (fun _ => 0) 0 0) (upd (fun _ => 0) 0 0) ) (cwV 1 hts gX6_takeAll_X9_become rfl rfl rfl (by decide +kernel) ⟨Nat.le_of_ble_eq_true rfl, Nat.le_of_ble_eq_true rfl⟩) (nq_PV hK hP hD [1, 2, 3, 4, 5, 10, 11, 12, 13, 14] rfl rfl 1 rfl rfl) rfl rfl hl.1 rfl (lv_room (Nat.le_of_ble_eq_true rfl)) dX6_takeAll_8 ⟨Nat.le_of_ble_eq_true rfl, Nat.le_of_ble_eq_true rfl⟩) hP hD hS hA [1, 2, 3, 4, 5, 10, 11, 12, 13, 14] [0, 6, 7, 8, 9, 15, 16, 17] rfl rfl (by decide) (by decide) (fun u_1 H locs hw_2 hP hD hS => ?_)
  have hP : va_P G vwCl [(im, .inr (6, [.ref imt, .ref imb, .int 0, .ref imn, .ref imi, .int 0, .ref imr])), (imn, .inl (y 0, 8, .inl (fun _ => 0))), (imi, .inl (y 2, 8, .inl (fun _ => 0))), (imr, .inl (y 0, 3, .inl (fun _ => 0))), (nw, .inr (6, [.ref nwt, .ref nwb, .int 0, .ref nwn, .ref nwi, .int 0, .ref nwr])), (nwn, .inl (y 0, 8, .inl (fun _ => 0))), (nwi, .inl (y 2, 8, .inl (fun _ => 0))), (nwr, .inl (y 0, 3, .inl (fun _ => 0)))] H := hP
  have hD : va_D A [(im, .inr (6, [.ref imt, .ref imb, .int 0, .ref imn, .ref imi, .int 0, .ref imr])), (imn, .inl (y 0, 8, .inl (fun _ => 0))), (imi, .inl (y 2, 8, .inl (fun _ => 0))), (imr, .inl (y 0, 3, .inl (fun _ => 0))), (nw, .inr (6, [.ref nwt, .ref nwb, .int 0, .ref nwn, .ref nwi, .int 0, .ref nwr])), (nwn, .inl (y 0, 8, .inl (fun _ => 0))), (nwi, .inl (y 2, 8, .inl (fun _ => 0))), (nwr, .inl (y 0, 3, .inl (fun _ => 0)))] := hD
  refine lv_aload_n hx hb dX6_takeAll_11 rfl (lv_at hl 0 rfl) ?_
  refine lv_aload_n hx hb dX6_takeAll_12 rfl (lv_at hl 1 rfl) ?_
  refine va_get (D := G) (ci := 6) (v := .int 0) (C := RX6) (T := TX6) (N := 7) hx hb hts inX6 hown hK.1 hP 4 rfl rfl 2 (by decide) (hts (.fieldLink RX6 35 "NestQuery$State" "actCount" "I") (by decide +kernel)) (fun _ h9 => h9) rfl dX6_takeAll_13 ?_
  refine va_put (D := G) (ci := 6) (v := .int 0) (ty := .int) (C := RX6) (T := TX6) (N := 7) hx hb hts inX6 tyX6 tyX6_ok nmX6 hown hK.1 hP hD hS 0 rfl rfl 2 (by decide) (hts (.fieldLink RX6 35 "NestQuery$State" "actCount" "I") (by decide +kernel)) (fun _ h9 => h9) rfl (by decide +kernel) rfl rfl (Nat.le_of_ble_eq_true rfl) dX6_takeAll_16 (fun H locs hP hD hS => ?_)
  have hP : va_P G vwCl [(im, .inr (6, [.ref imt, .ref imb, .int 0, .ref imn, .ref imi, .int 0, .ref imr])), (imn, .inl (y 0, 8, .inl (fun _ => 0))), (imi, .inl (y 2, 8, .inl (fun _ => 0))), (imr, .inl (y 0, 3, .inl (fun _ => 0))), (nw, .inr (6, [.ref nwt, .ref nwb, .int 0, .ref nwn, .ref nwi, .int 0, .ref nwr])), (nwn, .inl (y 0, 8, .inl (fun _ => 0))), (nwi, .inl (y 2, 8, .inl (fun _ => 0))), (nwr, .inl (y 0, 3, .inl (fun _ => 0)))] H := hP
  have hD : va_D A [(im, .inr (6, [.ref imt, .ref imb, .int 0, .ref imn, .ref imi, .int 0, .ref imr])), (imn, .inl (y 0, 8, .inl (fun _ => 0))), (imi, .inl (y 2, 8, .inl (fun _ => 0))), (imr, .inl (y 0, 3, .inl (fun _ => 0))), (nw, .inr (6, [.ref nwt, .ref nwb, .int 0, .ref nwn, .ref nwi, .int 0, .ref nwr])), (nwn, .inl (y 0, 8, .inl (fun _ => 0))), (nwi, .inl (y 2, 8, .inl (fun _ => 0))), (nwr, .inl (y 0, 3, .inl (fun _ => 0)))] := hD
  refine lv_iconst (v := 0) hx hb dX6_takeAll_19 (by decide) ?_
  refine lv_istore_n (lv' := [(2, .int 0), (0, .ref im), (1, .ref nw)]) hx hb dX6_takeAll_20 rfl hl (by decide) rfl (fun ls hl => ?_)
  refine lv_iload_n hx hb dX6_takeAll_21 rfl (lv_at hl 0 rfl) ?_
  refine lv_aload_n hx hb dX6_takeAll_22 rfl (lv_at hl 1 rfl) ?_
  refine va_get (D := G) (ci := 6) (v := .int 0) (C := RX6) (T := TX6) (N := 7) hx hb hts inX6 hown hK.1 hP 0 rfl rfl 2 (by decide) (hts (.fieldLink RX6 35 "NestQuery$State" "actCount" "I") (by decide +kernel)) (fun _ h9 => h9) rfl dX6_takeAll_23 ?_
  refine lv_icmp_ge (tgt := 52) hx hb dX6_takeAll_26 (by decide) (fun _ => ?_) (fun c_4 => absurd c_4 (by decide))
  refine lv_aload_n hx hb dX6_takeAll_52 rfl (lv_at hl 1 rfl) ?_
  refine lv_aload_n hx hb dX6_takeAll_53 rfl (lv_at hl 2 rfl) ?_
  refine va_get (D := G) (ci := 6) (v := .int 0) (C := RX6) (T := TX6) (N := 7) hx hb hts inX6 hown hK.1 hP 4 rfl rfl 5 (by decide) (hts (.fieldLink RX6 46 "NestQuery$State" "notedCount" "I") (by decide +kernel)) (fun _ h9 => h9) rfl dX6_takeAll_54 ?_
  refine va_put (D := G) (ci := 6) (v := .int 0) (ty := .int) (C := RX6) (T := TX6) (N := 7) hx hb hts inX6 tyX6 tyX6_ok nmX6 hown hK.1 hP hD hS 0 rfl rfl 5 (by decide) (hts (.fieldLink RX6 46 "NestQuery$State" "notedCount" "I") (by decide +kernel)) (fun _ h9 => h9) rfl (by decide +kernel) rfl rfl (Nat.le_of_ble_eq_true rfl) dX6_takeAll_57 (fun H locs hP hD hS => ?_)
  have hP : va_P G vwCl [(im, .inr (6, [.ref imt, .ref imb, .int 0, .ref imn, .ref imi, .int 0, .ref imr])), (imn, .inl (y 0, 8, .inl (fun _ => 0))), (imi, .inl (y 2, 8, .inl (fun _ => 0))), (imr, .inl (y 0, 3, .inl (fun _ => 0))), (nw, .inr (6, [.ref nwt, .ref nwb, .int 0, .ref nwn, .ref nwi, .int 0, .ref nwr])), (nwn, .inl (y 0, 8, .inl (fun _ => 0))), (nwi, .inl (y 2, 8, .inl (fun _ => 0))), (nwr, .inl (y 0, 3, .inl (fun _ => 0)))] H := hP
  have hD : va_D A [(im, .inr (6, [.ref imt, .ref imb, .int 0, .ref imn, .ref imi, .int 0, .ref imr])), (imn, .inl (y 0, 8, .inl (fun _ => 0))), (imi, .inl (y 2, 8, .inl (fun _ => 0))), (imr, .inl (y 0, 3, .inl (fun _ => 0))), (nw, .inr (6, [.ref nwt, .ref nwb, .int 0, .ref nwn, .ref nwi, .int 0, .ref nwr])), (nwn, .inl (y 0, 8, .inl (fun _ => 0))), (nwi, .inl (y 2, 8, .inl (fun _ => 0))), (nwr, .inl (y 0, 3, .inl (fun _ => 0)))] := hD
  refine lv_iconst (v := 0) hx hb dX6_takeAll_60 (by decide) ?_
  refine lv_istore_n (lv' := [(2, .int 0), (0, .ref im), (1, .ref nw)]) hx hb dX6_takeAll_61 rfl hl (by decide) rfl (fun ls hl => ?_)
  refine lv_iload_n hx hb dX6_takeAll_62 rfl (lv_at hl 0 rfl) ?_
  refine lv_bipush (v := 8) hx hb dX6_takeAll_63 (by decide) ?_
  refine lv_icmp_ge (tgt := 98) hx hb dX6_takeAll_65 (by decide) (fun c_5 => absurd c_5 (by decide)) (fun _ => ?_)
  refine lv_aload_n hx hb dX6_takeAll_68 rfl (lv_at hl 1 rfl) ?_
  refine va_get (D := G) (ci := 6) (v := .ref imn) (C := RX6) (T := TX6) (N := 7) hx hb hts inX6 hown hK.1 hP 0 rfl rfl 3 (by decide) (hts (.fieldLink RX6 24 "NestQuery$State" "notedThings" "[I") (by decide +kernel)) (fun _ h9 => h9) rfl dX6_takeAll_69 ?_
  refine lv_iload_n hx hb dX6_takeAll_72 rfl (lv_at hl 0 rfl) ?_
  refine lv_aload_n hx hb dX6_takeAll_73 rfl (lv_at hl 2 rfl) ?_
  refine va_get (D := G) (ci := 6) (v := .ref nwn) (C := RX6) (T := TX6) (N := 7) hx hb hts inX6 hown hK.1 hP 4 rfl rfl 3 (by decide) (hts (.fieldLink RX6 24 "NestQuery$State" "notedThings" "[I") (by decide +kernel)) (fun _ h9 => h9) rfl dX6_takeAll_74 ?_
  refine lv_iload_n hx hb dX6_takeAll_77 rfl (lv_at hl 0 rfl) ?_
  refine va_iald hx hb hK.1 hP 5 0 rfl rfl (i := 0) (nq_in (by decide)) dX6_takeAll_78 ?_
  refine nq_top (z := 0) (rfl) ?_
  refine va_iast hx hb hK.1 hP hD hS 1 0 rfl rfl (i := 0) (nq_in (by decide)) dX6_takeAll_79 (fun H locs hP hD hS => ?_)
  have hP : va_P G vwCl [(im, .inr (6, [.ref imt, .ref imb, .int 0, .ref imn, .ref imi, .int 0, .ref imr])), (imn, .inl (y 0, 8, .inl (upd (fun _ => 0) 0 0))), (imi, .inl (y 2, 8, .inl (fun _ => 0))), (imr, .inl (y 0, 3, .inl (fun _ => 0))), (nw, .inr (6, [.ref nwt, .ref nwb, .int 0, .ref nwn, .ref nwi, .int 0, .ref nwr])), (nwn, .inl (y 0, 8, .inl (fun _ => 0))), (nwi, .inl (y 2, 8, .inl (fun _ => 0))), (nwr, .inl (y 0, 3, .inl (fun _ => 0)))] H := hP
  have hD : va_D A [(im, .inr (6, [.ref imt, .ref imb, .int 0, .ref imn, .ref imi, .int 0, .ref imr])), (imn, .inl (y 0, 8, .inl (upd (fun _ => 0) 0 0))), (imi, .inl (y 2, 8, .inl (fun _ => 0))), (imr, .inl (y 0, 3, .inl (fun _ => 0))), (nw, .inr (6, [.ref nwt, .ref nwb, .int 0, .ref nwn, .ref nwi, .int 0, .ref nwr])), (nwn, .inl (y 0, 8, .inl (fun _ => 0))), (nwi, .inl (y 2, 8, .inl (fun _ => 0))), (nwr, .inl (y 0, 3, .inl (fun _ => 0)))] := hD
  refine lv_aload_n hx hb dX6_takeAll_80 rfl (lv_at hl 1 rfl) ?_
  refine va_get (D := G) (ci := 6) (v := .ref imi) (C := RX6) (T := TX6) (N := 7) hx hb hts inX6 hown hK.1 hP 0 rfl rfl 4 (by decide) (hts (.fieldLink RX6 28 "NestQuery$State" "notedIs" "[Z") (by decide +kernel)) (fun _ h9 => h9) rfl dX6_takeAll_81 ?_
  refine lv_iload_n hx hb dX6_takeAll_84 rfl (lv_at hl 0 rfl) ?_
  refine lv_aload_n hx hb dX6_takeAll_85 rfl (lv_at hl 2 rfl) ?_
  refine va_get (D := G) (ci := 6) (v := .ref nwi) (C := RX6) (T := TX6) (N := 7) hx hb hts inX6 hown hK.1 hP 4 rfl rfl 4 (by decide) (hts (.fieldLink RX6 28 "NestQuery$State" "notedIs" "[Z") (by decide +kernel)) (fun _ h9 => h9) rfl dX6_takeAll_86 ?_
  refine lv_iload_n hx hb dX6_takeAll_89 rfl (lv_at hl 0 rfl) ?_
  refine va_zald hx hb hK.1 hP 6 2 rfl rfl (i := 0) (nq_in (by decide)) dX6_takeAll_90 ?_
  refine nq_top (z := 0) (rfl) ?_
  refine va_zast hx hb hK.1 hP hD hS 2 2 rfl rfl (i := 0) (nq_in (by decide)) dX6_takeAll_91 (fun H locs hP hD hS => ?_)
  have hP : va_P G vwCl [(im, .inr (6, [.ref imt, .ref imb, .int 0, .ref imn, .ref imi, .int 0, .ref imr])), (imn, .inl (y 0, 8, .inl (upd (fun _ => 0) 0 0))), (imi, .inl (y 2, 8, .inl (upd (fun _ => 0) 0 (vp_nar .boolean 0)))), (imr, .inl (y 0, 3, .inl (fun _ => 0))), (nw, .inr (6, [.ref nwt, .ref nwb, .int 0, .ref nwn, .ref nwi, .int 0, .ref nwr])), (nwn, .inl (y 0, 8, .inl (fun _ => 0))), (nwi, .inl (y 2, 8, .inl (fun _ => 0))), (nwr, .inl (y 0, 3, .inl (fun _ => 0)))] H := hP
  have hD : va_D A [(im, .inr (6, [.ref imt, .ref imb, .int 0, .ref imn, .ref imi, .int 0, .ref imr])), (imn, .inl (y 0, 8, .inl (upd (fun _ => 0) 0 0))), (imi, .inl (y 2, 8, .inl (upd (fun _ => 0) 0 (vp_nar .boolean 0)))), (imr, .inl (y 0, 3, .inl (fun _ => 0))), (nw, .inr (6, [.ref nwt, .ref nwb, .int 0, .ref nwn, .ref nwi, .int 0, .ref nwr])), (nwn, .inl (y 0, 8, .inl (fun _ => 0))), (nwi, .inl (y 2, 8, .inl (fun _ => 0))), (nwr, .inl (y 0, 3, .inl (fun _ => 0)))] := hD
  refine lv_iinc (v := 1) (lv' := [(2, .int 1), (0, .ref im), (1, .ref nw)]) hx hb dX6_takeAll_92 hl (k := 0) rfl (by decide) (by decide) rfl (fun ls hl => ?_)
  refine lv_goto (tgt := 62) hx hb dX6_takeAll_95 (by decide) ?_
  refine lv_iload_n hx hb dX6_takeAll_62 rfl (lv_at hl 0 rfl) ?_
  refine lv_bipush (v := 8) hx hb dX6_takeAll_63 (by decide) ?_
  refine lv_icmp_ge (tgt := 98) hx hb dX6_takeAll_65 (by decide) (fun c_6 => absurd c_6 (by decide)) (fun _ => ?_)
  refine lv_aload_n hx hb dX6_takeAll_68 rfl (lv_at hl 1 rfl) ?_
  refine va_get (D := G) (ci := 6) (v := .ref imn) (C := RX6) (T := TX6) (N := 7) hx hb hts inX6 hown hK.1 hP 0 rfl rfl 3 (by decide) (hts (.fieldLink RX6 24 "NestQuery$State" "notedThings" "[I") (by decide +kernel)) (fun _ h9 => h9) rfl dX6_takeAll_69 ?_
  refine lv_iload_n hx hb dX6_takeAll_72 rfl (lv_at hl 0 rfl) ?_
  refine lv_aload_n hx hb dX6_takeAll_73 rfl (lv_at hl 2 rfl) ?_
  refine va_get (D := G) (ci := 6) (v := .ref nwn) (C := RX6) (T := TX6) (N := 7) hx hb hts inX6 hown hK.1 hP 4 rfl rfl 3 (by decide) (hts (.fieldLink RX6 24 "NestQuery$State" "notedThings" "[I") (by decide +kernel)) (fun _ h9 => h9) rfl dX6_takeAll_74 ?_
  refine lv_iload_n hx hb dX6_takeAll_77 rfl (lv_at hl 0 rfl) ?_
  refine va_iald hx hb hK.1 hP 5 0 rfl rfl (i := 1) (nq_in (by decide)) dX6_takeAll_78 ?_
  refine nq_top (z := 0) (rfl) ?_
  refine va_iast hx hb hK.1 hP hD hS 1 0 rfl rfl (i := 1) (nq_in (by decide)) dX6_takeAll_79 (fun H locs hP hD hS => ?_)
  have hP : va_P G vwCl [(im, .inr (6, [.ref imt, .ref imb, .int 0, .ref imn, .ref imi, .int 0, .ref imr])), (imn, .inl (y 0, 8, .inl (upd (upd (fun _ => 0) 0 0) 1 0))), (imi, .inl (y 2, 8, .inl (upd (fun _ => 0) 0 (vp_nar .boolean 0)))), (imr, .inl (y 0, 3, .inl (fun _ => 0))), (nw, .inr (6, [.ref nwt, .ref nwb, .int 0, .ref nwn, .ref nwi, .int 0, .ref nwr])), (nwn, .inl (y 0, 8, .inl (fun _ => 0))), (nwi, .inl (y 2, 8, .inl (fun _ => 0))), (nwr, .inl (y 0, 3, .inl (fun _ => 0)))] H := hP
  have hD : va_D A [(im, .inr (6, [.ref imt, .ref imb, .int 0, .ref imn, .ref imi, .int 0, .ref imr])), (imn, .inl (y 0, 8, .inl (upd (upd (fun _ => 0) 0 0) 1 0))), (imi, .inl (y 2, 8, .inl (upd (fun _ => 0) 0 (vp_nar .boolean 0)))), (imr, .inl (y 0, 3, .inl (fun _ => 0))), (nw, .inr (6, [.ref nwt, .ref nwb, .int 0, .ref nwn, .ref nwi, .int 0, .ref nwr])), (nwn, .inl (y 0, 8, .inl (fun _ => 0))), (nwi, .inl (y 2, 8, .inl (fun _ => 0))), (nwr, .inl (y 0, 3, .inl (fun _ => 0)))] := hD
  refine lv_aload_n hx hb dX6_takeAll_80 rfl (lv_at hl 1 rfl) ?_
  refine va_get (D := G) (ci := 6) (v := .ref imi) (C := RX6) (T := TX6) (N := 7) hx hb hts inX6 hown hK.1 hP 0 rfl rfl 4 (by decide) (hts (.fieldLink RX6 28 "NestQuery$State" "notedIs" "[Z") (by decide +kernel)) (fun _ h9 => h9) rfl dX6_takeAll_81 ?_
  refine lv_iload_n hx hb dX6_takeAll_84 rfl (lv_at hl 0 rfl) ?_
  refine lv_aload_n hx hb dX6_takeAll_85 rfl (lv_at hl 2 rfl) ?_
  refine va_get (D := G) (ci := 6) (v := .ref nwi) (C := RX6) (T := TX6) (N := 7) hx hb hts inX6 hown hK.1 hP 4 rfl rfl 4 (by decide) (hts (.fieldLink RX6 28 "NestQuery$State" "notedIs" "[Z") (by decide +kernel)) (fun _ h9 => h9) rfl dX6_takeAll_86 ?_
  refine lv_iload_n hx hb dX6_takeAll_89 rfl (lv_at hl 0 rfl) ?_
  refine va_zald hx hb hK.1 hP 6 2 rfl rfl (i := 1) (nq_in (by decide)) dX6_takeAll_90 ?_
  refine nq_top (z := 0) (rfl) ?_
  refine va_zast hx hb hK.1 hP hD hS 2 2 rfl rfl (i := 1) (nq_in (by decide)) dX6_takeAll_91 (fun H locs hP hD hS => ?_)
  have hP : va_P G vwCl [(im, .inr (6, [.ref imt, .ref imb, .int 0, .ref imn, .ref imi, .int 0, .ref imr])), (imn, .inl (y 0, 8, .inl (upd (upd (fun _ => 0) 0 0) 1 0))), (imi, .inl (y 2, 8, .inl (upd (upd (fun _ => 0) 0 (vp_nar .boolean 0)) 1 (vp_nar .boolean 0)))), (imr, .inl (y 0, 3, .inl (fun _ => 0))), (nw, .inr (6, [.ref nwt, .ref nwb, .int 0, .ref nwn, .ref nwi, .int 0, .ref nwr])), (nwn, .inl (y 0, 8, .inl (fun _ => 0))), (nwi, .inl (y 2, 8, .inl (fun _ => 0))), (nwr, .inl (y 0, 3, .inl (fun _ => 0)))] H := hP
  have hD : va_D A [(im, .inr (6, [.ref imt, .ref imb, .int 0, .ref imn, .ref imi, .int 0, .ref imr])), (imn, .inl (y 0, 8, .inl (upd (upd (fun _ => 0) 0 0) 1 0))), (imi, .inl (y 2, 8, .inl (upd (upd (fun _ => 0) 0 (vp_nar .boolean 0)) 1 (vp_nar .boolean 0)))), (imr, .inl (y 0, 3, .inl (fun _ => 0))), (nw, .inr (6, [.ref nwt, .ref nwb, .int 0, .ref nwn, .ref nwi, .int 0, .ref nwr])), (nwn, .inl (y 0, 8, .inl (fun _ => 0))), (nwi, .inl (y 2, 8, .inl (fun _ => 0))), (nwr, .inl (y 0, 3, .inl (fun _ => 0)))] := hD
  refine lv_iinc (v := 2) (lv' := [(2, .int 2), (0, .ref im), (1, .ref nw)]) hx hb dX6_takeAll_92 hl (k := 0) rfl (by decide) (by decide) rfl (fun ls hl => ?_)
  refine lv_goto (tgt := 62) hx hb dX6_takeAll_95 (by decide) ?_
  refine lv_iload_n hx hb dX6_takeAll_62 rfl (lv_at hl 0 rfl) ?_
  refine lv_bipush (v := 8) hx hb dX6_takeAll_63 (by decide) ?_
  refine lv_icmp_ge (tgt := 98) hx hb dX6_takeAll_65 (by decide) (fun c_7 => absurd c_7 (by decide)) (fun _ => ?_)
  refine lv_aload_n hx hb dX6_takeAll_68 rfl (lv_at hl 1 rfl) ?_
  refine va_get (D := G) (ci := 6) (v := .ref imn) (C := RX6) (T := TX6) (N := 7) hx hb hts inX6 hown hK.1 hP 0 rfl rfl 3 (by decide) (hts (.fieldLink RX6 24 "NestQuery$State" "notedThings" "[I") (by decide +kernel)) (fun _ h9 => h9) rfl dX6_takeAll_69 ?_
  refine lv_iload_n hx hb dX6_takeAll_72 rfl (lv_at hl 0 rfl) ?_
  refine lv_aload_n hx hb dX6_takeAll_73 rfl (lv_at hl 2 rfl) ?_
  refine va_get (D := G) (ci := 6) (v := .ref nwn) (C := RX6) (T := TX6) (N := 7) hx hb hts inX6 hown hK.1 hP 4 rfl rfl 3 (by decide) (hts (.fieldLink RX6 24 "NestQuery$State" "notedThings" "[I") (by decide +kernel)) (fun _ h9 => h9) rfl dX6_takeAll_74 ?_
  refine lv_iload_n hx hb dX6_takeAll_77 rfl (lv_at hl 0 rfl) ?_
  refine va_iald hx hb hK.1 hP 5 0 rfl rfl (i := 2) (nq_in (by decide)) dX6_takeAll_78 ?_
  refine nq_top (z := 0) (rfl) ?_
  refine va_iast hx hb hK.1 hP hD hS 1 0 rfl rfl (i := 2) (nq_in (by decide)) dX6_takeAll_79 (fun H locs hP hD hS => ?_)
  have hP : va_P G vwCl [(im, .inr (6, [.ref imt, .ref imb, .int 0, .ref imn, .ref imi, .int 0, .ref imr])), (imn, .inl (y 0, 8, .inl (upd (upd (upd (fun _ => 0) 0 0) 1 0) 2 0))), (imi, .inl (y 2, 8, .inl (upd (upd (fun _ => 0) 0 (vp_nar .boolean 0)) 1 (vp_nar .boolean 0)))), (imr, .inl (y 0, 3, .inl (fun _ => 0))), (nw, .inr (6, [.ref nwt, .ref nwb, .int 0, .ref nwn, .ref nwi, .int 0, .ref nwr])), (nwn, .inl (y 0, 8, .inl (fun _ => 0))), (nwi, .inl (y 2, 8, .inl (fun _ => 0))), (nwr, .inl (y 0, 3, .inl (fun _ => 0)))] H := hP
  have hD : va_D A [(im, .inr (6, [.ref imt, .ref imb, .int 0, .ref imn, .ref imi, .int 0, .ref imr])), (imn, .inl (y 0, 8, .inl (upd (upd (upd (fun _ => 0) 0 0) 1 0) 2 0))), (imi, .inl (y 2, 8, .inl (upd (upd (fun _ => 0) 0 (vp_nar .boolean 0)) 1 (vp_nar .boolean 0)))), (imr, .inl (y 0, 3, .inl (fun _ => 0))), (nw, .inr (6, [.ref nwt, .ref nwb, .int 0, .ref nwn, .ref nwi, .int 0, .ref nwr])), (nwn, .inl (y 0, 8, .inl (fun _ => 0))), (nwi, .inl (y 2, 8, .inl (fun _ => 0))), (nwr, .inl (y 0, 3, .inl (fun _ => 0)))] := hD
  refine lv_aload_n hx hb dX6_takeAll_80 rfl (lv_at hl 1 rfl) ?_
  refine va_get (D := G) (ci := 6) (v := .ref imi) (C := RX6) (T := TX6) (N := 7) hx hb hts inX6 hown hK.1 hP 0 rfl rfl 4 (by decide) (hts (.fieldLink RX6 28 "NestQuery$State" "notedIs" "[Z") (by decide +kernel)) (fun _ h9 => h9) rfl dX6_takeAll_81 ?_
  refine lv_iload_n hx hb dX6_takeAll_84 rfl (lv_at hl 0 rfl) ?_
  refine lv_aload_n hx hb dX6_takeAll_85 rfl (lv_at hl 2 rfl) ?_
  refine va_get (D := G) (ci := 6) (v := .ref nwi) (C := RX6) (T := TX6) (N := 7) hx hb hts inX6 hown hK.1 hP 4 rfl rfl 4 (by decide) (hts (.fieldLink RX6 28 "NestQuery$State" "notedIs" "[Z") (by decide +kernel)) (fun _ h9 => h9) rfl dX6_takeAll_86 ?_
  refine lv_iload_n hx hb dX6_takeAll_89 rfl (lv_at hl 0 rfl) ?_
  refine va_zald hx hb hK.1 hP 6 2 rfl rfl (i := 2) (nq_in (by decide)) dX6_takeAll_90 ?_
  refine nq_top (z := 0) (rfl) ?_
  refine va_zast hx hb hK.1 hP hD hS 2 2 rfl rfl (i := 2) (nq_in (by decide)) dX6_takeAll_91 (fun H locs hP hD hS => ?_)
  have hP : va_P G vwCl [(im, .inr (6, [.ref imt, .ref imb, .int 0, .ref imn, .ref imi, .int 0, .ref imr])), (imn, .inl (y 0, 8, .inl (upd (upd (upd (fun _ => 0) 0 0) 1 0) 2 0))), (imi, .inl (y 2, 8, .inl (upd (upd (upd (fun _ => 0) 0 (vp_nar .boolean 0)) 1 (vp_nar .boolean 0)) 2 (vp_nar .boolean 0)))), (imr, .inl (y 0, 3, .inl (fun _ => 0))), (nw, .inr (6, [.ref nwt, .ref nwb, .int 0, .ref nwn, .ref nwi, .int 0, .ref nwr])), (nwn, .inl (y 0, 8, .inl (fun _ => 0))), (nwi, .inl (y 2, 8, .inl (fun _ => 0))), (nwr, .inl (y 0, 3, .inl (fun _ => 0)))] H := hP
  have hD : va_D A [(im, .inr (6, [.ref imt, .ref imb, .int 0, .ref imn, .ref imi, .int 0, .ref imr])), (imn, .inl (y 0, 8, .inl (upd (upd (upd (fun _ => 0) 0 0) 1 0) 2 0))), (imi, .inl (y 2, 8, .inl (upd (upd (upd (fun _ => 0) 0 (vp_nar .boolean 0)) 1 (vp_nar .boolean 0)) 2 (vp_nar .boolean 0)))), (imr, .inl (y 0, 3, .inl (fun _ => 0))), (nw, .inr (6, [.ref nwt, .ref nwb, .int 0, .ref nwn, .ref nwi, .int 0, .ref nwr])), (nwn, .inl (y 0, 8, .inl (fun _ => 0))), (nwi, .inl (y 2, 8, .inl (fun _ => 0))), (nwr, .inl (y 0, 3, .inl (fun _ => 0)))] := hD
  refine lv_iinc (v := 3) (lv' := [(2, .int 3), (0, .ref im), (1, .ref nw)]) hx hb dX6_takeAll_92 hl (k := 0) rfl (by decide) (by decide) rfl (fun ls hl => ?_)
  refine lv_goto (tgt := 62) hx hb dX6_takeAll_95 (by decide) ?_
  refine lv_iload_n hx hb dX6_takeAll_62 rfl (lv_at hl 0 rfl) ?_
  refine lv_bipush (v := 8) hx hb dX6_takeAll_63 (by decide) ?_
  refine lv_icmp_ge (tgt := 98) hx hb dX6_takeAll_65 (by decide) (fun c_8 => absurd c_8 (by decide)) (fun _ => ?_)
  refine lv_aload_n hx hb dX6_takeAll_68 rfl (lv_at hl 1 rfl) ?_
  refine va_get (D := G) (ci := 6) (v := .ref imn) (C := RX6) (T := TX6) (N := 7) hx hb hts inX6 hown hK.1 hP 0 rfl rfl 3 (by decide) (hts (.fieldLink RX6 24 "NestQuery$State" "notedThings" "[I") (by decide +kernel)) (fun _ h9 => h9) rfl dX6_takeAll_69 ?_
  refine lv_iload_n hx hb dX6_takeAll_72 rfl (lv_at hl 0 rfl) ?_
  refine lv_aload_n hx hb dX6_takeAll_73 rfl (lv_at hl 2 rfl) ?_
  refine va_get (D := G) (ci := 6) (v := .ref nwn) (C := RX6) (T := TX6) (N := 7) hx hb hts inX6 hown hK.1 hP 4 rfl rfl 3 (by decide) (hts (.fieldLink RX6 24 "NestQuery$State" "notedThings" "[I") (by decide +kernel)) (fun _ h9 => h9) rfl dX6_takeAll_74 ?_
  refine lv_iload_n hx hb dX6_takeAll_77 rfl (lv_at hl 0 rfl) ?_
  refine va_iald hx hb hK.1 hP 5 0 rfl rfl (i := 3) (nq_in (by decide)) dX6_takeAll_78 ?_
  refine nq_top (z := 0) (rfl) ?_
  refine va_iast hx hb hK.1 hP hD hS 1 0 rfl rfl (i := 3) (nq_in (by decide)) dX6_takeAll_79 (fun H locs hP hD hS => ?_)
  have hP : va_P G vwCl [(im, .inr (6, [.ref imt, .ref imb, .int 0, .ref imn, .ref imi, .int 0, .ref imr])), (imn, .inl (y 0, 8, .inl (upd (upd (upd (upd (fun _ => 0) 0 0) 1 0) 2 0) 3 0))), (imi, .inl (y 2, 8, .inl (upd (upd (upd (fun _ => 0) 0 (vp_nar .boolean 0)) 1 (vp_nar .boolean 0)) 2 (vp_nar .boolean 0)))), (imr, .inl (y 0, 3, .inl (fun _ => 0))), (nw, .inr (6, [.ref nwt, .ref nwb, .int 0, .ref nwn, .ref nwi, .int 0, .ref nwr])), (nwn, .inl (y 0, 8, .inl (fun _ => 0))), (nwi, .inl (y 2, 8, .inl (fun _ => 0))), (nwr, .inl (y 0, 3, .inl (fun _ => 0)))] H := hP
  have hD : va_D A [(im, .inr (6, [.ref imt, .ref imb, .int 0, .ref imn, .ref imi, .int 0, .ref imr])), (imn, .inl (y 0, 8, .inl (upd (upd (upd (upd (fun _ => 0) 0 0) 1 0) 2 0) 3 0))), (imi, .inl (y 2, 8, .inl (upd (upd (upd (fun _ => 0) 0 (vp_nar .boolean 0)) 1 (vp_nar .boolean 0)) 2 (vp_nar .boolean 0)))), (imr, .inl (y 0, 3, .inl (fun _ => 0))), (nw, .inr (6, [.ref nwt, .ref nwb, .int 0, .ref nwn, .ref nwi, .int 0, .ref nwr])), (nwn, .inl (y 0, 8, .inl (fun _ => 0))), (nwi, .inl (y 2, 8, .inl (fun _ => 0))), (nwr, .inl (y 0, 3, .inl (fun _ => 0)))] := hD
  refine lv_aload_n hx hb dX6_takeAll_80 rfl (lv_at hl 1 rfl) ?_
  refine va_get (D := G) (ci := 6) (v := .ref imi) (C := RX6) (T := TX6) (N := 7) hx hb hts inX6 hown hK.1 hP 0 rfl rfl 4 (by decide) (hts (.fieldLink RX6 28 "NestQuery$State" "notedIs" "[Z") (by decide +kernel)) (fun _ h9 => h9) rfl dX6_takeAll_81 ?_
  refine lv_iload_n hx hb dX6_takeAll_84 rfl (lv_at hl 0 rfl) ?_
  refine lv_aload_n hx hb dX6_takeAll_85 rfl (lv_at hl 2 rfl) ?_
  refine va_get (D := G) (ci := 6) (v := .ref nwi) (C := RX6) (T := TX6) (N := 7) hx hb hts inX6 hown hK.1 hP 4 rfl rfl 4 (by decide) (hts (.fieldLink RX6 28 "NestQuery$State" "notedIs" "[Z") (by decide +kernel)) (fun _ h9 => h9) rfl dX6_takeAll_86 ?_
  refine lv_iload_n hx hb dX6_takeAll_89 rfl (lv_at hl 0 rfl) ?_
  refine va_zald hx hb hK.1 hP 6 2 rfl rfl (i := 3) (nq_in (by decide)) dX6_takeAll_90 ?_
  refine nq_top (z := 0) (rfl) ?_
  refine va_zast hx hb hK.1 hP hD hS 2 2 rfl rfl (i := 3) (nq_in (by decide)) dX6_takeAll_91 (fun H locs hP hD hS => ?_)
  have hP : va_P G vwCl [(im, .inr (6, [.ref imt, .ref imb, .int 0, .ref imn, .ref imi, .int 0, .ref imr])), (imn, .inl (y 0, 8, .inl (upd (upd (upd (upd (fun _ => 0) 0 0) 1 0) 2 0) 3 0))), (imi, .inl (y 2, 8, .inl (upd (upd (upd (upd (fun _ => 0) 0 (vp_nar .boolean 0)) 1 (vp_nar .boolean 0)) 2 (vp_nar .boolean 0)) 3 (vp_nar .boolean 0)))), (imr, .inl (y 0, 3, .inl (fun _ => 0))), (nw, .inr (6, [.ref nwt, .ref nwb, .int 0, .ref nwn, .ref nwi, .int 0, .ref nwr])), (nwn, .inl (y 0, 8, .inl (fun _ => 0))), (nwi, .inl (y 2, 8, .inl (fun _ => 0))), (nwr, .inl (y 0, 3, .inl (fun _ => 0)))] H := hP
  have hD : va_D A [(im, .inr (6, [.ref imt, .ref imb, .int 0, .ref imn, .ref imi, .int 0, .ref imr])), (imn, .inl (y 0, 8, .inl (upd (upd (upd (upd (fun _ => 0) 0 0) 1 0) 2 0) 3 0))), (imi, .inl (y 2, 8, .inl (upd (upd (upd (upd (fun _ => 0) 0 (vp_nar .boolean 0)) 1 (vp_nar .boolean 0)) 2 (vp_nar .boolean 0)) 3 (vp_nar .boolean 0)))), (imr, .inl (y 0, 3, .inl (fun _ => 0))), (nw, .inr (6, [.ref nwt, .ref nwb, .int 0, .ref nwn, .ref nwi, .int 0, .ref nwr])), (nwn, .inl (y 0, 8, .inl (fun _ => 0))), (nwi, .inl (y 2, 8, .inl (fun _ => 0))), (nwr, .inl (y 0, 3, .inl (fun _ => 0)))] := hD
  refine lv_iinc (v := 4) (lv' := [(2, .int 4), (0, .ref im), (1, .ref nw)]) hx hb dX6_takeAll_92 hl (k := 0) rfl (by decide) (by decide) rfl (fun ls hl => ?_)
  refine lv_goto (tgt := 62) hx hb dX6_takeAll_95 (by decide) ?_
  refine lv_iload_n hx hb dX6_takeAll_62 rfl (lv_at hl 0 rfl) ?_
  refine lv_bipush (v := 8) hx hb dX6_takeAll_63 (by decide) ?_
  refine lv_icmp_ge (tgt := 98) hx hb dX6_takeAll_65 (by decide) (fun c_9 => absurd c_9 (by decide)) (fun _ => ?_)
  refine lv_aload_n hx hb dX6_takeAll_68 rfl (lv_at hl 1 rfl) ?_
  refine va_get (D := G) (ci := 6) (v := .ref imn) (C := RX6) (T := TX6) (N := 7) hx hb hts inX6 hown hK.1 hP 0 rfl rfl 3 (by decide) (hts (.fieldLink RX6 24 "NestQuery$State" "notedThings" "[I") (by decide +kernel)) (fun _ h9 => h9) rfl dX6_takeAll_69 ?_
  refine lv_iload_n hx hb dX6_takeAll_72 rfl (lv_at hl 0 rfl) ?_
  refine lv_aload_n hx hb dX6_takeAll_73 rfl (lv_at hl 2 rfl) ?_
  refine va_get (D := G) (ci := 6) (v := .ref nwn) (C := RX6) (T := TX6) (N := 7) hx hb hts inX6 hown hK.1 hP 4 rfl rfl 3 (by decide) (hts (.fieldLink RX6 24 "NestQuery$State" "notedThings" "[I") (by decide +kernel)) (fun _ h9 => h9) rfl dX6_takeAll_74 ?_
  refine lv_iload_n hx hb dX6_takeAll_77 rfl (lv_at hl 0 rfl) ?_
  refine va_iald hx hb hK.1 hP 5 0 rfl rfl (i := 4) (nq_in (by decide)) dX6_takeAll_78 ?_
  refine nq_top (z := 0) (rfl) ?_
  refine va_iast hx hb hK.1 hP hD hS 1 0 rfl rfl (i := 4) (nq_in (by decide)) dX6_takeAll_79 (fun H locs hP hD hS => ?_)
  have hP : va_P G vwCl [(im, .inr (6, [.ref imt, .ref imb, .int 0, .ref imn, .ref imi, .int 0, .ref imr])), (imn, .inl (y 0, 8, .inl (upd (upd (upd (upd (upd (fun _ => 0) 0 0) 1 0) 2 0) 3 0) 4 0))), (imi, .inl (y 2, 8, .inl (upd (upd (upd (upd (fun _ => 0) 0 (vp_nar .boolean 0)) 1 (vp_nar .boolean 0)) 2 (vp_nar .boolean 0)) 3 (vp_nar .boolean 0)))), (imr, .inl (y 0, 3, .inl (fun _ => 0))), (nw, .inr (6, [.ref nwt, .ref nwb, .int 0, .ref nwn, .ref nwi, .int 0, .ref nwr])), (nwn, .inl (y 0, 8, .inl (fun _ => 0))), (nwi, .inl (y 2, 8, .inl (fun _ => 0))), (nwr, .inl (y 0, 3, .inl (fun _ => 0)))] H := hP
  have hD : va_D A [(im, .inr (6, [.ref imt, .ref imb, .int 0, .ref imn, .ref imi, .int 0, .ref imr])), (imn, .inl (y 0, 8, .inl (upd (upd (upd (upd (upd (fun _ => 0) 0 0) 1 0) 2 0) 3 0) 4 0))), (imi, .inl (y 2, 8, .inl (upd (upd (upd (upd (fun _ => 0) 0 (vp_nar .boolean 0)) 1 (vp_nar .boolean 0)) 2 (vp_nar .boolean 0)) 3 (vp_nar .boolean 0)))), (imr, .inl (y 0, 3, .inl (fun _ => 0))), (nw, .inr (6, [.ref nwt, .ref nwb, .int 0, .ref nwn, .ref nwi, .int 0, .ref nwr])), (nwn, .inl (y 0, 8, .inl (fun _ => 0))), (nwi, .inl (y 2, 8, .inl (fun _ => 0))), (nwr, .inl (y 0, 3, .inl (fun _ => 0)))] := hD
  refine lv_aload_n hx hb dX6_takeAll_80 rfl (lv_at hl 1 rfl) ?_
  refine va_get (D := G) (ci := 6) (v := .ref imi) (C := RX6) (T := TX6) (N := 7) hx hb hts inX6 hown hK.1 hP 0 rfl rfl 4 (by decide) (hts (.fieldLink RX6 28 "NestQuery$State" "notedIs" "[Z") (by decide +kernel)) (fun _ h9 => h9) rfl dX6_takeAll_81 ?_
  refine lv_iload_n hx hb dX6_takeAll_84 rfl (lv_at hl 0 rfl) ?_
  refine lv_aload_n hx hb dX6_takeAll_85 rfl (lv_at hl 2 rfl) ?_
  refine va_get (D := G) (ci := 6) (v := .ref nwi) (C := RX6) (T := TX6) (N := 7) hx hb hts inX6 hown hK.1 hP 4 rfl rfl 4 (by decide) (hts (.fieldLink RX6 28 "NestQuery$State" "notedIs" "[Z") (by decide +kernel)) (fun _ h9 => h9) rfl dX6_takeAll_86 ?_
  refine lv_iload_n hx hb dX6_takeAll_89 rfl (lv_at hl 0 rfl) ?_
  refine va_zald hx hb hK.1 hP 6 2 rfl rfl (i := 4) (nq_in (by decide)) dX6_takeAll_90 ?_
  refine nq_top (z := 0) (rfl) ?_
  refine va_zast hx hb hK.1 hP hD hS 2 2 rfl rfl (i := 4) (nq_in (by decide)) dX6_takeAll_91 (fun H locs hP hD hS => ?_)
  have hP : va_P G vwCl [(im, .inr (6, [.ref imt, .ref imb, .int 0, .ref imn, .ref imi, .int 0, .ref imr])), (imn, .inl (y 0, 8, .inl (upd (upd (upd (upd (upd (fun _ => 0) 0 0) 1 0) 2 0) 3 0) 4 0))), (imi, .inl (y 2, 8, .inl (upd (upd (upd (upd (upd (fun _ => 0) 0 (vp_nar .boolean 0)) 1 (vp_nar .boolean 0)) 2 (vp_nar .boolean 0)) 3 (vp_nar .boolean 0)) 4 (vp_nar .boolean 0)))), (imr, .inl (y 0, 3, .inl (fun _ => 0))), (nw, .inr (6, [.ref nwt, .ref nwb, .int 0, .ref nwn, .ref nwi, .int 0, .ref nwr])), (nwn, .inl (y 0, 8, .inl (fun _ => 0))), (nwi, .inl (y 2, 8, .inl (fun _ => 0))), (nwr, .inl (y 0, 3, .inl (fun _ => 0)))] H := hP
  have hD : va_D A [(im, .inr (6, [.ref imt, .ref imb, .int 0, .ref imn, .ref imi, .int 0, .ref imr])), (imn, .inl (y 0, 8, .inl (upd (upd (upd (upd (upd (fun _ => 0) 0 0) 1 0) 2 0) 3 0) 4 0))), (imi, .inl (y 2, 8, .inl (upd (upd (upd (upd (upd (fun _ => 0) 0 (vp_nar .boolean 0)) 1 (vp_nar .boolean 0)) 2 (vp_nar .boolean 0)) 3 (vp_nar .boolean 0)) 4 (vp_nar .boolean 0)))), (imr, .inl (y 0, 3, .inl (fun _ => 0))), (nw, .inr (6, [.ref nwt, .ref nwb, .int 0, .ref nwn, .ref nwi, .int 0, .ref nwr])), (nwn, .inl (y 0, 8, .inl (fun _ => 0))), (nwi, .inl (y 2, 8, .inl (fun _ => 0))), (nwr, .inl (y 0, 3, .inl (fun _ => 0)))] := hD
  refine lv_iinc (v := 5) (lv' := [(2, .int 5), (0, .ref im), (1, .ref nw)]) hx hb dX6_takeAll_92 hl (k := 0) rfl (by decide) (by decide) rfl (fun ls hl => ?_)
  refine lv_goto (tgt := 62) hx hb dX6_takeAll_95 (by decide) ?_
  refine lv_iload_n hx hb dX6_takeAll_62 rfl (lv_at hl 0 rfl) ?_
  refine lv_bipush (v := 8) hx hb dX6_takeAll_63 (by decide) ?_
  refine lv_icmp_ge (tgt := 98) hx hb dX6_takeAll_65 (by decide) (fun c_10 => absurd c_10 (by decide)) (fun _ => ?_)
  refine lv_aload_n hx hb dX6_takeAll_68 rfl (lv_at hl 1 rfl) ?_
  refine va_get (D := G) (ci := 6) (v := .ref imn) (C := RX6) (T := TX6) (N := 7) hx hb hts inX6 hown hK.1 hP 0 rfl rfl 3 (by decide) (hts (.fieldLink RX6 24 "NestQuery$State" "notedThings" "[I") (by decide +kernel)) (fun _ h9 => h9) rfl dX6_takeAll_69 ?_
  refine lv_iload_n hx hb dX6_takeAll_72 rfl (lv_at hl 0 rfl) ?_
  refine lv_aload_n hx hb dX6_takeAll_73 rfl (lv_at hl 2 rfl) ?_
  refine va_get (D := G) (ci := 6) (v := .ref nwn) (C := RX6) (T := TX6) (N := 7) hx hb hts inX6 hown hK.1 hP 4 rfl rfl 3 (by decide) (hts (.fieldLink RX6 24 "NestQuery$State" "notedThings" "[I") (by decide +kernel)) (fun _ h9 => h9) rfl dX6_takeAll_74 ?_
  refine lv_iload_n hx hb dX6_takeAll_77 rfl (lv_at hl 0 rfl) ?_
  refine va_iald hx hb hK.1 hP 5 0 rfl rfl (i := 5) (nq_in (by decide)) dX6_takeAll_78 ?_
  refine nq_top (z := 0) (rfl) ?_
  refine va_iast hx hb hK.1 hP hD hS 1 0 rfl rfl (i := 5) (nq_in (by decide)) dX6_takeAll_79 (fun H locs hP hD hS => ?_)
  have hP : va_P G vwCl [(im, .inr (6, [.ref imt, .ref imb, .int 0, .ref imn, .ref imi, .int 0, .ref imr])), (imn, .inl (y 0, 8, .inl (upd (upd (upd (upd (upd (upd (fun _ => 0) 0 0) 1 0) 2 0) 3 0) 4 0) 5 0))), (imi, .inl (y 2, 8, .inl (upd (upd (upd (upd (upd (fun _ => 0) 0 (vp_nar .boolean 0)) 1 (vp_nar .boolean 0)) 2 (vp_nar .boolean 0)) 3 (vp_nar .boolean 0)) 4 (vp_nar .boolean 0)))), (imr, .inl (y 0, 3, .inl (fun _ => 0))), (nw, .inr (6, [.ref nwt, .ref nwb, .int 0, .ref nwn, .ref nwi, .int 0, .ref nwr])), (nwn, .inl (y 0, 8, .inl (fun _ => 0))), (nwi, .inl (y 2, 8, .inl (fun _ => 0))), (nwr, .inl (y 0, 3, .inl (fun _ => 0)))] H := hP
  have hD : va_D A [(im, .inr (6, [.ref imt, .ref imb, .int 0, .ref imn, .ref imi, .int 0, .ref imr])), (imn, .inl (y 0, 8, .inl (upd (upd (upd (upd (upd (upd (fun _ => 0) 0 0) 1 0) 2 0) 3 0) 4 0) 5 0))), (imi, .inl (y 2, 8, .inl (upd (upd (upd (upd (upd (fun _ => 0) 0 (vp_nar .boolean 0)) 1 (vp_nar .boolean 0)) 2 (vp_nar .boolean 0)) 3 (vp_nar .boolean 0)) 4 (vp_nar .boolean 0)))), (imr, .inl (y 0, 3, .inl (fun _ => 0))), (nw, .inr (6, [.ref nwt, .ref nwb, .int 0, .ref nwn, .ref nwi, .int 0, .ref nwr])), (nwn, .inl (y 0, 8, .inl (fun _ => 0))), (nwi, .inl (y 2, 8, .inl (fun _ => 0))), (nwr, .inl (y 0, 3, .inl (fun _ => 0)))] := hD
  refine lv_aload_n hx hb dX6_takeAll_80 rfl (lv_at hl 1 rfl) ?_
  refine va_get (D := G) (ci := 6) (v := .ref imi) (C := RX6) (T := TX6) (N := 7) hx hb hts inX6 hown hK.1 hP 0 rfl rfl 4 (by decide) (hts (.fieldLink RX6 28 "NestQuery$State" "notedIs" "[Z") (by decide +kernel)) (fun _ h9 => h9) rfl dX6_takeAll_81 ?_
  refine lv_iload_n hx hb dX6_takeAll_84 rfl (lv_at hl 0 rfl) ?_
  refine lv_aload_n hx hb dX6_takeAll_85 rfl (lv_at hl 2 rfl) ?_
  refine va_get (D := G) (ci := 6) (v := .ref nwi) (C := RX6) (T := TX6) (N := 7) hx hb hts inX6 hown hK.1 hP 4 rfl rfl 4 (by decide) (hts (.fieldLink RX6 28 "NestQuery$State" "notedIs" "[Z") (by decide +kernel)) (fun _ h9 => h9) rfl dX6_takeAll_86 ?_
  refine lv_iload_n hx hb dX6_takeAll_89 rfl (lv_at hl 0 rfl) ?_
  refine va_zald hx hb hK.1 hP 6 2 rfl rfl (i := 5) (nq_in (by decide)) dX6_takeAll_90 ?_
  refine nq_top (z := 0) (rfl) ?_
  refine va_zast hx hb hK.1 hP hD hS 2 2 rfl rfl (i := 5) (nq_in (by decide)) dX6_takeAll_91 (fun H locs hP hD hS => ?_)
  have hP : va_P G vwCl [(im, .inr (6, [.ref imt, .ref imb, .int 0, .ref imn, .ref imi, .int 0, .ref imr])), (imn, .inl (y 0, 8, .inl (upd (upd (upd (upd (upd (upd (fun _ => 0) 0 0) 1 0) 2 0) 3 0) 4 0) 5 0))), (imi, .inl (y 2, 8, .inl (upd (upd (upd (upd (upd (upd (fun _ => 0) 0 (vp_nar .boolean 0)) 1 (vp_nar .boolean 0)) 2 (vp_nar .boolean 0)) 3 (vp_nar .boolean 0)) 4 (vp_nar .boolean 0)) 5 (vp_nar .boolean 0)))), (imr, .inl (y 0, 3, .inl (fun _ => 0))), (nw, .inr (6, [.ref nwt, .ref nwb, .int 0, .ref nwn, .ref nwi, .int 0, .ref nwr])), (nwn, .inl (y 0, 8, .inl (fun _ => 0))), (nwi, .inl (y 2, 8, .inl (fun _ => 0))), (nwr, .inl (y 0, 3, .inl (fun _ => 0)))] H := hP
  have hD : va_D A [(im, .inr (6, [.ref imt, .ref imb, .int 0, .ref imn, .ref imi, .int 0, .ref imr])), (imn, .inl (y 0, 8, .inl (upd (upd (upd (upd (upd (upd (fun _ => 0) 0 0) 1 0) 2 0) 3 0) 4 0) 5 0))), (imi, .inl (y 2, 8, .inl (upd (upd (upd (upd (upd (upd (fun _ => 0) 0 (vp_nar .boolean 0)) 1 (vp_nar .boolean 0)) 2 (vp_nar .boolean 0)) 3 (vp_nar .boolean 0)) 4 (vp_nar .boolean 0)) 5 (vp_nar .boolean 0)))), (imr, .inl (y 0, 3, .inl (fun _ => 0))), (nw, .inr (6, [.ref nwt, .ref nwb, .int 0, .ref nwn, .ref nwi, .int 0, .ref nwr])), (nwn, .inl (y 0, 8, .inl (fun _ => 0))), (nwi, .inl (y 2, 8, .inl (fun _ => 0))), (nwr, .inl (y 0, 3, .inl (fun _ => 0)))] := hD
  refine lv_iinc (v := 6) (lv' := [(2, .int 6), (0, .ref im), (1, .ref nw)]) hx hb dX6_takeAll_92 hl (k := 0) rfl (by decide) (by decide) rfl (fun ls hl => ?_)
  refine lv_goto (tgt := 62) hx hb dX6_takeAll_95 (by decide) ?_
  refine lv_iload_n hx hb dX6_takeAll_62 rfl (lv_at hl 0 rfl) ?_
  refine lv_bipush (v := 8) hx hb dX6_takeAll_63 (by decide) ?_
  refine lv_icmp_ge (tgt := 98) hx hb dX6_takeAll_65 (by decide) (fun c_11 => absurd c_11 (by decide)) (fun _ => ?_)
  refine lv_aload_n hx hb dX6_takeAll_68 rfl (lv_at hl 1 rfl) ?_
  refine va_get (D := G) (ci := 6) (v := .ref imn) (C := RX6) (T := TX6) (N := 7) hx hb hts inX6 hown hK.1 hP 0 rfl rfl 3 (by decide) (hts (.fieldLink RX6 24 "NestQuery$State" "notedThings" "[I") (by decide +kernel)) (fun _ h9 => h9) rfl dX6_takeAll_69 ?_
  refine lv_iload_n hx hb dX6_takeAll_72 rfl (lv_at hl 0 rfl) ?_
  refine lv_aload_n hx hb dX6_takeAll_73 rfl (lv_at hl 2 rfl) ?_
  refine va_get (D := G) (ci := 6) (v := .ref nwn) (C := RX6) (T := TX6) (N := 7) hx hb hts inX6 hown hK.1 hP 4 rfl rfl 3 (by decide) (hts (.fieldLink RX6 24 "NestQuery$State" "notedThings" "[I") (by decide +kernel)) (fun _ h9 => h9) rfl dX6_takeAll_74 ?_
  refine lv_iload_n hx hb dX6_takeAll_77 rfl (lv_at hl 0 rfl) ?_
  refine va_iald hx hb hK.1 hP 5 0 rfl rfl (i := 6) (nq_in (by decide)) dX6_takeAll_78 ?_
  refine nq_top (z := 0) (rfl) ?_
  refine va_iast hx hb hK.1 hP hD hS 1 0 rfl rfl (i := 6) (nq_in (by decide)) dX6_takeAll_79 (fun H locs hP hD hS => ?_)
  have hP : va_P G vwCl [(im, .inr (6, [.ref imt, .ref imb, .int 0, .ref imn, .ref imi, .int 0, .ref imr])), (imn, .inl (y 0, 8, .inl (upd (upd (upd (upd (upd (upd (upd (fun _ => 0) 0 0) 1 0) 2 0) 3 0) 4 0) 5 0) 6 0))), (imi, .inl (y 2, 8, .inl (upd (upd (upd (upd (upd (upd (fun _ => 0) 0 (vp_nar .boolean 0)) 1 (vp_nar .boolean 0)) 2 (vp_nar .boolean 0)) 3 (vp_nar .boolean 0)) 4 (vp_nar .boolean 0)) 5 (vp_nar .boolean 0)))), (imr, .inl (y 0, 3, .inl (fun _ => 0))), (nw, .inr (6, [.ref nwt, .ref nwb, .int 0, .ref nwn, .ref nwi, .int 0, .ref nwr])), (nwn, .inl (y 0, 8, .inl (fun _ => 0))), (nwi, .inl (y 2, 8, .inl (fun _ => 0))), (nwr, .inl (y 0, 3, .inl (fun _ => 0)))] H := hP
  have hD : va_D A [(im, .inr (6, [.ref imt, .ref imb, .int 0, .ref imn, .ref imi, .int 0, .ref imr])), (imn, .inl (y 0, 8, .inl (upd (upd (upd (upd (upd (upd (upd (fun _ => 0) 0 0) 1 0) 2 0) 3 0) 4 0) 5 0) 6 0))), (imi, .inl (y 2, 8, .inl (upd (upd (upd (upd (upd (upd (fun _ => 0) 0 (vp_nar .boolean 0)) 1 (vp_nar .boolean 0)) 2 (vp_nar .boolean 0)) 3 (vp_nar .boolean 0)) 4 (vp_nar .boolean 0)) 5 (vp_nar .boolean 0)))), (imr, .inl (y 0, 3, .inl (fun _ => 0))), (nw, .inr (6, [.ref nwt, .ref nwb, .int 0, .ref nwn, .ref nwi, .int 0, .ref nwr])), (nwn, .inl (y 0, 8, .inl (fun _ => 0))), (nwi, .inl (y 2, 8, .inl (fun _ => 0))), (nwr, .inl (y 0, 3, .inl (fun _ => 0)))] := hD
  refine lv_aload_n hx hb dX6_takeAll_80 rfl (lv_at hl 1 rfl) ?_
  refine va_get (D := G) (ci := 6) (v := .ref imi) (C := RX6) (T := TX6) (N := 7) hx hb hts inX6 hown hK.1 hP 0 rfl rfl 4 (by decide) (hts (.fieldLink RX6 28 "NestQuery$State" "notedIs" "[Z") (by decide +kernel)) (fun _ h9 => h9) rfl dX6_takeAll_81 ?_
  refine lv_iload_n hx hb dX6_takeAll_84 rfl (lv_at hl 0 rfl) ?_
  refine lv_aload_n hx hb dX6_takeAll_85 rfl (lv_at hl 2 rfl) ?_
  refine va_get (D := G) (ci := 6) (v := .ref nwi) (C := RX6) (T := TX6) (N := 7) hx hb hts inX6 hown hK.1 hP 4 rfl rfl 4 (by decide) (hts (.fieldLink RX6 28 "NestQuery$State" "notedIs" "[Z") (by decide +kernel)) (fun _ h9 => h9) rfl dX6_takeAll_86 ?_
  refine lv_iload_n hx hb dX6_takeAll_89 rfl (lv_at hl 0 rfl) ?_
  refine va_zald hx hb hK.1 hP 6 2 rfl rfl (i := 6) (nq_in (by decide)) dX6_takeAll_90 ?_
  refine nq_top (z := 0) (rfl) ?_
  refine va_zast hx hb hK.1 hP hD hS 2 2 rfl rfl (i := 6) (nq_in (by decide)) dX6_takeAll_91 (fun H locs hP hD hS => ?_)
  have hP : va_P G vwCl [(im, .inr (6, [.ref imt, .ref imb, .int 0, .ref imn, .ref imi, .int 0, .ref imr])), (imn, .inl (y 0, 8, .inl (upd (upd (upd (upd (upd (upd (upd (fun _ => 0) 0 0) 1 0) 2 0) 3 0) 4 0) 5 0) 6 0))), (imi, .inl (y 2, 8, .inl (upd (upd (upd (upd (upd (upd (upd (fun _ => 0) 0 (vp_nar .boolean 0)) 1 (vp_nar .boolean 0)) 2 (vp_nar .boolean 0)) 3 (vp_nar .boolean 0)) 4 (vp_nar .boolean 0)) 5 (vp_nar .boolean 0)) 6 (vp_nar .boolean 0)))), (imr, .inl (y 0, 3, .inl (fun _ => 0))), (nw, .inr (6, [.ref nwt, .ref nwb, .int 0, .ref nwn, .ref nwi, .int 0, .ref nwr])), (nwn, .inl (y 0, 8, .inl (fun _ => 0))), (nwi, .inl (y 2, 8, .inl (fun _ => 0))), (nwr, .inl (y 0, 3, .inl (fun _ => 0)))] H := hP
  have hD : va_D A [(im, .inr (6, [.ref imt, .ref imb, .int 0, .ref imn, .ref imi, .int 0, .ref imr])), (imn, .inl (y 0, 8, .inl (upd (upd (upd (upd (upd (upd (upd (fun _ => 0) 0 0) 1 0) 2 0) 3 0) 4 0) 5 0) 6 0))), (imi, .inl (y 2, 8, .inl (upd (upd (upd (upd (upd (upd (upd (fun _ => 0) 0 (vp_nar .boolean 0)) 1 (vp_nar .boolean 0)) 2 (vp_nar .boolean 0)) 3 (vp_nar .boolean 0)) 4 (vp_nar .boolean 0)) 5 (vp_nar .boolean 0)) 6 (vp_nar .boolean 0)))), (imr, .inl (y 0, 3, .inl (fun _ => 0))), (nw, .inr (6, [.ref nwt, .ref nwb, .int 0, .ref nwn, .ref nwi, .int 0, .ref nwr])), (nwn, .inl (y 0, 8, .inl (fun _ => 0))), (nwi, .inl (y 2, 8, .inl (fun _ => 0))), (nwr, .inl (y 0, 3, .inl (fun _ => 0)))] := hD
  refine lv_iinc (v := 7) (lv' := [(2, .int 7), (0, .ref im), (1, .ref nw)]) hx hb dX6_takeAll_92 hl (k := 0) rfl (by decide) (by decide) rfl (fun ls hl => ?_)
  refine lv_goto (tgt := 62) hx hb dX6_takeAll_95 (by decide) ?_
  refine lv_iload_n hx hb dX6_takeAll_62 rfl (lv_at hl 0 rfl) ?_
  refine lv_bipush (v := 8) hx hb dX6_takeAll_63 (by decide) ?_
  refine lv_icmp_ge (tgt := 98) hx hb dX6_takeAll_65 (by decide) (fun c_12 => absurd c_12 (by decide)) (fun _ => ?_)
  refine lv_aload_n hx hb dX6_takeAll_68 rfl (lv_at hl 1 rfl) ?_
  refine va_get (D := G) (ci := 6) (v := .ref imn) (C := RX6) (T := TX6) (N := 7) hx hb hts inX6 hown hK.1 hP 0 rfl rfl 3 (by decide) (hts (.fieldLink RX6 24 "NestQuery$State" "notedThings" "[I") (by decide +kernel)) (fun _ h9 => h9) rfl dX6_takeAll_69 ?_
  refine lv_iload_n hx hb dX6_takeAll_72 rfl (lv_at hl 0 rfl) ?_
  refine lv_aload_n hx hb dX6_takeAll_73 rfl (lv_at hl 2 rfl) ?_
  refine va_get (D := G) (ci := 6) (v := .ref nwn) (C := RX6) (T := TX6) (N := 7) hx hb hts inX6 hown hK.1 hP 4 rfl rfl 3 (by decide) (hts (.fieldLink RX6 24 "NestQuery$State" "notedThings" "[I") (by decide +kernel)) (fun _ h9 => h9) rfl dX6_takeAll_74 ?_
  refine lv_iload_n hx hb dX6_takeAll_77 rfl (lv_at hl 0 rfl) ?_
  refine va_iald hx hb hK.1 hP 5 0 rfl rfl (i := 7) (nq_in (by decide)) dX6_takeAll_78 ?_
  refine nq_top (z := 0) (rfl) ?_
  refine va_iast hx hb hK.1 hP hD hS 1 0 rfl rfl (i := 7) (nq_in (by decide)) dX6_takeAll_79 (fun H locs hP hD hS => ?_)
  have hP : va_P G vwCl [(im, .inr (6, [.ref imt, .ref imb, .int 0, .ref imn, .ref imi, .int 0, .ref imr])), (imn, .inl (y 0, 8, .inl (upd (upd (upd (upd (upd (upd (upd (upd (fun _ => 0) 0 0) 1 0) 2 0) 3 0) 4 0) 5 0) 6 0) 7 0))), (imi, .inl (y 2, 8, .inl (upd (upd (upd (upd (upd (upd (upd (fun _ => 0) 0 (vp_nar .boolean 0)) 1 (vp_nar .boolean 0)) 2 (vp_nar .boolean 0)) 3 (vp_nar .boolean 0)) 4 (vp_nar .boolean 0)) 5 (vp_nar .boolean 0)) 6 (vp_nar .boolean 0)))), (imr, .inl (y 0, 3, .inl (fun _ => 0))), (nw, .inr (6, [.ref nwt, .ref nwb, .int 0, .ref nwn, .ref nwi, .int 0, .ref nwr])), (nwn, .inl (y 0, 8, .inl (fun _ => 0))), (nwi, .inl (y 2, 8, .inl (fun _ => 0))), (nwr, .inl (y 0, 3, .inl (fun _ => 0)))] H := hP
  have hD : va_D A [(im, .inr (6, [.ref imt, .ref imb, .int 0, .ref imn, .ref imi, .int 0, .ref imr])), (imn, .inl (y 0, 8, .inl (upd (upd (upd (upd (upd (upd (upd (upd (fun _ => 0) 0 0) 1 0) 2 0) 3 0) 4 0) 5 0) 6 0) 7 0))), (imi, .inl (y 2, 8, .inl (upd (upd (upd (upd (upd (upd (upd (fun _ => 0) 0 (vp_nar .boolean 0)) 1 (vp_nar .boolean 0)) 2 (vp_nar .boolean 0)) 3 (vp_nar .boolean 0)) 4 (vp_nar .boolean 0)) 5 (vp_nar .boolean 0)) 6 (vp_nar .boolean 0)))), (imr, .inl (y 0, 3, .inl (fun _ => 0))), (nw, .inr (6, [.ref nwt, .ref nwb, .int 0, .ref nwn, .ref nwi, .int 0, .ref nwr])), (nwn, .inl (y 0, 8, .inl (fun _ => 0))), (nwi, .inl (y 2, 8, .inl (fun _ => 0))), (nwr, .inl (y 0, 3, .inl (fun _ => 0)))] := hD
  refine lv_aload_n hx hb dX6_takeAll_80 rfl (lv_at hl 1 rfl) ?_
  refine va_get (D := G) (ci := 6) (v := .ref imi) (C := RX6) (T := TX6) (N := 7) hx hb hts inX6 hown hK.1 hP 0 rfl rfl 4 (by decide) (hts (.fieldLink RX6 28 "NestQuery$State" "notedIs" "[Z") (by decide +kernel)) (fun _ h9 => h9) rfl dX6_takeAll_81 ?_
  refine lv_iload_n hx hb dX6_takeAll_84 rfl (lv_at hl 0 rfl) ?_
  refine lv_aload_n hx hb dX6_takeAll_85 rfl (lv_at hl 2 rfl) ?_
  refine va_get (D := G) (ci := 6) (v := .ref nwi) (C := RX6) (T := TX6) (N := 7) hx hb hts inX6 hown hK.1 hP 4 rfl rfl 4 (by decide) (hts (.fieldLink RX6 28 "NestQuery$State" "notedIs" "[Z") (by decide +kernel)) (fun _ h9 => h9) rfl dX6_takeAll_86 ?_
  refine lv_iload_n hx hb dX6_takeAll_89 rfl (lv_at hl 0 rfl) ?_
  refine va_zald hx hb hK.1 hP 6 2 rfl rfl (i := 7) (nq_in (by decide)) dX6_takeAll_90 ?_
  refine nq_top (z := 0) (rfl) ?_
  refine va_zast hx hb hK.1 hP hD hS 2 2 rfl rfl (i := 7) (nq_in (by decide)) dX6_takeAll_91 (fun H locs hP hD hS => ?_)
  have hP : va_P G vwCl [(im, .inr (6, [.ref imt, .ref imb, .int 0, .ref imn, .ref imi, .int 0, .ref imr])), (imn, .inl (y 0, 8, .inl (upd (upd (upd (upd (upd (upd (upd (upd (fun _ => 0) 0 0) 1 0) 2 0) 3 0) 4 0) 5 0) 6 0) 7 0))), (imi, .inl (y 2, 8, .inl (upd (upd (upd (upd (upd (upd (upd (upd (fun _ => 0) 0 (vp_nar .boolean 0)) 1 (vp_nar .boolean 0)) 2 (vp_nar .boolean 0)) 3 (vp_nar .boolean 0)) 4 (vp_nar .boolean 0)) 5 (vp_nar .boolean 0)) 6 (vp_nar .boolean 0)) 7 (vp_nar .boolean 0)))), (imr, .inl (y 0, 3, .inl (fun _ => 0))), (nw, .inr (6, [.ref nwt, .ref nwb, .int 0, .ref nwn, .ref nwi, .int 0, .ref nwr])), (nwn, .inl (y 0, 8, .inl (fun _ => 0))), (nwi, .inl (y 2, 8, .inl (fun _ => 0))), (nwr, .inl (y 0, 3, .inl (fun _ => 0)))] H := hP
  have hD : va_D A [(im, .inr (6, [.ref imt, .ref imb, .int 0, .ref imn, .ref imi, .int 0, .ref imr])), (imn, .inl (y 0, 8, .inl (upd (upd (upd (upd (upd (upd (upd (upd (fun _ => 0) 0 0) 1 0) 2 0) 3 0) 4 0) 5 0) 6 0) 7 0))), (imi, .inl (y 2, 8, .inl (upd (upd (upd (upd (upd (upd (upd (upd (fun _ => 0) 0 (vp_nar .boolean 0)) 1 (vp_nar .boolean 0)) 2 (vp_nar .boolean 0)) 3 (vp_nar .boolean 0)) 4 (vp_nar .boolean 0)) 5 (vp_nar .boolean 0)) 6 (vp_nar .boolean 0)) 7 (vp_nar .boolean 0)))), (imr, .inl (y 0, 3, .inl (fun _ => 0))), (nw, .inr (6, [.ref nwt, .ref nwb, .int 0, .ref nwn, .ref nwi, .int 0, .ref nwr])), (nwn, .inl (y 0, 8, .inl (fun _ => 0))), (nwi, .inl (y 2, 8, .inl (fun _ => 0))), (nwr, .inl (y 0, 3, .inl (fun _ => 0)))] := hD
  refine lv_iinc (v := 8) (lv' := [(2, .int 8), (0, .ref im), (1, .ref nw)]) hx hb dX6_takeAll_92 hl (k := 0) rfl (by decide) (by decide) rfl (fun ls hl => ?_)
  refine lv_goto (tgt := 62) hx hb dX6_takeAll_95 (by decide) ?_
  refine lv_iload_n hx hb dX6_takeAll_62 rfl (lv_at hl 0 rfl) ?_
  refine lv_bipush (v := 8) hx hb dX6_takeAll_63 (by decide) ?_
  refine lv_icmp_ge (tgt := 98) hx hb dX6_takeAll_65 (by decide) (fun _ => ?_) (fun c_13 => absurd c_13 (by decide))
  refine lv_iconst (v := 0) hx hb dX6_takeAll_98 (by decide) ?_
  refine lv_istore_n (lv' := [(2, .int 0), (0, .ref im), (1, .ref nw)]) hx hb dX6_takeAll_99 rfl hl (by decide) rfl (fun ls hl => ?_)
  refine lv_iload_n hx hb dX6_takeAll_100 rfl (lv_at hl 0 rfl) ?_
  refine lv_aload_n hx hb dX6_takeAll_101 rfl (lv_at hl 1 rfl) ?_
  refine va_get (D := G) (ci := 6) (v := .ref imr) (C := RX6) (T := TX6) (N := 7) hx hb hts inX6 hown hK.1 hP 0 rfl rfl 6 (by decide) (hts (.fieldLink RX6 32 "NestQuery$State" "refused" "[I") (by decide +kernel)) (fun _ h9 => h9) rfl dX6_takeAll_102 ?_
  refine va_alen hx hb hK.1 hP 3 0 rfl rfl (v := 3) rfl dX6_takeAll_105 ?_
  refine lv_icmp_ge (tgt := 136) hx hb dX6_takeAll_106 (by decide) (fun c_14 => absurd c_14 (by decide)) (fun _ => ?_)
  refine lv_iload_n hx hb dX6_takeAll_109 rfl (lv_at hl 0 rfl) ?_
  refine lv_aload_n hx hb dX6_takeAll_110 rfl (lv_at hl 2 rfl) ?_
  refine va_get (D := G) (ci := 6) (v := .ref nwr) (C := RX6) (T := TX6) (N := 7) hx hb hts inX6 hown hK.1 hP 4 rfl rfl 6 (by decide) (hts (.fieldLink RX6 32 "NestQuery$State" "refused" "[I") (by decide +kernel)) (fun _ h9 => h9) rfl dX6_takeAll_111 ?_
  refine va_alen hx hb hK.1 hP 7 0 rfl rfl (v := 3) rfl dX6_takeAll_114 ?_
  refine lv_icmp_ge (tgt := 136) hx hb dX6_takeAll_115 (by decide) (fun c_15 => absurd c_15 (by decide)) (fun _ => ?_)
  refine lv_aload_n hx hb dX6_takeAll_118 rfl (lv_at hl 1 rfl) ?_
  refine va_get (D := G) (ci := 6) (v := .ref imr) (C := RX6) (T := TX6) (N := 7) hx hb hts inX6 hown hK.1 hP 0 rfl rfl 6 (by decide) (hts (.fieldLink RX6 32 "NestQuery$State" "refused" "[I") (by decide +kernel)) (fun _ h9 => h9) rfl dX6_takeAll_119 ?_
  refine lv_iload_n hx hb dX6_takeAll_122 rfl (lv_at hl 0 rfl) ?_
  refine lv_aload_n hx hb dX6_takeAll_123 rfl (lv_at hl 2 rfl) ?_
  refine va_get (D := G) (ci := 6) (v := .ref nwr) (C := RX6) (T := TX6) (N := 7) hx hb hts inX6 hown hK.1 hP 4 rfl rfl 6 (by decide) (hts (.fieldLink RX6 32 "NestQuery$State" "refused" "[I") (by decide +kernel)) (fun _ h9 => h9) rfl dX6_takeAll_124 ?_
  refine lv_iload_n hx hb dX6_takeAll_127 rfl (lv_at hl 0 rfl) ?_
  refine va_iald hx hb hK.1 hP 7 0 rfl rfl (i := 0) (nq_in (by decide)) dX6_takeAll_128 ?_
  refine nq_top (z := 0) (rfl) ?_
  refine va_iast hx hb hK.1 hP hD hS 3 0 rfl rfl (i := 0) (nq_in (by decide)) dX6_takeAll_129 (fun H locs hP hD hS => ?_)
  have hP : va_P G vwCl [(im, .inr (6, [.ref imt, .ref imb, .int 0, .ref imn, .ref imi, .int 0, .ref imr])), (imn, .inl (y 0, 8, .inl (upd (upd (upd (upd (upd (upd (upd (upd (fun _ => 0) 0 0) 1 0) 2 0) 3 0) 4 0) 5 0) 6 0) 7 0))), (imi, .inl (y 2, 8, .inl (upd (upd (upd (upd (upd (upd (upd (upd (fun _ => 0) 0 (vp_nar .boolean 0)) 1 (vp_nar .boolean 0)) 2 (vp_nar .boolean 0)) 3 (vp_nar .boolean 0)) 4 (vp_nar .boolean 0)) 5 (vp_nar .boolean 0)) 6 (vp_nar .boolean 0)) 7 (vp_nar .boolean 0)))), (imr, .inl (y 0, 3, .inl (upd (fun _ => 0) 0 0))), (nw, .inr (6, [.ref nwt, .ref nwb, .int 0, .ref nwn, .ref nwi, .int 0, .ref nwr])), (nwn, .inl (y 0, 8, .inl (fun _ => 0))), (nwi, .inl (y 2, 8, .inl (fun _ => 0))), (nwr, .inl (y 0, 3, .inl (fun _ => 0)))] H := hP
  have hD : va_D A [(im, .inr (6, [.ref imt, .ref imb, .int 0, .ref imn, .ref imi, .int 0, .ref imr])), (imn, .inl (y 0, 8, .inl (upd (upd (upd (upd (upd (upd (upd (upd (fun _ => 0) 0 0) 1 0) 2 0) 3 0) 4 0) 5 0) 6 0) 7 0))), (imi, .inl (y 2, 8, .inl (upd (upd (upd (upd (upd (upd (upd (upd (fun _ => 0) 0 (vp_nar .boolean 0)) 1 (vp_nar .boolean 0)) 2 (vp_nar .boolean 0)) 3 (vp_nar .boolean 0)) 4 (vp_nar .boolean 0)) 5 (vp_nar .boolean 0)) 6 (vp_nar .boolean 0)) 7 (vp_nar .boolean 0)))), (imr, .inl (y 0, 3, .inl (upd (fun _ => 0) 0 0))), (nw, .inr (6, [.ref nwt, .ref nwb, .int 0, .ref nwn, .ref nwi, .int 0, .ref nwr])), (nwn, .inl (y 0, 8, .inl (fun _ => 0))), (nwi, .inl (y 2, 8, .inl (fun _ => 0))), (nwr, .inl (y 0, 3, .inl (fun _ => 0)))] := hD
  refine lv_iinc (v := 1) (lv' := [(2, .int 1), (0, .ref im), (1, .ref nw)]) hx hb dX6_takeAll_130 hl (k := 0) rfl (by decide) (by decide) rfl (fun ls hl => ?_)
  refine lv_goto (tgt := 100) hx hb dX6_takeAll_133 (by decide) ?_
  refine lv_iload_n hx hb dX6_takeAll_100 rfl (lv_at hl 0 rfl) ?_
  refine lv_aload_n hx hb dX6_takeAll_101 rfl (lv_at hl 1 rfl) ?_
  refine va_get (D := G) (ci := 6) (v := .ref imr) (C := RX6) (T := TX6) (N := 7) hx hb hts inX6 hown hK.1 hP 0 rfl rfl 6 (by decide) (hts (.fieldLink RX6 32 "NestQuery$State" "refused" "[I") (by decide +kernel)) (fun _ h9 => h9) rfl dX6_takeAll_102 ?_
  refine va_alen hx hb hK.1 hP 3 0 rfl rfl (v := 3) rfl dX6_takeAll_105 ?_
  refine lv_icmp_ge (tgt := 136) hx hb dX6_takeAll_106 (by decide) (fun c_16 => absurd c_16 (by decide)) (fun _ => ?_)
  refine lv_iload_n hx hb dX6_takeAll_109 rfl (lv_at hl 0 rfl) ?_
  refine lv_aload_n hx hb dX6_takeAll_110 rfl (lv_at hl 2 rfl) ?_
  refine va_get (D := G) (ci := 6) (v := .ref nwr) (C := RX6) (T := TX6) (N := 7) hx hb hts inX6 hown hK.1 hP 4 rfl rfl 6 (by decide) (hts (.fieldLink RX6 32 "NestQuery$State" "refused" "[I") (by decide +kernel)) (fun _ h9 => h9) rfl dX6_takeAll_111 ?_
  refine va_alen hx hb hK.1 hP 7 0 rfl rfl (v := 3) rfl dX6_takeAll_114 ?_
  refine lv_icmp_ge (tgt := 136) hx hb dX6_takeAll_115 (by decide) (fun c_17 => absurd c_17 (by decide)) (fun _ => ?_)
  refine lv_aload_n hx hb dX6_takeAll_118 rfl (lv_at hl 1 rfl) ?_
  refine va_get (D := G) (ci := 6) (v := .ref imr) (C := RX6) (T := TX6) (N := 7) hx hb hts inX6 hown hK.1 hP 0 rfl rfl 6 (by decide) (hts (.fieldLink RX6 32 "NestQuery$State" "refused" "[I") (by decide +kernel)) (fun _ h9 => h9) rfl dX6_takeAll_119 ?_
  refine lv_iload_n hx hb dX6_takeAll_122 rfl (lv_at hl 0 rfl) ?_
  refine lv_aload_n hx hb dX6_takeAll_123 rfl (lv_at hl 2 rfl) ?_
  refine va_get (D := G) (ci := 6) (v := .ref nwr) (C := RX6) (T := TX6) (N := 7) hx hb hts inX6 hown hK.1 hP 4 rfl rfl 6 (by decide) (hts (.fieldLink RX6 32 "NestQuery$State" "refused" "[I") (by decide +kernel)) (fun _ h9 => h9) rfl dX6_takeAll_124 ?_
  refine lv_iload_n hx hb dX6_takeAll_127 rfl (lv_at hl 0 rfl) ?_
  refine va_iald hx hb hK.1 hP 7 0 rfl rfl (i := 1) (nq_in (by decide)) dX6_takeAll_128 ?_
  refine nq_top (z := 0) (rfl) ?_
  refine va_iast hx hb hK.1 hP hD hS 3 0 rfl rfl (i := 1) (nq_in (by decide)) dX6_takeAll_129 (fun H locs hP hD hS => ?_)
  have hP : va_P G vwCl [(im, .inr (6, [.ref imt, .ref imb, .int 0, .ref imn, .ref imi, .int 0, .ref imr])), (imn, .inl (y 0, 8, .inl (upd (upd (upd (upd (upd (upd (upd (upd (fun _ => 0) 0 0) 1 0) 2 0) 3 0) 4 0) 5 0) 6 0) 7 0))), (imi, .inl (y 2, 8, .inl (upd (upd (upd (upd (upd (upd (upd (upd (fun _ => 0) 0 (vp_nar .boolean 0)) 1 (vp_nar .boolean 0)) 2 (vp_nar .boolean 0)) 3 (vp_nar .boolean 0)) 4 (vp_nar .boolean 0)) 5 (vp_nar .boolean 0)) 6 (vp_nar .boolean 0)) 7 (vp_nar .boolean 0)))), (imr, .inl (y 0, 3, .inl (upd (upd (fun _ => 0) 0 0) 1 0))), (nw, .inr (6, [.ref nwt, .ref nwb, .int 0, .ref nwn, .ref nwi, .int 0, .ref nwr])), (nwn, .inl (y 0, 8, .inl (fun _ => 0))), (nwi, .inl (y 2, 8, .inl (fun _ => 0))), (nwr, .inl (y 0, 3, .inl (fun _ => 0)))] H := hP
  have hD : va_D A [(im, .inr (6, [.ref imt, .ref imb, .int 0, .ref imn, .ref imi, .int 0, .ref imr])), (imn, .inl (y 0, 8, .inl (upd (upd (upd (upd (upd (upd (upd (upd (fun _ => 0) 0 0) 1 0) 2 0) 3 0) 4 0) 5 0) 6 0) 7 0))), (imi, .inl (y 2, 8, .inl (upd (upd (upd (upd (upd (upd (upd (upd (fun _ => 0) 0 (vp_nar .boolean 0)) 1 (vp_nar .boolean 0)) 2 (vp_nar .boolean 0)) 3 (vp_nar .boolean 0)) 4 (vp_nar .boolean 0)) 5 (vp_nar .boolean 0)) 6 (vp_nar .boolean 0)) 7 (vp_nar .boolean 0)))), (imr, .inl (y 0, 3, .inl (upd (upd (fun _ => 0) 0 0) 1 0))), (nw, .inr (6, [.ref nwt, .ref nwb, .int 0, .ref nwn, .ref nwi, .int 0, .ref nwr])), (nwn, .inl (y 0, 8, .inl (fun _ => 0))), (nwi, .inl (y 2, 8, .inl (fun _ => 0))), (nwr, .inl (y 0, 3, .inl (fun _ => 0)))] := hD
  refine lv_iinc (v := 2) (lv' := [(2, .int 2), (0, .ref im), (1, .ref nw)]) hx hb dX6_takeAll_130 hl (k := 0) rfl (by decide) (by decide) rfl (fun ls hl => ?_)
  refine lv_goto (tgt := 100) hx hb dX6_takeAll_133 (by decide) ?_
  refine lv_iload_n hx hb dX6_takeAll_100 rfl (lv_at hl 0 rfl) ?_
  refine lv_aload_n hx hb dX6_takeAll_101 rfl (lv_at hl 1 rfl) ?_
  refine va_get (D := G) (ci := 6) (v := .ref imr) (C := RX6) (T := TX6) (N := 7) hx hb hts inX6 hown hK.1 hP 0 rfl rfl 6 (by decide) (hts (.fieldLink RX6 32 "NestQuery$State" "refused" "[I") (by decide +kernel)) (fun _ h9 => h9) rfl dX6_takeAll_102 ?_
  refine va_alen hx hb hK.1 hP 3 0 rfl rfl (v := 3) rfl dX6_takeAll_105 ?_
  refine lv_icmp_ge (tgt := 136) hx hb dX6_takeAll_106 (by decide) (fun c_18 => absurd c_18 (by decide)) (fun _ => ?_)
  refine lv_iload_n hx hb dX6_takeAll_109 rfl (lv_at hl 0 rfl) ?_
  refine lv_aload_n hx hb dX6_takeAll_110 rfl (lv_at hl 2 rfl) ?_
  refine va_get (D := G) (ci := 6) (v := .ref nwr) (C := RX6) (T := TX6) (N := 7) hx hb hts inX6 hown hK.1 hP 4 rfl rfl 6 (by decide) (hts (.fieldLink RX6 32 "NestQuery$State" "refused" "[I") (by decide +kernel)) (fun _ h9 => h9) rfl dX6_takeAll_111 ?_
  refine va_alen hx hb hK.1 hP 7 0 rfl rfl (v := 3) rfl dX6_takeAll_114 ?_
  refine lv_icmp_ge (tgt := 136) hx hb dX6_takeAll_115 (by decide) (fun c_19 => absurd c_19 (by decide)) (fun _ => ?_)
  refine lv_aload_n hx hb dX6_takeAll_118 rfl (lv_at hl 1 rfl) ?_
  refine va_get (D := G) (ci := 6) (v := .ref imr) (C := RX6) (T := TX6) (N := 7) hx hb hts inX6 hown hK.1 hP 0 rfl rfl 6 (by decide) (hts (.fieldLink RX6 32 "NestQuery$State" "refused" "[I") (by decide +kernel)) (fun _ h9 => h9) rfl dX6_takeAll_119 ?_
  refine lv_iload_n hx hb dX6_takeAll_122 rfl (lv_at hl 0 rfl) ?_
  refine lv_aload_n hx hb dX6_takeAll_123 rfl (lv_at hl 2 rfl) ?_
  refine va_get (D := G) (ci := 6) (v := .ref nwr) (C := RX6) (T := TX6) (N := 7) hx hb hts inX6 hown hK.1 hP 4 rfl rfl 6 (by decide) (hts (.fieldLink RX6 32 "NestQuery$State" "refused" "[I") (by decide +kernel)) (fun _ h9 => h9) rfl dX6_takeAll_124 ?_
  refine lv_iload_n hx hb dX6_takeAll_127 rfl (lv_at hl 0 rfl) ?_
  refine va_iald hx hb hK.1 hP 7 0 rfl rfl (i := 2) (nq_in (by decide)) dX6_takeAll_128 ?_
  refine nq_top (z := 0) (rfl) ?_
  refine va_iast hx hb hK.1 hP hD hS 3 0 rfl rfl (i := 2) (nq_in (by decide)) dX6_takeAll_129 (fun H locs hP hD hS => ?_)
  have hP : va_P G vwCl [(im, .inr (6, [.ref imt, .ref imb, .int 0, .ref imn, .ref imi, .int 0, .ref imr])), (imn, .inl (y 0, 8, .inl (upd (upd (upd (upd (upd (upd (upd (upd (fun _ => 0) 0 0) 1 0) 2 0) 3 0) 4 0) 5 0) 6 0) 7 0))), (imi, .inl (y 2, 8, .inl (upd (upd (upd (upd (upd (upd (upd (upd (fun _ => 0) 0 (vp_nar .boolean 0)) 1 (vp_nar .boolean 0)) 2 (vp_nar .boolean 0)) 3 (vp_nar .boolean 0)) 4 (vp_nar .boolean 0)) 5 (vp_nar .boolean 0)) 6 (vp_nar .boolean 0)) 7 (vp_nar .boolean 0)))), (imr, .inl (y 0, 3, .inl (upd (upd (upd (fun _ => 0) 0 0) 1 0) 2 0))), (nw, .inr (6, [.ref nwt, .ref nwb, .int 0, .ref nwn, .ref nwi, .int 0, .ref nwr])), (nwn, .inl (y 0, 8, .inl (fun _ => 0))), (nwi, .inl (y 2, 8, .inl (fun _ => 0))), (nwr, .inl (y 0, 3, .inl (fun _ => 0)))] H := hP
  have hD : va_D A [(im, .inr (6, [.ref imt, .ref imb, .int 0, .ref imn, .ref imi, .int 0, .ref imr])), (imn, .inl (y 0, 8, .inl (upd (upd (upd (upd (upd (upd (upd (upd (fun _ => 0) 0 0) 1 0) 2 0) 3 0) 4 0) 5 0) 6 0) 7 0))), (imi, .inl (y 2, 8, .inl (upd (upd (upd (upd (upd (upd (upd (upd (fun _ => 0) 0 (vp_nar .boolean 0)) 1 (vp_nar .boolean 0)) 2 (vp_nar .boolean 0)) 3 (vp_nar .boolean 0)) 4 (vp_nar .boolean 0)) 5 (vp_nar .boolean 0)) 6 (vp_nar .boolean 0)) 7 (vp_nar .boolean 0)))), (imr, .inl (y 0, 3, .inl (upd (upd (upd (fun _ => 0) 0 0) 1 0) 2 0))), (nw, .inr (6, [.ref nwt, .ref nwb, .int 0, .ref nwn, .ref nwi, .int 0, .ref nwr])), (nwn, .inl (y 0, 8, .inl (fun _ => 0))), (nwi, .inl (y 2, 8, .inl (fun _ => 0))), (nwr, .inl (y 0, 3, .inl (fun _ => 0)))] := hD
  refine lv_iinc (v := 3) (lv' := [(2, .int 3), (0, .ref im), (1, .ref nw)]) hx hb dX6_takeAll_130 hl (k := 0) rfl (by decide) (by decide) rfl (fun ls hl => ?_)
  refine lv_goto (tgt := 100) hx hb dX6_takeAll_133 (by decide) ?_
  refine lv_iload_n hx hb dX6_takeAll_100 rfl (lv_at hl 0 rfl) ?_
  refine lv_aload_n hx hb dX6_takeAll_101 rfl (lv_at hl 1 rfl) ?_
  refine va_get (D := G) (ci := 6) (v := .ref imr) (C := RX6) (T := TX6) (N := 7) hx hb hts inX6 hown hK.1 hP 0 rfl rfl 6 (by decide) (hts (.fieldLink RX6 32 "NestQuery$State" "refused" "[I") (by decide +kernel)) (fun _ h9 => h9) rfl dX6_takeAll_102 ?_
  refine va_alen hx hb hK.1 hP 3 0 rfl rfl (v := 3) rfl dX6_takeAll_105 ?_
  refine lv_icmp_ge (tgt := 136) hx hb dX6_takeAll_106 (by decide) (fun _ => ?_) (fun c_20 => absurd c_20 (by decide))
  have hP9 := hP.sub (ws' := []) [] rfl
  have hD9 := hD.sub (ws' := []) [] (by decide) rfl
  refine W.widen (k := 0) (n := 0) (Nat.le_of_ble_eq_true rfl) (Nat.le_of_ble_eq_true rfl) ?_
  exact W.vret hx hb hr (fun t ht hW => ⟨⟨(), rfl, trivial, by rw [ht]; exact hP9, by first | exact hD9 | (rw [hAe]; exact hD9)⟩, hS.F ht⟩) hS.2.2 dX6_takeAll_136

