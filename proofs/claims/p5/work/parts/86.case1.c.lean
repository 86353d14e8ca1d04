set_option maxHeartbeats 400000 in
set_option maxRecDepth 100000 in
theorem lc_7 {p : Program} {e : Env} {s : State} {m : MethodId} {below : List Frame} {meth : Method} {c : Code} {l : Launch} {b L : Nat} {xs : Nat → Int32} {G : va_G} {y : Nat → ClassId} (hl0 : l.stackTraces = false) (C0 : lw_At p s m meth c b L xs) (hK : nq_K G y s) (hXs : nq_X (th_A s.heap.size) s) {E : th_E} {σ : th_M} {x0 m0 ou : Nat} {t i : Int} (hL : L ≤ 3072) (hi0 : 0 ≤ i) (hi1 : i + 6 ≤ L) (hJ : LJ y E σ x0 m0 ou t t) (hI : F5 E σ x0 m0) (hT : tp E σ x0 m0) {H : Heap} {locs : List Loc} {ls : Array Slot} {cells slots : Nat} (hH : th_H G s.heap.size σ H) (hS : va_S (th_A s.heap.size) s.heap H locs) (hl : lv_has ls 7 [(4, .int (I i)), (3, .ref ou), (2, .ref m0), (1, .ref x0), (0, .ref b)]) (hc0 : cells + 200 ≤ 601024) (hs0 : slots + 9800 ≤ 7293034) {Q : State → Prop} (kk : ∀ (E1 : th_E) (σ1 : th_M) (t1 : Int) (H1 : Heap) (locs1 : List Loc) (ls1 : Array Slot) (k1 n1 : Nat), LJ y E1 σ1 x0 m0 ou t1 t1 → F5 E1 σ1 x0 m0 → tp E1 σ1 x0 m0 → th_H G s.heap.size σ1 H1 → va_S (th_A s.heap.size) s.heap H1 locs1 → lv_has ls1 7 [(4, .int (I i)), (3, .ref ou), (2, .ref m0), (1, .ref x0), (0, .ref b)] → k1 ≤ cells + 200 → n1 ≤ slots + 9800 → W p l e room_1 s m #[Value.ref b] below meth c H1 locs1 k1 n1 Q (F0 m 1173 ls1 [])) : W p l e room_1 s m #[Value.ref b] below meth c H locs cells slots Q (F0 m 430 ls []) := by
  obtain ⟨hx, hb, hr, hml, hown, hts, hX, hbl, hlocks, hgv⟩ := C0
  have hbA : ¬ th_A s.heap.size b := Nat.not_le.mpr hbl
  obtain ⟨a1, ra1, ea1⟩ : ∃ z : Int, rng z ∧ xs (I (i + 1)).toNatClampNeg = I z := ⟨_, rng_toInt _, (I_of _).symm⟩
  obtain ⟨a2, ra2, ea2⟩ : ∃ z : Int, rng z ∧ xs (I (i + 2)).toNatClampNeg = I z := ⟨_, rng_toInt _, (I_of _).symm⟩
  obtain ⟨a3, ra3, ea3⟩ : ∃ z : Int, rng z ∧ xs (I (i + 3)).toNatClampNeg = I z := ⟨_, rng_toInt _, (I_of _).symm⟩
  refine lv_aload_n hx hb dL_law_430 rfl (lv_at hl 3 rfl) ?_
  refine lv_aload_n hx hb dL_law_431 rfl (lv_at hl 4 rfl) ?_
  refine lv_iload hx hb dL_law_432 (lv_at hl 0 rfl) ?_
  refine lv_iconst (v := I 1) hx hb dL_law_434 (by decide) ?_
  refine lv_iadd hx hb dL_law_435 ?_
  refine nq_top (I_add _ _) ?_
  refine va_sld hx hb hX hbl hbA hS (i := I (i + 1)) (I_in ⟨by omega, by omega⟩ (by omega) (by omega)) dL_law_436 ?_
  refine nq_top ea1 ?_
  refine lv_aload_n hx hb dL_law_437 rfl (lv_at hl 4 rfl) ?_
  refine lv_iload hx hb dL_law_438 (lv_at hl 0 rfl) ?_
  refine lv_iconst (v := I 2) hx hb dL_law_440 (by decide) ?_
  refine lv_iadd hx hb dL_law_441 ?_
  refine nq_top (I_add _ _) ?_
  refine va_sld hx hb hX hbl hbA hS (i := I (i + 2)) (I_in ⟨by omega, by omega⟩ (by omega) (by omega)) dL_law_442 ?_
  refine nq_top ea2 ?_
  refine lv_if_eq (tgt := 450) hx hb dL_law_443 (by decide) (fun c1 => ?_) (fun c1 => ?_)
  · refine lv_iconst (v := I 0) hx hb dL_law_450 (by decide) ?_
    refine lv_aload_n hx hb dL_law_451 rfl (lv_at hl 4 rfl) ?_
    refine lv_iload hx hb dL_law_452 (lv_at hl 0 rfl) ?_
    refine lv_iconst (v := I 3) hx hb dL_law_454 (by decide) ?_
    refine lv_iadd hx hb dL_law_455 ?_
    refine nq_top (I_add _ _) ?_
    refine va_sld hx hb hX hbl hbA hS (i := I (i + 3)) (I_in ⟨by omega, by omega⟩ (by omega) (by omega)) dL_law_456 ?_
    refine nq_top ea3 ?_
    refine lv_aload_n hx hb dL_law_457 rfl (lv_at hl 1 rfl) ?_
    obtain ⟨fo2, hf3⟩ := hJ.2.2.2.2.1
    refine th_calli (vx_runSW (hh := [(0, 12, 15, 19)]) (As := [.ref x0, .int (I a1), .int (I 0), .int (I a3), .ref ou]) (rest := []) ⟨hx, hb, hml, hown, hts⟩ (w_told l hl0 G y s.heap.size σ E hJ.1 x0 hJ.2.1 m0 hJ.2.2.1 ou hJ.2.2.2.1 fo2 hf3 a1 ra1 0 (show rng 0 from ⟨by decide, by decide⟩) (by decide) (by decide) a3 ra3) (vx_cwSW 5 hts gv_L_told_95 rfl rfl rfl (by decide +kernel) ⟨Nat.le_of_ble_eq_true rfl, Nat.le_of_ble_eq_true rfl⟩) (th_PXS hK hXs hS hH) rfl rfl hl.1 rfl (lv_room (Nat.le_of_ble_eq_true rfl)) dL_law_458 ⟨show _ + _ ≤ 601024 by omega, show _ + _ ≤ 7293034 by omega⟩) hS (fun z4 σ6 H locs rz4 hw5 hH hS => ?_)
    obtain ⟨E7, hX8, hO9, hF10, hf11, hw5⟩ := hw5
    have hJ12 := hJ.cls hX8 hO9 hF10 (by decide) hf11 rfl
    have hthJ12 := hJ12.tapm
    have huhJ12 := hJ.tapx
    have hvhJ12 := hJ.tapm
    have m117 := fx.m0 hJ hF10 (by decide) 21
    have rm13 := hJ.row6 hX8 hF10 (by decide)
    have m815 := hJ.row8 hX8 hF10 (by decide)
    have hT14 := hT.cls (Or.inr ⟨hw5.2.1, by omega⟩) rm13
    have hI16 := hI.keep hX8 hJ.2.1 hw5.1.2 hw5.2.2 m117 m815
    replace hw5 := hw5.1
    refine lv_istore (lv' := [(5, .int (I z4)), (4, .int (I i)), (3, .ref ou), (2, .ref m0), (1, .ref x0), (0, .ref b)]) hx hb dL_law_461 hl (by decide) rfl (fun ls hl => ?_)
    refine lv_aload_n hx hb dL_law_463 rfl (lv_at hl 3 rfl) ?_
    refine lv_aload_n hx hb dL_law_464 rfl (lv_at hl 5 rfl) ?_
    refine lv_iload hx hb dL_law_465 (lv_at hl 1 rfl) ?_
    refine lv_iconst (v := I 1) hx hb dL_law_467 (by decide) ?_
    refine lv_iadd hx hb dL_law_468 ?_
    refine nq_top (I_add _ _) ?_
    refine va_sld hx hb hX hbl hbA hS (i := I (i + 1)) (I_in ⟨by omega, by omega⟩ (by omega) (by omega)) dL_law_469 ?_
    refine nq_top ea1 ?_
    refine lv_aload_n hx hb dL_law_470 rfl (lv_at hl 5 rfl) ?_
    refine lv_iload hx hb dL_law_471 (lv_at hl 1 rfl) ?_
    refine lv_iconst (v := I 2) hx hb dL_law_473 (by decide) ?_
    refine lv_iadd hx hb dL_law_474 ?_
    refine nq_top (I_add _ _) ?_
    refine va_sld hx hb hX hbl hbA hS (i := I (i + 2)) (I_in ⟨by omega, by omega⟩ (by omega) (by omega)) dL_law_475 ?_
    refine nq_top ea2 ?_
    refine lv_if_eq (tgt := 483) hx hb dL_law_476 (by decide) (fun c18 => ?_) (fun c18 => ?_)
    · refine lv_iconst (v := I 0) hx hb dL_law_483 (by decide) ?_
      refine lv_aload_n hx hb dL_law_484 rfl (lv_at hl 5 rfl) ?_
      refine lv_iload hx hb dL_law_485 (lv_at hl 1 rfl) ?_
      refine lv_iconst (v := I 3) hx hb dL_law_487 (by decide) ?_
      refine lv_iadd hx hb dL_law_488 ?_
      refine nq_top (I_add _ _) ?_
      refine va_sld hx hb hX hbl hbA hS (i := I (i + 3)) (I_in ⟨by omega, by omega⟩ (by omega) (by omega)) dL_law_489 ?_
      refine nq_top ea3 ?_
      obtain ⟨_, hc19⟩ := hJ12.1.cell hJ12.2.2.1 (by decide) (ci := 11) rfl
      refine th_calli (va_runV (As := [.int (I a1), .int (I 0), .int (I a3)]) (rest := []) ⟨hx, hb, hml, hown, hts⟩ (j_told l G y s.heap.size σ6 E7 hJ12.1 m0 hJ12.2.2.1 a1 ra1 0 (show rng 0 from ⟨by decide, by decide⟩) (by decide) (by decide) a3 ra3 _ rfl _ rfl _ rfl _ rfl _ rfl _ rfl _ rfl _ rfl _ rfl _ rfl _ rfl hJ12.jw) (cwV 3 hts gv_X11_told_98 rfl rfl rfl (by decide +kernel) ⟨Nat.le_of_ble_eq_true rfl, Nat.le_of_ble_eq_true rfl⟩) (th_PV hK hH rfl hc19) rfl rfl hl.1 rfl (lv_room (Nat.le_of_ble_eq_true rfl)) dL_law_490 ⟨show _ + _ ≤ 601024 by omega, show _ + _ ≤ 7293034 by omega⟩) hS (fun z22 σ21 H locs rz22 hw20 hH hS => ?_)
      obtain ⟨hO24, hF25, hM26, hq28, hw20⟩ := hw20
      have hwhJ27 := hJ12.tapm
      have hJ27 := hJ12.ref hO24 hF25 hM26 hq28 (show gI σ21 m0 12 = (gI σ6 x0 1) by omega)
      have rx34 := fr.af hJ12.1 hF25 hJ12.2.1 (by decide) (by decide) k12_0 isA1
      have hchJ27 := fr.ki hJ12.1 hF25 hJ12.2.1 (by decide) (by decide) 1
      have hT35 := hT14.ref rx34 (hM26.a (by decide) (by decide)) hchJ27
      have x232 := fr.ki hJ12.1 hF25 hJ12.2.1 (by decide) (by decide) 2
      have xq33 := fr.aq hJ12.1 hF25 hJ12.2.1 (by decide) (by decide) k12_3
      have m831 : aF σ21 (ad E7 m0 8) = aF σ6 (ad E7 m0 8) := hM26.a (by decide) (by decide)
      have m130 := hM26.i (k := 21) (by decide)
      have hI29 := hI16.keep ext.rf hJ12.2.1 x232 xq33 m130 m831
      refine lv_istore (lv' := [(6, .int (I z22)), (5, .int (I z4)), (4, .int (I i)), (3, .ref ou), (2, .ref m0), (1, .ref x0), (0, .ref b)]) hx hb dL_law_493 hl (by decide) rfl (fun ls hl => ?_)
      refine lv_goto (tgt := 1173) hx hb dL_law_495 (by decide) ?_
      exact kk _ _ _ _ _ _ _ _ hJ27 hI29 hT35 hH hS (lv_sub hl [2, 3, 4, 5, 6] rfl) (by omega) (by omega)
    · refine lv_iconst (v := I 1) hx hb dL_law_479 (by decide) ?_
      refine lv_goto (tgt := 484) hx hb dL_law_480 (by decide) ?_
      refine lv_aload_n hx hb dL_law_484 rfl (lv_at hl 5 rfl) ?_
      refine lv_iload hx hb dL_law_485 (lv_at hl 1 rfl) ?_
      refine lv_iconst (v := I 3) hx hb dL_law_487 (by decide) ?_
      refine lv_iadd hx hb dL_law_488 ?_
      refine nq_top (I_add _ _) ?_
      refine va_sld hx hb hX hbl hbA hS (i := I (i + 3)) (I_in ⟨by omega, by omega⟩ (by omega) (by omega)) dL_law_489 ?_
      refine nq_top ea3 ?_
      obtain ⟨_, hc36⟩ := hJ12.1.cell hJ12.2.2.1 (by decide) (ci := 11) rfl
      refine th_calli (va_runV (As := [.int (I a1), .int (I 1), .int (I a3)]) (rest := []) ⟨hx, hb, hml, hown, hts⟩ (j_told l G y s.heap.size σ6 E7 hJ12.1 m0 hJ12.2.2.1 a1 ra1 1 (show rng 1 from ⟨by decide, by decide⟩) (by decide) (by decide) a3 ra3 _ rfl _ rfl _ rfl _ rfl _ rfl _ rfl _ rfl _ rfl _ rfl _ rfl _ rfl hJ12.jw) (cwV 3 hts gv_X11_told_98 rfl rfl rfl (by decide +kernel) ⟨Nat.le_of_ble_eq_true rfl, Nat.le_of_ble_eq_true rfl⟩) (th_PV hK hH rfl hc36) rfl rfl hl.1 rfl (lv_room (Nat.le_of_ble_eq_true rfl)) dL_law_490 ⟨show _ + _ ≤ 601024 by omega, show _ + _ ≤ 7293034 by omega⟩) hS (fun z39 σ38 H locs rz39 hw37 hH hS => ?_)
      obtain ⟨hO41, hF42, hM43, hq45, hw37⟩ := hw37
      have hwhJ44 := hJ12.tapm
      have hJ44 := hJ12.ref hO41 hF42 hM43 hq45 (show gI σ38 m0 12 = (gI σ6 x0 1) by omega)
      have rx51 := fr.af hJ12.1 hF42 hJ12.2.1 (by decide) (by decide) k12_0 isA1
      have hchJ44 := fr.ki hJ12.1 hF42 hJ12.2.1 (by decide) (by decide) 1
      have hT52 := hT14.ref rx51 (hM43.a (by decide) (by decide)) hchJ44
      have x249 := fr.ki hJ12.1 hF42 hJ12.2.1 (by decide) (by decide) 2
      have xq50 := fr.aq hJ12.1 hF42 hJ12.2.1 (by decide) (by decide) k12_3
      have m848 : aF σ38 (ad E7 m0 8) = aF σ6 (ad E7 m0 8) := hM43.a (by decide) (by decide)
      have m147 := hM43.i (k := 21) (by decide)
      have hI46 := hI16.keep ext.rf hJ12.2.1 x249 xq50 m147 m848
      refine lv_istore (lv' := [(6, .int (I z39)), (5, .int (I z4)), (4, .int (I i)), (3, .ref ou), (2, .ref m0), (1, .ref x0), (0, .ref b)]) hx hb dL_law_493 hl (by decide) rfl (fun ls hl => ?_)
      refine lv_goto (tgt := 1173) hx hb dL_law_495 (by decide) ?_
      exact kk _ _ _ _ _ _ _ _ hJ44 hI46 hT52 hH hS (lv_sub hl [2, 3, 4, 5, 6] rfl) (by omega) (by omega)
  · refine lv_iconst (v := I 1) hx hb dL_law_446 (by decide) ?_
    refine lv_goto (tgt := 451) hx hb dL_law_447 (by decide) ?_
    refine lv_aload_n hx hb dL_law_451 rfl (lv_at hl 4 rfl) ?_
    refine lv_iload hx hb dL_law_452 (lv_at hl 0 rfl) ?_
    refine lv_iconst (v := I 3) hx hb dL_law_454 (by decide) ?_
    refine lv_iadd hx hb dL_law_455 ?_
    refine nq_top (I_add _ _) ?_
    refine va_sld hx hb hX hbl hbA hS (i := I (i + 3)) (I_in ⟨by omega, by omega⟩ (by omega) (by omega)) dL_law_456 ?_
    refine nq_top ea3 ?_
    refine lv_aload_n hx hb dL_law_457 rfl (lv_at hl 1 rfl) ?_
    obtain ⟨fo53, hf54⟩ := hJ.2.2.2.2.1
    refine th_calli (vx_runSW (hh := [(0, 12, 15, 19)]) (As := [.ref x0, .int (I a1), .int (I 1), .int (I a3), .ref ou]) (rest := []) ⟨hx, hb, hml, hown, hts⟩ (w_told l hl0 G y s.heap.size σ E hJ.1 x0 hJ.2.1 m0 hJ.2.2.1 ou hJ.2.2.2.1 fo53 hf54 a1 ra1 1 (show rng 1 from ⟨by decide, by decide⟩) (by decide) (by decide) a3 ra3) (vx_cwSW 5 hts gv_L_told_95 rfl rfl rfl (by decide +kernel) ⟨Nat.le_of_ble_eq_true rfl, Nat.le_of_ble_eq_true rfl⟩) (th_PXS hK hXs hS hH) rfl rfl hl.1 rfl (lv_room (Nat.le_of_ble_eq_true rfl)) dL_law_458 ⟨show _ + _ ≤ 601024 by omega, show _ + _ ≤ 7293034 by omega⟩) hS (fun z55 σ57 H locs rz55 hw56 hH hS => ?_)
    obtain ⟨E58, hX59, hO60, hF61, hf62, hw56⟩ := hw56
    have hJ63 := hJ.cls hX59 hO60 hF61 (by decide) hf62 rfl
    have hthJ63 := hJ63.tapm
    have huhJ63 := hJ.tapx
    have hvhJ63 := hJ.tapm
    have m168 := fx.m0 hJ hF61 (by decide) 21
    have rm64 := hJ.row6 hX59 hF61 (by decide)
    have m866 := hJ.row8 hX59 hF61 (by decide)
    have hT65 := hT.cls (Or.inr ⟨hw56.2.1, by omega⟩) rm64
    have hI67 := hI.keep hX59 hJ.2.1 hw56.1.2 hw56.2.2 m168 m866
    replace hw56 := hw56.1
    refine lv_istore (lv' := [(5, .int (I z55)), (4, .int (I i)), (3, .ref ou), (2, .ref m0), (1, .ref x0), (0, .ref b)]) hx hb dL_law_461 hl (by decide) rfl (fun ls hl => ?_)
    refine lv_aload_n hx hb dL_law_463 rfl (lv_at hl 3 rfl) ?_
    refine lv_aload_n hx hb dL_law_464 rfl (lv_at hl 5 rfl) ?_
    refine lv_iload hx hb dL_law_465 (lv_at hl 1 rfl) ?_
    refine lv_iconst (v := I 1) hx hb dL_law_467 (by decide) ?_
    refine lv_iadd hx hb dL_law_468 ?_
    refine nq_top (I_add _ _) ?_
    refine va_sld hx hb hX hbl hbA hS (i := I (i + 1)) (I_in ⟨by omega, by omega⟩ (by omega) (by omega)) dL_law_469 ?_
    refine nq_top ea1 ?_
    refine lv_aload_n hx hb dL_law_470 rfl (lv_at hl 5 rfl) ?_
    refine lv_iload hx hb dL_law_471 (lv_at hl 1 rfl) ?_
    refine lv_iconst (v := I 2) hx hb dL_law_473 (by decide) ?_
    refine lv_iadd hx hb dL_law_474 ?_
    refine nq_top (I_add _ _) ?_
    refine va_sld hx hb hX hbl hbA hS (i := I (i + 2)) (I_in ⟨by omega, by omega⟩ (by omega) (by omega)) dL_law_475 ?_
    refine nq_top ea2 ?_
    refine lv_if_eq (tgt := 483) hx hb dL_law_476 (by decide) (fun c69 => ?_) (fun c69 => ?_)
    · refine lv_iconst (v := I 0) hx hb dL_law_483 (by decide) ?_
      refine lv_aload_n hx hb dL_law_484 rfl (lv_at hl 5 rfl) ?_
      refine lv_iload hx hb dL_law_485 (lv_at hl 1 rfl) ?_
      refine lv_iconst (v := I 3) hx hb dL_law_487 (by decide) ?_
      refine lv_iadd hx hb dL_law_488 ?_
      refine nq_top (I_add _ _) ?_
      refine va_sld hx hb hX hbl hbA hS (i := I (i + 3)) (I_in ⟨by omega, by omega⟩ (by omega) (by omega)) dL_law_489 ?_
      refine nq_top ea3 ?_
      obtain ⟨_, hc70⟩ := hJ63.1.cell hJ63.2.2.1 (by decide) (ci := 11) rfl
      refine th_calli (va_runV (As := [.int (I a1), .int (I 0), .int (I a3)]) (rest := []) ⟨hx, hb, hml, hown, hts⟩ (j_told l G y s.heap.size σ57 E58 hJ63.1 m0 hJ63.2.2.1 a1 ra1 0 (show rng 0 from ⟨by decide, by decide⟩) (by decide) (by decide) a3 ra3 _ rfl _ rfl _ rfl _ rfl _ rfl _ rfl _ rfl _ rfl _ rfl _ rfl _ rfl hJ63.jw) (cwV 3 hts gv_X11_told_98 rfl rfl rfl (by decide +kernel) ⟨Nat.le_of_ble_eq_true rfl, Nat.le_of_ble_eq_true rfl⟩) (th_PV hK hH rfl hc70) rfl rfl hl.1 rfl (lv_room (Nat.le_of_ble_eq_true rfl)) dL_law_490 ⟨show _ + _ ≤ 601024 by omega, show _ + _ ≤ 7293034 by omega⟩) hS (fun z73 σ72 H locs rz73 hw71 hH hS => ?_)
      obtain ⟨hO75, hF76, hM77, hq79, hw71⟩ := hw71
      have hwhJ78 := hJ63.tapm
      have hJ78 := hJ63.ref hO75 hF76 hM77 hq79 (show gI σ72 m0 12 = (gI σ57 x0 1) by omega)
      have rx85 := fr.af hJ63.1 hF76 hJ63.2.1 (by decide) (by decide) k12_0 isA1
      have hchJ78 := fr.ki hJ63.1 hF76 hJ63.2.1 (by decide) (by decide) 1
      have hT86 := hT65.ref rx85 (hM77.a (by decide) (by decide)) hchJ78
      have x283 := fr.ki hJ63.1 hF76 hJ63.2.1 (by decide) (by decide) 2
      have xq84 := fr.aq hJ63.1 hF76 hJ63.2.1 (by decide) (by decide) k12_3
      have m882 : aF σ72 (ad E58 m0 8) = aF σ57 (ad E58 m0 8) := hM77.a (by decide) (by decide)
      have m181 := hM77.i (k := 21) (by decide)
      have hI80 := hI67.keep ext.rf hJ63.2.1 x283 xq84 m181 m882
      refine lv_istore (lv' := [(6, .int (I z73)), (5, .int (I z55)), (4, .int (I i)), (3, .ref ou), (2, .ref m0), (1, .ref x0), (0, .ref b)]) hx hb dL_law_493 hl (by decide) rfl (fun ls hl => ?_)
      refine lv_goto (tgt := 1173) hx hb dL_law_495 (by decide) ?_
      exact kk _ _ _ _ _ _ _ _ hJ78 hI80 hT86 hH hS (lv_sub hl [2, 3, 4, 5, 6] rfl) (by omega) (by omega)
    · refine lv_iconst (v := I 1) hx hb dL_law_479 (by decide) ?_
      refine lv_goto (tgt := 484) hx hb dL_law_480 (by decide) ?_
      refine lv_aload_n hx hb dL_law_484 rfl (lv_at hl 5 rfl) ?_
      refine lv_iload hx hb dL_law_485 (lv_at hl 1 rfl) ?_
      refine lv_iconst (v := I 3) hx hb dL_law_487 (by decide) ?_
      refine lv_iadd hx hb dL_law_488 ?_
      refine nq_top (I_add _ _) ?_
      refine va_sld hx hb hX hbl hbA hS (i := I (i + 3)) (I_in ⟨by omega, by omega⟩ (by omega) (by omega)) dL_law_489 ?_
      refine nq_top ea3 ?_
      obtain ⟨_, hc87⟩ := hJ63.1.cell hJ63.2.2.1 (by decide) (ci := 11) rfl
      refine th_calli (va_runV (As := [.int (I a1), .int (I 1), .int (I a3)]) (rest := []) ⟨hx, hb, hml, hown, hts⟩ (j_told l G y s.heap.size σ57 E58 hJ63.1 m0 hJ63.2.2.1 a1 ra1 1 (show rng 1 from ⟨by decide, by decide⟩) (by decide) (by decide) a3 ra3 _ rfl _ rfl _ rfl _ rfl _ rfl _ rfl _ rfl _ rfl _ rfl _ rfl _ rfl hJ63.jw) (cwV 3 hts gv_X11_told_98 rfl rfl rfl (by decide +kernel) ⟨Nat.le_of_ble_eq_true rfl, Nat.le_of_ble_eq_true rfl⟩) (th_PV hK hH rfl hc87) rfl rfl hl.1 rfl (lv_room (Nat.le_of_ble_eq_true rfl)) dL_law_490 ⟨show _ + _ ≤ 601024 by omega, show _ + _ ≤ 7293034 by omega⟩) hS (fun z90 σ89 H locs rz90 hw88 hH hS => ?_)
      obtain ⟨hO92, hF93, hM94, hq96, hw88⟩ := hw88
      have hwhJ95 := hJ63.tapm
      have hJ95 := hJ63.ref hO92 hF93 hM94 hq96 (show gI σ89 m0 12 = (gI σ57 x0 1) by omega)
      have rx102 := fr.af hJ63.1 hF93 hJ63.2.1 (by decide) (by decide) k12_0 isA1
      have hchJ95 := fr.ki hJ63.1 hF93 hJ63.2.1 (by decide) (by decide) 1
      have hT103 := hT65.ref rx102 (hM94.a (by decide) (by decide)) hchJ95
      have x2100 := fr.ki hJ63.1 hF93 hJ63.2.1 (by decide) (by decide) 2
      have xq101 := fr.aq hJ63.1 hF93 hJ63.2.1 (by decide) (by decide) k12_3
      have m899 : aF σ89 (ad E58 m0 8) = aF σ57 (ad E58 m0 8) := hM94.a (by decide) (by decide)
      have m198 := hM94.i (k := 21) (by decide)
      have hI97 := hI67.keep ext.rf hJ63.2.1 x2100 xq101 m198 m899
      refine lv_istore (lv' := [(6, .int (I z90)), (5, .int (I z55)), (4, .int (I i)), (3, .ref ou), (2, .ref m0), (1, .ref x0), (0, .ref b)]) hx hb dL_law_493 hl (by decide) rfl (fun ls hl => ?_)
      refine lv_goto (tgt := 1173) hx hb dL_law_495 (by decide) ?_
      exact kk _ _ _ _ _ _ _ _ hJ95 hI97 hT103 hH hS (lv_sub hl [2, 3, 4, 5, 6] rfl) (by omega) (by omega)

set_option maxHeartbeats 400000 in
set_option maxRecDepth 100000 in
theorem lc_8 {p : Program} {e : Env} {s : State} {m : MethodId} {below : List Frame} {meth : Method} {c : Code} {l : Launch} {b L : Nat} {xs : Nat → Int32} {G : va_G} {y : Nat → ClassId} (hl0 : l.stackTraces = false) (C0 : lw_At p s m meth c b L xs) (hK : nq_K G y s) (hXs : nq_X (th_A s.heap.size) s) {E : th_E} {σ : th_M} {x0 m0 ou : Nat} {t i : Int} (hL : L ≤ 3072) (hi0 : 0 ≤ i) (hi1 : i + 6 ≤ L) (hJ : LJ y E σ x0 m0 ou t t) (hI : F5 E σ x0 m0) (hT : tp E σ x0 m0) {H : Heap} {locs : List Loc} {ls : Array Slot} {cells slots : Nat} (hH : th_H G s.heap.size σ H) (hS : va_S (th_A s.heap.size) s.heap H locs) (hl : lv_has ls 7 [(4, .int (I i)), (3, .ref ou), (2, .ref m0), (1, .ref x0), (0, .ref b)]) (hc0 : cells + 200 ≤ 601024) (hs0 : slots + 9800 ≤ 7293034) {Q : State → Prop} (kk : ∀ (E1 : th_E) (σ1 : th_M) (t1 : Int) (H1 : Heap) (locs1 : List Loc) (ls1 : Array Slot) (k1 n1 : Nat), LJ y E1 σ1 x0 m0 ou t1 t1 → F5 E1 σ1 x0 m0 → tp E1 σ1 x0 m0 → th_H G s.heap.size σ1 H1 → va_S (th_A s.heap.size) s.heap H1 locs1 → lv_has ls1 7 [(4, .int (I i)), (3, .ref ou), (2, .ref m0), (1, .ref x0), (0, .ref b)] → k1 ≤ cells + 200 → n1 ≤ slots + 9800 → W p l e room_1 s m #[Value.ref b] below meth c H1 locs1 k1 n1 Q (F0 m 1173 ls1 [])) : W p l e room_1 s m #[Value.ref b] below meth c H locs cells slots Q (F0 m 498 ls []) := by
  obtain ⟨hx, hb, hr, hml, hown, hts, hX, hbl, hlocks, hgv⟩ := C0
  have hbA : ¬ th_A s.heap.size b := Nat.not_le.mpr hbl
  obtain ⟨a1, ra1, ea1⟩ : ∃ z : Int, rng z ∧ xs (I (i + 1)).toNatClampNeg = I z := ⟨_, rng_toInt _, (I_of _).symm⟩
  obtain ⟨a2, ra2, ea2⟩ : ∃ z : Int, rng z ∧ xs (I (i + 2)).toNatClampNeg = I z := ⟨_, rng_toInt _, (I_of _).symm⟩
  refine lv_aload_n hx hb dL_law_498 rfl (lv_at hl 3 rfl) ?_
  refine lv_aload_n hx hb dL_law_499 rfl (lv_at hl 4 rfl) ?_
  refine lv_iload hx hb dL_law_500 (lv_at hl 0 rfl) ?_
  refine lv_iconst (v := I 1) hx hb dL_law_502 (by decide) ?_
  refine lv_iadd hx hb dL_law_503 ?_
  refine nq_top (I_add _ _) ?_
  refine va_sld hx hb hX hbl hbA hS (i := I (i + 1)) (I_in ⟨by omega, by omega⟩ (by omega) (by omega)) dL_law_504 ?_
  refine nq_top ea1 ?_
  refine lv_aload_n hx hb dL_law_505 rfl (lv_at hl 4 rfl) ?_
  refine lv_iload hx hb dL_law_506 (lv_at hl 0 rfl) ?_
  refine lv_iconst (v := I 2) hx hb dL_law_508 (by decide) ?_
  refine lv_iadd hx hb dL_law_509 ?_
  refine nq_top (I_add _ _) ?_
  refine va_sld hx hb hX hbl hbA hS (i := I (i + 2)) (I_in ⟨by omega, by omega⟩ (by omega) (by omega)) dL_law_510 ?_
  refine nq_top ea2 ?_
  refine lv_aload_n hx hb dL_law_511 rfl (lv_at hl 1 rfl) ?_
  obtain ⟨fo1, hf2⟩ := hJ.2.2.2.2.1
  refine th_calli (vx_runSW (hh := [(0, 10, 13, 19)]) (As := [.ref x0, .int (I a1), .int (I a2), .ref ou]) (rest := []) ⟨hx, hb, hml, hown, hts⟩ (w_alike l hl0 G y s.heap.size σ E hJ.1 x0 hJ.2.1 m0 hJ.2.2.1 ou hJ.2.2.2.1 fo1 hf2 a1 ra1 a2 ra2) (vx_cwSW 4 hts gv_L_alike_99 rfl rfl rfl (by decide +kernel) ⟨Nat.le_of_ble_eq_true rfl, Nat.le_of_ble_eq_true rfl⟩) (th_PXS hK hXs hS hH) rfl rfl hl.1 rfl (lv_room (Nat.le_of_ble_eq_true rfl)) dL_law_512 ⟨show _ + _ ≤ 601024 by omega, show _ + _ ≤ 7293034 by omega⟩) hS (fun z3 σ5 H locs rz3 hw4 hH hS => ?_)
  obtain ⟨E6, hX7, hO8, hF9, hf10, hw4⟩ := hw4
  have hJ11 := hJ.cls hX7 hO8 hF9 (by decide) hf10 rfl
  have hthJ11 := hJ11.tapm
  have huhJ11 := hJ.tapx
  have hvhJ11 := hJ.tapm
  have m116 := fx.m0 hJ hF9 (by decide) 21
  have rm12 := hJ.row6 hX7 hF9 (by decide)
  have m814 := hJ.row8 hX7 hF9 (by decide)
  have hT13 := hT.cls (Or.inr ⟨hw4.2.1, by omega⟩) rm12
  have hI15 := hI.keep hX7 hJ.2.1 hw4.1.2 hw4.2.2 m116 m814
  replace hw4 := hw4.1
  refine lv_istore (lv' := [(5, .int (I z3)), (4, .int (I i)), (3, .ref ou), (2, .ref m0), (1, .ref x0), (0, .ref b)]) hx hb dL_law_515 hl (by decide) rfl (fun ls hl => ?_)
  refine lv_aload_n hx hb dL_law_517 rfl (lv_at hl 3 rfl) ?_
  refine lv_aload_n hx hb dL_law_518 rfl (lv_at hl 5 rfl) ?_
  refine lv_iload hx hb dL_law_519 (lv_at hl 1 rfl) ?_
  refine lv_iconst (v := I 1) hx hb dL_law_521 (by decide) ?_
  refine lv_iadd hx hb dL_law_522 ?_
  refine nq_top (I_add _ _) ?_
  refine va_sld hx hb hX hbl hbA hS (i := I (i + 1)) (I_in ⟨by omega, by omega⟩ (by omega) (by omega)) dL_law_523 ?_
  refine nq_top ea1 ?_
  refine lv_aload_n hx hb dL_law_524 rfl (lv_at hl 5 rfl) ?_
  refine lv_iload hx hb dL_law_525 (lv_at hl 1 rfl) ?_
  refine lv_iconst (v := I 2) hx hb dL_law_527 (by decide) ?_
  refine lv_iadd hx hb dL_law_528 ?_
  refine nq_top (I_add _ _) ?_
  refine va_sld hx hb hX hbl hbA hS (i := I (i + 2)) (I_in ⟨by omega, by omega⟩ (by omega) (by omega)) dL_law_529 ?_
  refine nq_top ea2 ?_
  obtain ⟨_, hc17⟩ := hJ11.1.cell hJ11.2.2.1 (by decide) (ci := 11) rfl
  refine th_calli (va_runV (As := [.int (I a1), .int (I a2)]) (rest := []) ⟨hx, hb, hml, hown, hts⟩ (j_alike l G y s.heap.size σ5 E6 hJ11.1 m0 hJ11.2.2.1 a1 ra1 a2 ra2 _ rfl _ rfl _ rfl _ rfl _ rfl _ rfl _ rfl _ rfl _ rfl _ rfl _ rfl hJ11.jw) (cwV 2 hts gv_X11_alike_101 rfl rfl rfl (by decide +kernel) ⟨Nat.le_of_ble_eq_true rfl, Nat.le_of_ble_eq_true rfl⟩) (th_PV hK hH rfl hc17) rfl rfl hl.1 rfl (lv_room (Nat.le_of_ble_eq_true rfl)) dL_law_530 ⟨show _ + _ ≤ 601024 by omega, show _ + _ ≤ 7293034 by omega⟩) hS (fun z20 σ19 H locs rz20 hw18 hH hS => ?_)
  obtain ⟨hO22, hF23, hM24, hq26, hw18⟩ := hw18
  have hwhJ25 := hJ11.tapm
  have hJ25 := hJ11.ref hO22 hF23 hM24 hq26 (show gI σ19 m0 12 = (gI σ5 x0 1) by omega)
  have rx32 := fr.af hJ11.1 hF23 hJ11.2.1 (by decide) (by decide) k12_0 isA1
  have hchJ25 := fr.ki hJ11.1 hF23 hJ11.2.1 (by decide) (by decide) 1
  have hT33 := hT13.ref rx32 (hM24.a (by decide) (by decide)) hchJ25
  have x230 := fr.ki hJ11.1 hF23 hJ11.2.1 (by decide) (by decide) 2
  have xq31 := fr.aq hJ11.1 hF23 hJ11.2.1 (by decide) (by decide) k12_3
  have m829 : aF σ19 (ad E6 m0 8) = aF σ5 (ad E6 m0 8) := hM24.a (by decide) (by decide)
  have m128 := hM24.i (k := 21) (by decide)
  have hI27 := hI15.keep ext.rf hJ11.2.1 x230 xq31 m128 m829
  refine lv_istore (lv' := [(6, .int (I z20)), (5, .int (I z3)), (4, .int (I i)), (3, .ref ou), (2, .ref m0), (1, .ref x0), (0, .ref b)]) hx hb dL_law_533 hl (by decide) rfl (fun ls hl => ?_)
  refine lv_goto (tgt := 1173) hx hb dL_law_535 (by decide) ?_
  exact kk _ _ _ _ _ _ _ _ hJ25 hI27 hT33 hH hS (lv_sub hl [2, 3, 4, 5, 6] rfl) (by omega) (by omega)

set_option maxHeartbeats 400000 in
set_option maxRecDepth 100000 in
theorem lc_9 {p : Program} {e : Env} {s : State} {m : MethodId} {below : List Frame} {meth : Method} {c : Code} {l : Launch} {b L : Nat} {xs : Nat → Int32} {G : va_G} {y : Nat → ClassId} (hl0 : l.stackTraces = false) (C0 : lw_At p s m meth c b L xs) (hK : nq_K G y s) (hXs : nq_X (th_A s.heap.size) s) {E : th_E} {σ : th_M} {x0 m0 ou : Nat} {t i : Int} (hL : L ≤ 3072) (hi0 : 0 ≤ i) (hi1 : i + 6 ≤ L) (hJ : LJ y E σ x0 m0 ou t t) (hI : F5 E σ x0 m0) (hT : tp E σ x0 m0) {H : Heap} {locs : List Loc} {ls : Array Slot} {cells slots : Nat} (hH : th_H G s.heap.size σ H) (hS : va_S (th_A s.heap.size) s.heap H locs) (hl : lv_has ls 7 [(4, .int (I i)), (3, .ref ou), (2, .ref m0), (1, .ref x0), (0, .ref b)]) (hc0 : cells + 200 ≤ 601024) (hs0 : slots + 9800 ≤ 7293034) {Q : State → Prop} (kk : ∀ (E1 : th_E) (σ1 : th_M) (t1 : Int) (H1 : Heap) (locs1 : List Loc) (ls1 : Array Slot) (k1 n1 : Nat), LJ y E1 σ1 x0 m0 ou t1 t1 → F5 E1 σ1 x0 m0 → tp E1 σ1 x0 m0 → th_H G s.heap.size σ1 H1 → va_S (th_A s.heap.size) s.heap H1 locs1 → lv_has ls1 7 [(4, .int (I i)), (3, .ref ou), (2, .ref m0), (1, .ref x0), (0, .ref b)] → k1 ≤ cells + 200 → n1 ≤ slots + 9800 → W p l e room_1 s m #[Value.ref b] below meth c H1 locs1 k1 n1 Q (F0 m 1173 ls1 [])) : W p l e room_1 s m #[Value.ref b] below meth c H locs cells slots Q (F0 m 538 ls []) := by
  obtain ⟨hx, hb, hr, hml, hown, hts, hX, hbl, hlocks, hgv⟩ := C0
  have hbA : ¬ th_A s.heap.size b := Nat.not_le.mpr hbl
  obtain ⟨a1, ra1, ea1⟩ : ∃ z : Int, rng z ∧ xs (I (i + 1)).toNatClampNeg = I z := ⟨_, rng_toInt _, (I_of _).symm⟩
  obtain ⟨a2, ra2, ea2⟩ : ∃ z : Int, rng z ∧ xs (I (i + 2)).toNatClampNeg = I z := ⟨_, rng_toInt _, (I_of _).symm⟩
  refine lv_aload_n hx hb dL_law_538 rfl (lv_at hl 3 rfl) ?_
  refine lv_aload_n hx hb dL_law_539 rfl (lv_at hl 4 rfl) ?_
  refine lv_iload hx hb dL_law_540 (lv_at hl 0 rfl) ?_
  refine lv_iconst (v := I 1) hx hb dL_law_542 (by decide) ?_
  refine lv_iadd hx hb dL_law_543 ?_
  refine nq_top (I_add _ _) ?_
  refine va_sld hx hb hX hbl hbA hS (i := I (i + 1)) (I_in ⟨by omega, by omega⟩ (by omega) (by omega)) dL_law_544 ?_
  refine nq_top ea1 ?_
  refine lv_aload_n hx hb dL_law_545 rfl (lv_at hl 4 rfl) ?_
  refine lv_iload hx hb dL_law_546 (lv_at hl 0 rfl) ?_
  refine lv_iconst (v := I 2) hx hb dL_law_548 (by decide) ?_
  refine lv_iadd hx hb dL_law_549 ?_
  refine nq_top (I_add _ _) ?_
  refine va_sld hx hb hX hbl hbA hS (i := I (i + 2)) (I_in ⟨by omega, by omega⟩ (by omega) (by omega)) dL_law_550 ?_
  refine nq_top ea2 ?_
  refine lv_aload_n hx hb dL_law_551 rfl (lv_at hl 1 rfl) ?_
  obtain ⟨fo1, hf2⟩ := hJ.2.2.2.2.1
  refine th_calli (vx_runSW (hh := [(0, 10, 13, 19)]) (As := [.ref x0, .int (I a1), .int (I a2), .ref ou]) (rest := []) ⟨hx, hb, hml, hown, hts⟩ (w_answer l hl0 G y s.heap.size σ E hJ.1 x0 hJ.2.1 m0 hJ.2.2.1 ou hJ.2.2.2.1 fo1 hf2 a1 ra1 a2 ra2) (vx_cwSW 4 hts gv_L_answer_102 rfl rfl rfl (by decide +kernel) ⟨Nat.le_of_ble_eq_true rfl, Nat.le_of_ble_eq_true rfl⟩) (th_PXS hK hXs hS hH) rfl rfl hl.1 rfl (lv_room (Nat.le_of_ble_eq_true rfl)) dL_law_552 ⟨show _ + _ ≤ 601024 by omega, show _ + _ ≤ 7293034 by omega⟩) hS (fun z3 σ5 H locs rz3 hw4 hH hS => ?_)
  obtain ⟨E6, hX7, hO8, hF9, hf10, hw4⟩ := hw4
  have hJ11 := hJ.cls hX7 hO8 hF9 (by decide) hf10 rfl
  have hthJ11 := hJ11.tapm
  have huhJ11 := hJ.tapx
  have hvhJ11 := hJ.tapm
  have m116 := fx.m0 hJ hF9 (by decide) 21
  have rm12 := hJ.row6 hX7 hF9 (by decide)
  have m814 := hJ.row8 hX7 hF9 (by decide)
  have hT13 := hT.cls (Or.inr ⟨hw4.2.1, by omega⟩) rm12
  have hI15 := hI.keep hX7 hJ.2.1 hw4.1.2 hw4.2.2 m116 m814
  replace hw4 := hw4.1
  refine lv_istore (lv' := [(5, .int (I z3)), (4, .int (I i)), (3, .ref ou), (2, .ref m0), (1, .ref x0), (0, .ref b)]) hx hb dL_law_555 hl (by decide) rfl (fun ls hl => ?_)
  refine lv_aload_n hx hb dL_law_557 rfl (lv_at hl 3 rfl) ?_
  refine lv_aload_n hx hb dL_law_558 rfl (lv_at hl 5 rfl) ?_
  refine lv_iload hx hb dL_law_559 (lv_at hl 1 rfl) ?_
  refine lv_iconst (v := I 1) hx hb dL_law_561 (by decide) ?_
  refine lv_iadd hx hb dL_law_562 ?_
  refine nq_top (I_add _ _) ?_
  refine va_sld hx hb hX hbl hbA hS (i := I (i + 1)) (I_in ⟨by omega, by omega⟩ (by omega) (by omega)) dL_law_563 ?_
  refine nq_top ea1 ?_
  refine lv_aload_n hx hb dL_law_564 rfl (lv_at hl 5 rfl) ?_
  refine lv_iload hx hb dL_law_565 (lv_at hl 1 rfl) ?_
  refine lv_iconst (v := I 2) hx hb dL_law_567 (by decide) ?_
  refine lv_iadd hx hb dL_law_568 ?_
  refine nq_top (I_add _ _) ?_
  refine va_sld hx hb hX hbl hbA hS (i := I (i + 2)) (I_in ⟨by omega, by omega⟩ (by omega) (by omega)) dL_law_569 ?_
  refine nq_top ea2 ?_
  obtain ⟨_, hc17⟩ := hJ11.1.cell hJ11.2.2.1 (by decide) (ci := 11) rfl
  refine th_calli (va_runV (As := [.int (I a1), .int (I a2)]) (rest := []) ⟨hx, hb, hml, hown, hts⟩ (j_answer l G y s.heap.size σ5 E6 hJ11.1 m0 hJ11.2.2.1 a1 ra1 a2 ra2 _ rfl _ rfl _ rfl _ rfl _ rfl _ rfl _ rfl _ rfl _ rfl _ rfl _ rfl _ rfl hJ11.jw) (cwV 2 hts gv_X11_answer_104 rfl rfl rfl (by decide +kernel) ⟨Nat.le_of_ble_eq_true rfl, Nat.le_of_ble_eq_true rfl⟩) (th_PV hK hH rfl hc17) rfl rfl hl.1 rfl (lv_room (Nat.le_of_ble_eq_true rfl)) dL_law_570 ⟨show _ + _ ≤ 601024 by omega, show _ + _ ≤ 7293034 by omega⟩) hS (fun z20 σ19 H locs rz20 hw18 hH hS => ?_)
  obtain ⟨hO22, hF23, hM24, hq26, hw18⟩ := hw18
  have hwhJ25 := hJ11.tapm
  have hJ25 := hJ11.ref hO22 hF23 hM24 hq26 (show gI σ19 m0 12 = (gI σ5 x0 1) by omega)
  have rx32 := fr.af hJ11.1 hF23 hJ11.2.1 (by decide) (by decide) k12_0 isA1
  have hchJ25 := fr.ki hJ11.1 hF23 hJ11.2.1 (by decide) (by decide) 1
  have hT33 := hT13.ref rx32 (hM24.a (by decide) (by decide)) hchJ25
  have x230 := fr.ki hJ11.1 hF23 hJ11.2.1 (by decide) (by decide) 2
  have xq31 := fr.aq hJ11.1 hF23 hJ11.2.1 (by decide) (by decide) k12_3
  have m829 : aF σ19 (ad E6 m0 8) = aF σ5 (ad E6 m0 8) := hM24.a (by decide) (by decide)
  have m128 := hM24.i (k := 21) (by decide)
  have hI27 := hI15.keep ext.rf hJ11.2.1 x230 xq31 m128 m829
  refine lv_istore (lv' := [(6, .int (I z20)), (5, .int (I z3)), (4, .int (I i)), (3, .ref ou), (2, .ref m0), (1, .ref x0), (0, .ref b)]) hx hb dL_law_573 hl (by decide) rfl (fun ls hl => ?_)
  refine lv_goto (tgt := 1173) hx hb dL_law_575 (by decide) ?_
  exact kk _ _ _ _ _ _ _ _ hJ25 hI27 hT33 hH hS (lv_sub hl [2, 3, 4, 5, 6] rfl) (by omega) (by omega)

set_option maxHeartbeats 400000 in
set_option maxRecDepth 100000 in
theorem lc_10 {p : Program} {e : Env} {s : State} {m : MethodId} {below : List Frame} {meth : Method} {c : Code} {l : Launch} {b L : Nat} {xs : Nat → Int32} {G : va_G} {y : Nat → ClassId} (hl0 : l.stackTraces = false) (C0 : lw_At p s m meth c b L xs) (hK : nq_K G y s) (hXs : nq_X (th_A s.heap.size) s) {E : th_E} {σ : th_M} {x0 m0 ou : Nat} {t i : Int} (hL : L ≤ 3072) (hi0 : 0 ≤ i) (hi1 : i + 6 ≤ L) (hJ : LJ y E σ x0 m0 ou t t) (hI : F5 E σ x0 m0) (hT : tp E σ x0 m0) {H : Heap} {locs : List Loc} {ls : Array Slot} {cells slots : Nat} (hH : th_H G s.heap.size σ H) (hS : va_S (th_A s.heap.size) s.heap H locs) (hl : lv_has ls 7 [(4, .int (I i)), (3, .ref ou), (2, .ref m0), (1, .ref x0), (0, .ref b)]) (hc0 : cells + 200 ≤ 601024) (hs0 : slots + 9800 ≤ 7293034) {Q : State → Prop} (kk : ∀ (E1 : th_E) (σ1 : th_M) (t1 : Int) (H1 : Heap) (locs1 : List Loc) (ls1 : Array Slot) (k1 n1 : Nat), LJ y E1 σ1 x0 m0 ou t1 t1 → F5 E1 σ1 x0 m0 → tp E1 σ1 x0 m0 → th_H G s.heap.size σ1 H1 → va_S (th_A s.heap.size) s.heap H1 locs1 → lv_has ls1 7 [(4, .int (I i)), (3, .ref ou), (2, .ref m0), (1, .ref x0), (0, .ref b)] → k1 ≤ cells + 200 → n1 ≤ slots + 9800 → W p l e room_1 s m #[Value.ref b] below meth c H1 locs1 k1 n1 Q (F0 m 1173 ls1 [])) : W p l e room_1 s m #[Value.ref b] below meth c H locs cells slots Q (F0 m 578 ls []) := by
  obtain ⟨hx, hb, hr, hml, hown, hts, hX, hbl, hlocks, hgv⟩ := C0
  have hbA : ¬ th_A s.heap.size b := Nat.not_le.mpr hbl
  obtain ⟨a1, ra1, ea1⟩ : ∃ z : Int, rng z ∧ xs (I (i + 1)).toNatClampNeg = I z := ⟨_, rng_toInt _, (I_of _).symm⟩
  obtain ⟨a2, ra2, ea2⟩ : ∃ z : Int, rng z ∧ xs (I (i + 2)).toNatClampNeg = I z := ⟨_, rng_toInt _, (I_of _).symm⟩
  refine lv_aload_n hx hb dL_law_578 rfl (lv_at hl 3 rfl) ?_
  refine lv_aload_n hx hb dL_law_579 rfl (lv_at hl 4 rfl) ?_
  refine lv_iload hx hb dL_law_580 (lv_at hl 0 rfl) ?_
  refine lv_iconst (v := I 1) hx hb dL_law_582 (by decide) ?_
  refine lv_iadd hx hb dL_law_583 ?_
  refine nq_top (I_add _ _) ?_
  refine va_sld hx hb hX hbl hbA hS (i := I (i + 1)) (I_in ⟨by omega, by omega⟩ (by omega) (by omega)) dL_law_584 ?_
  refine nq_top ea1 ?_
  refine lv_aload_n hx hb dL_law_585 rfl (lv_at hl 4 rfl) ?_
  refine lv_iload hx hb dL_law_586 (lv_at hl 0 rfl) ?_
  refine lv_iconst (v := I 2) hx hb dL_law_588 (by decide) ?_
  refine lv_iadd hx hb dL_law_589 ?_
  refine nq_top (I_add _ _) ?_
  refine va_sld hx hb hX hbl hbA hS (i := I (i + 2)) (I_in ⟨by omega, by omega⟩ (by omega) (by omega)) dL_law_590 ?_
  refine nq_top ea2 ?_
  refine lv_aload_n hx hb dL_law_591 rfl (lv_at hl 1 rfl) ?_
  obtain ⟨fo1, hf2⟩ := hJ.2.2.2.2.1
  refine th_calli (vx_runSW (hh := [(0, 10, 13, 19)]) (As := [.ref x0, .int (I a1), .int (I a2), .ref ou]) (rest := []) ⟨hx, hb, hml, hown, hts⟩ (w_steps l hl0 G y s.heap.size σ E hJ.1 x0 hJ.2.1 m0 hJ.2.2.1 ou hJ.2.2.2.1 fo1 hf2 a1 ra1 a2 ra2) (vx_cwSW 4 hts gv_L_steps_105 rfl rfl rfl (by decide +kernel) ⟨Nat.le_of_ble_eq_true rfl, Nat.le_of_ble_eq_true rfl⟩) (th_PXS hK hXs hS hH) rfl rfl hl.1 rfl (lv_room (Nat.le_of_ble_eq_true rfl)) dL_law_592 ⟨show _ + _ ≤ 601024 by omega, show _ + _ ≤ 7293034 by omega⟩) hS (fun z3 σ5 H locs rz3 hw4 hH hS => ?_)
  obtain ⟨E6, hX7, hO8, hF9, hf10, hw4⟩ := hw4
  have hJ11 := hJ.cls hX7 hO8 hF9 (by decide) hf10 rfl
  have hthJ11 := hJ11.tapm
  have huhJ11 := hJ.tapx
  have hvhJ11 := hJ.tapm
  have m116 := fx.m0 hJ hF9 (by decide) 21
  have rm12 := hJ.row6 hX7 hF9 (by decide)
  have m814 := hJ.row8 hX7 hF9 (by decide)
  have hT13 := hT.cls (Or.inr ⟨hw4.2.1, by omega⟩) rm12
  have hI15 := hI.keep hX7 hJ.2.1 hw4.1.2 hw4.2.2 m116 m814
  replace hw4 := hw4.1
  refine lv_istore (lv' := [(5, .int (I z3)), (4, .int (I i)), (3, .ref ou), (2, .ref m0), (1, .ref x0), (0, .ref b)]) hx hb dL_law_595 hl (by decide) rfl (fun ls hl => ?_)
  refine lv_aload_n hx hb dL_law_597 rfl (lv_at hl 3 rfl) ?_
  refine lv_aload_n hx hb dL_law_598 rfl (lv_at hl 5 rfl) ?_
  refine lv_iload hx hb dL_law_599 (lv_at hl 1 rfl) ?_
  refine lv_iconst (v := I 1) hx hb dL_law_601 (by decide) ?_
  refine lv_iadd hx hb dL_law_602 ?_
  refine nq_top (I_add _ _) ?_
  refine va_sld hx hb hX hbl hbA hS (i := I (i + 1)) (I_in ⟨by omega, by omega⟩ (by omega) (by omega)) dL_law_603 ?_
  refine nq_top ea1 ?_
  refine lv_aload_n hx hb dL_law_604 rfl (lv_at hl 5 rfl) ?_
  refine lv_iload hx hb dL_law_605 (lv_at hl 1 rfl) ?_
  refine lv_iconst (v := I 2) hx hb dL_law_607 (by decide) ?_
  refine lv_iadd hx hb dL_law_608 ?_
  refine nq_top (I_add _ _) ?_
  refine va_sld hx hb hX hbl hbA hS (i := I (i + 2)) (I_in ⟨by omega, by omega⟩ (by omega) (by omega)) dL_law_609 ?_
  refine nq_top ea2 ?_
  obtain ⟨_, hc17⟩ := hJ11.1.cell hJ11.2.2.1 (by decide) (ci := 11) rfl
  refine th_calli (va_runV (As := [.int (I a1), .int (I a2)]) (rest := []) ⟨hx, hb, hml, hown, hts⟩ (j_steps l G y s.heap.size σ5 E6 hJ11.1 m0 hJ11.2.2.1 a1 ra1 a2 ra2 _ rfl _ rfl _ rfl _ rfl _ rfl _ rfl _ rfl _ rfl _ rfl _ rfl _ rfl _ rfl hJ11.jw) (cwV 2 hts gv_X11_steps_107 rfl rfl rfl (by decide +kernel) ⟨Nat.le_of_ble_eq_true rfl, Nat.le_of_ble_eq_true rfl⟩) (th_PV hK hH rfl hc17) rfl rfl hl.1 rfl (lv_room (Nat.le_of_ble_eq_true rfl)) dL_law_610 ⟨show _ + _ ≤ 601024 by omega, show _ + _ ≤ 7293034 by omega⟩) hS (fun z20 σ19 H locs rz20 hw18 hH hS => ?_)
  obtain ⟨hO22, hF23, hM24, hq26, hw18⟩ := hw18
  have hwhJ25 := hJ11.tapm
  have hJ25 := hJ11.ref hO22 hF23 hM24 hq26 (show gI σ19 m0 12 = (gI σ5 x0 1) by omega)
  have rx32 := fr.af hJ11.1 hF23 hJ11.2.1 (by decide) (by decide) k12_0 isA1
  have hchJ25 := fr.ki hJ11.1 hF23 hJ11.2.1 (by decide) (by decide) 1
  have hT33 := hT13.ref rx32 (hM24.a (by decide) (by decide)) hchJ25
  have x230 := fr.ki hJ11.1 hF23 hJ11.2.1 (by decide) (by decide) 2
  have xq31 := fr.aq hJ11.1 hF23 hJ11.2.1 (by decide) (by decide) k12_3
  have m829 : aF σ19 (ad E6 m0 8) = aF σ5 (ad E6 m0 8) := hM24.a (by decide) (by decide)
  have m128 := hM24.i (k := 21) (by decide)
  have hI27 := hI15.keep ext.rf hJ11.2.1 x230 xq31 m128 m829
  refine lv_istore (lv' := [(6, .int (I z20)), (5, .int (I z3)), (4, .int (I i)), (3, .ref ou), (2, .ref m0), (1, .ref x0), (0, .ref b)]) hx hb dL_law_613 hl (by decide) rfl (fun ls hl => ?_)
  refine lv_goto (tgt := 1173) hx hb dL_law_615 (by decide) ?_
  exact kk _ _ _ _ _ _ _ _ hJ25 hI27 hT33 hH hS (lv_sub hl [2, 3, 4, 5, 6] rfl) (by omega) (by omega)

set_option maxHeartbeats 400000 in
set_option maxRecDepth 100000 in
theorem lc_11 {p : Program} {e : Env} {s : State} {m : MethodId} {below : List Frame} {meth : Method} {c : Code} {l : Launch} {b L : Nat} {xs : Nat → Int32} {G : va_G} {y : Nat → ClassId} (hl0 : l.stackTraces = false) (C0 : lw_At p s m meth c b L xs) (hK : nq_K G y s) (hXs : nq_X (th_A s.heap.size) s) {E : th_E} {σ : th_M} {x0 m0 ou : Nat} {t i : Int} (hL : L ≤ 3072) (hi0 : 0 ≤ i) (hi1 : i + 6 ≤ L) (hJ : LJ y E σ x0 m0 ou t t) (hI : F5 E σ x0 m0) (hT : tp E σ x0 m0) {H : Heap} {locs : List Loc} {ls : Array Slot} {cells slots : Nat} (hH : th_H G s.heap.size σ H) (hS : va_S (th_A s.heap.size) s.heap H locs) (hl : lv_has ls 7 [(4, .int (I i)), (3, .ref ou), (2, .ref m0), (1, .ref x0), (0, .ref b)]) (hc0 : cells + 200 ≤ 601024) (hs0 : slots + 9800 ≤ 7293034) {Q : State → Prop} (kk : ∀ (E1 : th_E) (σ1 : th_M) (t1 : Int) (H1 : Heap) (locs1 : List Loc) (ls1 : Array Slot) (k1 n1 : Nat), LJ y E1 σ1 x0 m0 ou t1 t1 → F5 E1 σ1 x0 m0 → tp E1 σ1 x0 m0 → th_H G s.heap.size σ1 H1 → va_S (th_A s.heap.size) s.heap H1 locs1 → lv_has ls1 7 [(4, .int (I i)), (3, .ref ou), (2, .ref m0), (1, .ref x0), (0, .ref b)] → k1 ≤ cells + 200 → n1 ≤ slots + 9800 → W p l e room_1 s m #[Value.ref b] below meth c H1 locs1 k1 n1 Q (F0 m 1173 ls1 [])) : W p l e room_1 s m #[Value.ref b] below meth c H locs cells slots Q (F0 m 618 ls []) := by
  obtain ⟨hx, hb, hr, hml, hown, hts, hX, hbl, hlocks, hgv⟩ := C0
  have hbA : ¬ th_A s.heap.size b := Nat.not_le.mpr hbl
  obtain ⟨a1, ra1, ea1⟩ : ∃ z : Int, rng z ∧ xs (I (i + 1)).toNatClampNeg = I z := ⟨_, rng_toInt _, (I_of _).symm⟩
  obtain ⟨a2, ra2, ea2⟩ : ∃ z : Int, rng z ∧ xs (I (i + 2)).toNatClampNeg = I z := ⟨_, rng_toInt _, (I_of _).symm⟩
  refine lv_aload_n hx hb dL_law_618 rfl (lv_at hl 3 rfl) ?_
  refine lv_aload_n hx hb dL_law_619 rfl (lv_at hl 4 rfl) ?_
  refine lv_iload hx hb dL_law_620 (lv_at hl 0 rfl) ?_
  refine lv_iconst (v := I 1) hx hb dL_law_622 (by decide) ?_
  refine lv_iadd hx hb dL_law_623 ?_
  refine nq_top (I_add _ _) ?_
  refine va_sld hx hb hX hbl hbA hS (i := I (i + 1)) (I_in ⟨by omega, by omega⟩ (by omega) (by omega)) dL_law_624 ?_
  refine nq_top ea1 ?_
  refine lv_aload_n hx hb dL_law_625 rfl (lv_at hl 4 rfl) ?_
  refine lv_iload hx hb dL_law_626 (lv_at hl 0 rfl) ?_
  refine lv_iconst (v := I 2) hx hb dL_law_628 (by decide) ?_
  refine lv_iadd hx hb dL_law_629 ?_
  refine nq_top (I_add _ _) ?_
  refine va_sld hx hb hX hbl hbA hS (i := I (i + 2)) (I_in ⟨by omega, by omega⟩ (by omega) (by omega)) dL_law_630 ?_
  refine nq_top ea2 ?_
  refine lv_aload_n hx hb dL_law_631 rfl (lv_at hl 1 rfl) ?_
  obtain ⟨fo1, hf2⟩ := hJ.2.2.2.2.1
  refine th_calli (vx_runSW (hh := [(0, 10, 13, 19)]) (As := [.ref x0, .int (I a1), .int (I a2), .ref ou]) (rest := []) ⟨hx, hb, hml, hown, hts⟩ (w_row l hl0 G y s.heap.size σ E hJ.1 x0 hJ.2.1 m0 hJ.2.2.1 ou hJ.2.2.2.1 fo1 hf2 a1 ra1 a2 ra2) (vx_cwSW 4 hts gv_L_row_108 rfl rfl rfl (by decide +kernel) ⟨Nat.le_of_ble_eq_true rfl, Nat.le_of_ble_eq_true rfl⟩) (th_PXS hK hXs hS hH) rfl rfl hl.1 rfl (lv_room (Nat.le_of_ble_eq_true rfl)) dL_law_632 ⟨show _ + _ ≤ 601024 by omega, show _ + _ ≤ 7293034 by omega⟩) hS (fun z3 σ5 H locs rz3 hw4 hH hS => ?_)
  obtain ⟨E6, hX7, hO8, hF9, hf10, hw4⟩ := hw4
  have hJ11 := hJ.cls hX7 hO8 hF9 (by decide) hf10 rfl
  have hthJ11 := hJ11.tapm
  have huhJ11 := hJ.tapx
  have hvhJ11 := hJ.tapm
  have m116 := fx.m0 hJ hF9 (by decide) 21
  have rm12 := hJ.row6 hX7 hF9 (by decide)
  have m814 := hJ.row8 hX7 hF9 (by decide)
  have hT13 := hT.cls (Or.inr ⟨hw4.2.1, by omega⟩) rm12
  have hI15 := hI.keep hX7 hJ.2.1 hw4.1.2 hw4.2.2 m116 m814
  replace hw4 := hw4.1
  refine lv_istore (lv' := [(5, .int (I z3)), (4, .int (I i)), (3, .ref ou), (2, .ref m0), (1, .ref x0), (0, .ref b)]) hx hb dL_law_635 hl (by decide) rfl (fun ls hl => ?_)
  refine lv_aload_n hx hb dL_law_637 rfl (lv_at hl 3 rfl) ?_
  refine lv_aload_n hx hb dL_law_638 rfl (lv_at hl 5 rfl) ?_
  refine lv_iload hx hb dL_law_639 (lv_at hl 1 rfl) ?_
  refine lv_iconst (v := I 1) hx hb dL_law_641 (by decide) ?_
  refine lv_iadd hx hb dL_law_642 ?_
  refine nq_top (I_add _ _) ?_
  refine va_sld hx hb hX hbl hbA hS (i := I (i + 1)) (I_in ⟨by omega, by omega⟩ (by omega) (by omega)) dL_law_643 ?_
  refine nq_top ea1 ?_
  refine lv_aload_n hx hb dL_law_644 rfl (lv_at hl 5 rfl) ?_
  refine lv_iload hx hb dL_law_645 (lv_at hl 1 rfl) ?_
  refine lv_iconst (v := I 2) hx hb dL_law_647 (by decide) ?_
  refine lv_iadd hx hb dL_law_648 ?_
  refine nq_top (I_add _ _) ?_
  refine va_sld hx hb hX hbl hbA hS (i := I (i + 2)) (I_in ⟨by omega, by omega⟩ (by omega) (by omega)) dL_law_649 ?_
  refine nq_top ea2 ?_
  obtain ⟨_, hc17⟩ := hJ11.1.cell hJ11.2.2.1 (by decide) (ci := 11) rfl
  refine th_calli (va_runV (As := [.int (I a1), .int (I a2)]) (rest := []) ⟨hx, hb, hml, hown, hts⟩ (j_row l G y s.heap.size σ5 E6 hJ11.1 m0 hJ11.2.2.1 a1 ra1 a2 ra2 _ rfl _ rfl _ rfl _ rfl _ rfl _ rfl _ rfl _ rfl _ rfl _ rfl _ rfl hJ11.jw) (cwV 2 hts gv_X11_row_110 rfl rfl rfl (by decide +kernel) ⟨Nat.le_of_ble_eq_true rfl, Nat.le_of_ble_eq_true rfl⟩) (th_PV hK hH rfl hc17) rfl rfl hl.1 rfl (lv_room (Nat.le_of_ble_eq_true rfl)) dL_law_650 ⟨show _ + _ ≤ 601024 by omega, show _ + _ ≤ 7293034 by omega⟩) hS (fun z20 σ19 H locs rz20 hw18 hH hS => ?_)
  obtain ⟨hO22, hF23, hM24, hq26, hw18⟩ := hw18
  have hwhJ25 := hJ11.tapm
  have hJ25 := hJ11.ref hO22 hF23 hM24 hq26 (show gI σ19 m0 12 = (gI σ5 x0 1) by omega)
  have rx32 := fr.af hJ11.1 hF23 hJ11.2.1 (by decide) (by decide) k12_0 isA1
  have hchJ25 := fr.ki hJ11.1 hF23 hJ11.2.1 (by decide) (by decide) 1
  have hT33 := hT13.ref rx32 (hM24.a (by decide) (by decide)) hchJ25
  have x230 := fr.ki hJ11.1 hF23 hJ11.2.1 (by decide) (by decide) 2
  have xq31 := fr.aq hJ11.1 hF23 hJ11.2.1 (by decide) (by decide) k12_3
  have m829 : aF σ19 (ad E6 m0 8) = aF σ5 (ad E6 m0 8) := hM24.a (by decide) (by decide)
  have m128 := hM24.i (k := 21) (by decide)
  have hI27 := hI15.keep ext.rf hJ11.2.1 x230 xq31 m128 m829
  refine lv_istore (lv' := [(6, .int (I z20)), (5, .int (I z3)), (4, .int (I i)), (3, .ref ou), (2, .ref m0), (1, .ref x0), (0, .ref b)]) hx hb dL_law_653 hl (by decide) rfl (fun ls hl => ?_)
  refine lv_goto (tgt := 1173) hx hb dL_law_655 (by decide) ?_
  exact kk _ _ _ _ _ _ _ _ hJ25 hI27 hT33 hH hS (lv_sub hl [2, 3, 4, 5, 6] rfl) (by omega) (by omega)

set_option maxHeartbeats 400000 in
set_option maxRecDepth 100000 in
theorem lc_12 {p : Program} {e : Env} {s : State} {m : MethodId} {below : List Frame} {meth : Method} {c : Code} {l : Launch} {b L : Nat} {xs : Nat → Int32} {G : va_G} {y : Nat → ClassId} (hl0 : l.stackTraces = false) (C0 : lw_At p s m meth c b L xs) (hK : nq_K G y s) (hXs : nq_X (th_A s.heap.size) s) {E : th_E} {σ : th_M} {x0 m0 ou : Nat} {t i : Int} (hL : L ≤ 3072) (hi0 : 0 ≤ i) (hi1 : i + 6 ≤ L) (hJ : LJ y E σ x0 m0 ou t t) (hI : F5 E σ x0 m0) (hT : tp E σ x0 m0) {H : Heap} {locs : List Loc} {ls : Array Slot} {cells slots : Nat} (hH : th_H G s.heap.size σ H) (hS : va_S (th_A s.heap.size) s.heap H locs) (hl : lv_has ls 7 [(4, .int (I i)), (3, .ref ou), (2, .ref m0), (1, .ref x0), (0, .ref b)]) (hc0 : cells + 200 ≤ 601024) (hs0 : slots + 9800 ≤ 7293034) {Q : State → Prop} (kk : ∀ (E1 : th_E) (σ1 : th_M) (t1 : Int) (H1 : Heap) (locs1 : List Loc) (ls1 : Array Slot) (k1 n1 : Nat), LJ y E1 σ1 x0 m0 ou t1 t1 → F5 E1 σ1 x0 m0 → tp E1 σ1 x0 m0 → th_H G s.heap.size σ1 H1 → va_S (th_A s.heap.size) s.heap H1 locs1 → lv_has ls1 7 [(4, .int (I i)), (3, .ref ou), (2, .ref m0), (1, .ref x0), (0, .ref b)] → k1 ≤ cells + 200 → n1 ≤ slots + 9800 → W p l e room_1 s m #[Value.ref b] below meth c H1 locs1 k1 n1 Q (F0 m 1173 ls1 [])) : W p l e room_1 s m #[Value.ref b] below meth c H locs cells slots Q (F0 m 658 ls []) := by
  obtain ⟨hx, hb, hr, hml, hown, hts, hX, hbl, hlocks, hgv⟩ := C0
  have hbA : ¬ th_A s.heap.size b := Nat.not_le.mpr hbl
  obtain ⟨a1, ra1, ea1⟩ : ∃ z : Int, rng z ∧ xs (I (i + 1)).toNatClampNeg = I z := ⟨_, rng_toInt _, (I_of _).symm⟩
  obtain ⟨a2, ra2, ea2⟩ : ∃ z : Int, rng z ∧ xs (I (i + 2)).toNatClampNeg = I z := ⟨_, rng_toInt _, (I_of _).symm⟩
  refine lv_aload_n hx hb dL_law_658 rfl (lv_at hl 3 rfl) ?_
  refine lv_aload_n hx hb dL_law_659 rfl (lv_at hl 4 rfl) ?_
  refine lv_iload hx hb dL_law_660 (lv_at hl 0 rfl) ?_
  refine lv_iconst (v := I 1) hx hb dL_law_662 (by decide) ?_
  refine lv_iadd hx hb dL_law_663 ?_
  refine nq_top (I_add _ _) ?_
  refine va_sld hx hb hX hbl hbA hS (i := I (i + 1)) (I_in ⟨by omega, by omega⟩ (by omega) (by omega)) dL_law_664 ?_
  refine nq_top ea1 ?_
  refine lv_aload_n hx hb dL_law_665 rfl (lv_at hl 4 rfl) ?_
  refine lv_iload hx hb dL_law_666 (lv_at hl 0 rfl) ?_
  refine lv_iconst (v := I 2) hx hb dL_law_668 (by decide) ?_
  refine lv_iadd hx hb dL_law_669 ?_
  refine nq_top (I_add _ _) ?_
  refine va_sld hx hb hX hbl hbA hS (i := I (i + 2)) (I_in ⟨by omega, by omega⟩ (by omega) (by omega)) dL_law_670 ?_
  refine nq_top ea2 ?_
  refine lv_aload_n hx hb dL_law_671 rfl (lv_at hl 1 rfl) ?_
  obtain ⟨fo1, hf2⟩ := hJ.2.2.2.2.1
  refine th_calli (vx_runSW (hh := [(0, 10, 13, 19)]) (As := [.ref x0, .int (I a1), .int (I a2), .ref ou]) (rest := []) ⟨hx, hb, hml, hown, hts⟩ (w_rowText l hl0 G y s.heap.size σ E hJ.1 x0 hJ.2.1 m0 hJ.2.2.1 ou hJ.2.2.2.1 fo1 hf2 a1 ra1 a2 ra2) (vx_cwSW 4 hts gv_L_rowText_111 rfl rfl rfl (by decide +kernel) ⟨Nat.le_of_ble_eq_true rfl, Nat.le_of_ble_eq_true rfl⟩) (th_PXS hK hXs hS hH) rfl rfl hl.1 rfl (lv_room (Nat.le_of_ble_eq_true rfl)) dL_law_672 ⟨show _ + _ ≤ 601024 by omega, show _ + _ ≤ 7293034 by omega⟩) hS (fun z3 σ5 H locs rz3 hw4 hH hS => ?_)
  obtain ⟨E6, hX7, hO8, hF9, hf10, hw4⟩ := hw4
  have hJ11 := hJ.cls hX7 hO8 hF9 (by decide) hf10 rfl
  have hthJ11 := hJ11.tapm
  have huhJ11 := hJ.tapx
  have hvhJ11 := hJ.tapm
  have m116 := fx.m0 hJ hF9 (by decide) 21
  have rm12 := hJ.row6 hX7 hF9 (by decide)
  have m814 := hJ.row8 hX7 hF9 (by decide)
  have hT13 := hT.cls (Or.inr ⟨hw4.2.1, by omega⟩) rm12
  have hI15 := hI.keep hX7 hJ.2.1 hw4.1.2 hw4.2.2 m116 m814
  replace hw4 := hw4.1
  refine lv_istore (lv' := [(5, .int (I z3)), (4, .int (I i)), (3, .ref ou), (2, .ref m0), (1, .ref x0), (0, .ref b)]) hx hb dL_law_675 hl (by decide) rfl (fun ls hl => ?_)
  refine lv_aload_n hx hb dL_law_677 rfl (lv_at hl 3 rfl) ?_
  refine lv_aload_n hx hb dL_law_678 rfl (lv_at hl 5 rfl) ?_
  refine lv_iload hx hb dL_law_679 (lv_at hl 1 rfl) ?_
  refine lv_iconst (v := I 1) hx hb dL_law_681 (by decide) ?_
  refine lv_iadd hx hb dL_law_682 ?_
  refine nq_top (I_add _ _) ?_
  refine va_sld hx hb hX hbl hbA hS (i := I (i + 1)) (I_in ⟨by omega, by omega⟩ (by omega) (by omega)) dL_law_683 ?_
  refine nq_top ea1 ?_
  refine lv_aload_n hx hb dL_law_684 rfl (lv_at hl 5 rfl) ?_
  refine lv_iload hx hb dL_law_685 (lv_at hl 1 rfl) ?_
  refine lv_iconst (v := I 2) hx hb dL_law_687 (by decide) ?_
  refine lv_iadd hx hb dL_law_688 ?_
  refine nq_top (I_add _ _) ?_
  refine va_sld hx hb hX hbl hbA hS (i := I (i + 2)) (I_in ⟨by omega, by omega⟩ (by omega) (by omega)) dL_law_689 ?_
  refine nq_top ea2 ?_
  obtain ⟨_, hc17⟩ := hJ11.1.cell hJ11.2.2.1 (by decide) (ci := 11) rfl
  refine th_calli (va_runV (As := [.int (I a1), .int (I a2)]) (rest := []) ⟨hx, hb, hml, hown, hts⟩ (j_rowText l G y s.heap.size σ5 E6 hJ11.1 m0 hJ11.2.2.1 a1 ra1 a2 ra2 _ rfl _ rfl _ rfl _ rfl _ rfl _ rfl _ rfl _ rfl _ rfl _ rfl _ rfl hJ11.jw) (cwV 2 hts gv_X11_rowText_113 rfl rfl rfl (by decide +kernel) ⟨Nat.le_of_ble_eq_true rfl, Nat.le_of_ble_eq_true rfl⟩) (th_PV hK hH rfl hc17) rfl rfl hl.1 rfl (lv_room (Nat.le_of_ble_eq_true rfl)) dL_law_690 ⟨show _ + _ ≤ 601024 by omega, show _ + _ ≤ 7293034 by omega⟩) hS (fun z20 σ19 H locs rz20 hw18 hH hS => ?_)
  obtain ⟨hO22, hF23, hM24, hq26, hw18⟩ := hw18
  have hwhJ25 := hJ11.tapm
  have hJ25 := hJ11.ref hO22 hF23 hM24 hq26 (show gI σ19 m0 12 = (gI σ5 x0 1) by omega)
  have rx32 := fr.af hJ11.1 hF23 hJ11.2.1 (by decide) (by decide) k12_0 isA1
  have hchJ25 := fr.ki hJ11.1 hF23 hJ11.2.1 (by decide) (by decide) 1
  have hT33 := hT13.ref rx32 (hM24.a (by decide) (by decide)) hchJ25
  have x230 := fr.ki hJ11.1 hF23 hJ11.2.1 (by decide) (by decide) 2
  have xq31 := fr.aq hJ11.1 hF23 hJ11.2.1 (by decide) (by decide) k12_3
  have m829 : aF σ19 (ad E6 m0 8) = aF σ5 (ad E6 m0 8) := hM24.a (by decide) (by decide)
  have m128 := hM24.i (k := 21) (by decide)
  have hI27 := hI15.keep ext.rf hJ11.2.1 x230 xq31 m128 m829
  refine lv_istore (lv' := [(6, .int (I z20)), (5, .int (I z3)), (4, .int (I i)), (3, .ref ou), (2, .ref m0), (1, .ref x0), (0, .ref b)]) hx hb dL_law_693 hl (by decide) rfl (fun ls hl => ?_)
  refine lv_goto (tgt := 1173) hx hb dL_law_695 (by decide) ?_
  exact kk _ _ _ _ _ _ _ _ hJ25 hI27 hT33 hH hS (lv_sub hl [2, 3, 4, 5, 6] rfl) (by omega) (by omega)

set_option maxHeartbeats 400000 in
set_option maxRecDepth 100000 in
theorem lc_13 {p : Program} {e : Env} {s : State} {m : MethodId} {below : List Frame} {meth : Method} {c : Code} {l : Launch} {b L : Nat} {xs : Nat → Int32} {G : va_G} {y : Nat → ClassId} (hl0 : l.stackTraces = false) (C0 : lw_At p s m meth c b L xs) (hK : nq_K G y s) (hXs : nq_X (th_A s.heap.size) s) {E : th_E} {σ : th_M} {x0 m0 ou : Nat} {t i : Int} (hL : L ≤ 3072) (hi0 : 0 ≤ i) (hi1 : i + 6 ≤ L) (hJ : LJ y E σ x0 m0 ou t t) (hI : F5 E σ x0 m0) (hT : tp E σ x0 m0) {H : Heap} {locs : List Loc} {ls : Array Slot} {cells slots : Nat} (hH : th_H G s.heap.size σ H) (hS : va_S (th_A s.heap.size) s.heap H locs) (hl : lv_has ls 7 [(4, .int (I i)), (3, .ref ou), (2, .ref m0), (1, .ref x0), (0, .ref b)]) (hc0 : cells + 200 ≤ 601024) (hs0 : slots + 9800 ≤ 7293034) {Q : State → Prop} (kk : ∀ (E1 : th_E) (σ1 : th_M) (t1 : Int) (H1 : Heap) (locs1 : List Loc) (ls1 : Array Slot) (k1 n1 : Nat), LJ y E1 σ1 x0 m0 ou t1 t1 → F5 E1 σ1 x0 m0 → tp E1 σ1 x0 m0 → th_H G s.heap.size σ1 H1 → va_S (th_A s.heap.size) s.heap H1 locs1 → lv_has ls1 7 [(4, .int (I i)), (3, .ref ou), (2, .ref m0), (1, .ref x0), (0, .ref b)] → k1 ≤ cells + 200 → n1 ≤ slots + 9800 → W p l e room_1 s m #[Value.ref b] below meth c H1 locs1 k1 n1 Q (F0 m 1173 ls1 [])) : W p l e room_1 s m #[Value.ref b] below meth c H locs cells slots Q (F0 m 698 ls []) := by
  obtain ⟨hx, hb, hr, hml, hown, hts, hX, hbl, hlocks, hgv⟩ := C0
  have hbA : ¬ th_A s.heap.size b := Nat.not_le.mpr hbl
  obtain ⟨a1, ra1, ea1⟩ : ∃ z : Int, rng z ∧ xs (I (i + 1)).toNatClampNeg = I z := ⟨_, rng_toInt _, (I_of _).symm⟩
  obtain ⟨a2, ra2, ea2⟩ : ∃ z : Int, rng z ∧ xs (I (i + 2)).toNatClampNeg = I z := ⟨_, rng_toInt _, (I_of _).symm⟩
  refine lv_aload_n hx hb dL_law_698 rfl (lv_at hl 3 rfl) ?_
  refine lv_aload_n hx hb dL_law_699 rfl (lv_at hl 4 rfl) ?_
  refine lv_iload hx hb dL_law_700 (lv_at hl 0 rfl) ?_
  refine lv_iconst (v := I 1) hx hb dL_law_702 (by decide) ?_
  refine lv_iadd hx hb dL_law_703 ?_
  refine nq_top (I_add _ _) ?_
  refine va_sld hx hb hX hbl hbA hS (i := I (i + 1)) (I_in ⟨by omega, by omega⟩ (by omega) (by omega)) dL_law_704 ?_
  refine nq_top ea1 ?_
  refine lv_aload_n hx hb dL_law_705 rfl (lv_at hl 4 rfl) ?_
  refine lv_iload hx hb dL_law_706 (lv_at hl 0 rfl) ?_
  refine lv_iconst (v := I 2) hx hb dL_law_708 (by decide) ?_
  refine lv_iadd hx hb dL_law_709 ?_
  refine nq_top (I_add _ _) ?_
  refine va_sld hx hb hX hbl hbA hS (i := I (i + 2)) (I_in ⟨by omega, by omega⟩ (by omega) (by omega)) dL_law_710 ?_
  refine nq_top ea2 ?_
  refine lv_aload_n hx hb dL_law_711 rfl (lv_at hl 1 rfl) ?_
  obtain ⟨fo1, hf2⟩ := hJ.2.2.2.2.1
  refine th_calli (vx_runSW (hh := [(0, 10, 13, 13)]) (As := [.ref x0, .int (I a1), .int (I a2), .ref ou]) (rest := []) ⟨hx, hb, hml, hown, hts⟩ (w_put l hl0 G y s.heap.size σ E hJ.1 x0 hJ.2.1 m0 hJ.2.2.1 ou hJ.2.2.2.1 fo1 hf2 a1 ra1 a2 ra2 hT.byt hI.2.2.2.1) (vx_cwSW 4 hts gv_L_put_114 rfl rfl rfl (by decide +kernel) ⟨Nat.le_of_ble_eq_true rfl, Nat.le_of_ble_eq_true rfl⟩) (th_PXS hK hXs hS hH) rfl rfl hl.1 rfl (lv_room (Nat.le_of_ble_eq_true rfl)) dL_law_712 ⟨show _ + _ ≤ 601024 by omega, show _ + _ ≤ 7293034 by omega⟩) hS (fun z3 σ5 H locs rz3 hw4 hH hS => ?_)
  obtain ⟨E6, hX7, hO8, hF9, hf10, hw4⟩ := hw4
  have hJ11 := hJ.cls hX7 hO8 hF9 (by decide) hf10 rfl
  have hthJ11 := hJ11.tapm
  have huhJ11 := hJ.tapx
  have hvhJ11 := hJ.tapm
  have m116 := fx.m0 hJ hF9 (by decide) 21
  have rm12 := hJ.row6 hX7 hF9 (by decide)
  have m814 := hJ.row8 hX7 hF9 (by decide)
  have hT13 := hT.cls hw4.rq rm12
  have hc7 := hw4.c
  have hps := hI.at (i := a1) m814
  rcases hw4.road with ⟨⟨h9p, h9s⟩, T, v7, p7, q71, q72, q73⟩ | ⟨h9p, q71, q72⟩
  · clear hw4
    refine lv_istore (lv' := [(5, .int (I z3)), (4, .int (I i)), (3, .ref ou), (2, .ref m0), (1, .ref x0), (0, .ref b)]) hx hb dL_law_715 hl (by decide) rfl (fun ls hl => ?_)
    refine lv_aload_n hx hb dL_law_717 rfl (lv_at hl 3 rfl) ?_
    refine lv_aload_n hx hb dL_law_718 rfl (lv_at hl 5 rfl) ?_
    refine lv_iload hx hb dL_law_719 (lv_at hl 1 rfl) ?_
    refine lv_iconst (v := I 1) hx hb dL_law_721 (by decide) ?_
    refine lv_iadd hx hb dL_law_722 ?_
    refine nq_top (I_add _ _) ?_
    refine va_sld hx hb hX hbl hbA hS (i := I (i + 1)) (I_in ⟨by omega, by omega⟩ (by omega) (by omega)) dL_law_723 ?_
    refine nq_top ea1 ?_
    refine lv_aload_n hx hb dL_law_724 rfl (lv_at hl 5 rfl) ?_
    refine lv_iload hx hb dL_law_725 (lv_at hl 1 rfl) ?_
    refine lv_iconst (v := I 2) hx hb dL_law_727 (by decide) ?_
    refine lv_iadd hx hb dL_law_728 ?_
    refine nq_top (I_add _ _) ?_
    refine va_sld hx hb hX hbl hbA hS (i := I (i + 2)) (I_in ⟨by omega, by omega⟩ (by omega) (by omega)) dL_law_729 ?_
    refine nq_top ea2 ?_
    obtain ⟨_, hc17⟩ := hJ11.1.cell hJ11.2.2.1 (by decide) (ci := 11) rfl
    refine th_calli (va_runV (As := [.int (I a1), .int (I a2)]) (rest := []) ⟨hx, hb, hml, hown, hts⟩ (j9_put l G y s.heap.size σ5 E6 hJ11.1 m0 hJ11.2.2.1 a1 ra1 a2 ra2 _ rfl _ rfl _ rfl _ rfl _ rfl _ rfl _ rfl _ rfl _ rfl _ rfl _ rfl _ rfl _ rfl _ rfl _ rfl _ rfl T (fun h9 => by rw [rm12, hT.byf (by omega)]; exact q71) hJ11.jw) (cwV 2 hts gv_X11_put_116 rfl rfl rfl (by decide +kernel) ⟨Nat.le_of_ble_eq_true rfl, Nat.le_of_ble_eq_true rfl⟩) (th_PV hK hH rfl hc17) rfl rfl hl.1 rfl (lv_room (Nat.le_of_ble_eq_true rfl)) dL_law_730 ⟨show _ + _ ≤ 601024 by omega, show _ + _ ≤ 7293034 by omega⟩) hS (fun z20 σ19 H locs rz20 hw18 hH hS => ?_)
    obtain ⟨hO22, hF23, hM24, ⟨hq26, hw18⟩, hw32⟩ := hw18
    replace hw32 := hid.mk hw32
    have hwhJ25 := hJ11.tapm
    have hJ25 := hJ11.ref hO22 hF23 hM24 hq26 (show gI σ19 m0 12 = (gI σ5 x0 1) by omega)
    have rx33 := fr.af hJ11.1 hF23 hJ11.2.1 (by decide) (by decide) k12_0 isA1
    have hchJ25 := fr.ki hJ11.1 hF23 hJ11.2.1 (by decide) (by decide) 1
    have hT34 := hT13.ref rx33 (hM24.a (by decide) (by decide)) hchJ25
    have x230 := fr.ki hJ11.1 hF23 hJ11.2.1 (by decide) (by decide) 2
    have xq31 := fr.aq hJ11.1 hF23 hJ11.2.1 (by decide) (by decide) k12_3
    have m829 : aF σ19 (ad E6 m0 8) = aF σ5 (ad E6 m0 8) := hM24.a (by decide) (by decide)
    obtain ⟨r8, q81⟩ := ((hid.out hw32).1 (by omega)).1 (hps.mp h9s)
    have q83 := (q81.det q72.1).2
    have m128 : gI σ19 x0 2 = gI σ19 m0 21 := by omega
    have hI27 : F5 E6 σ19 x0 m0 := hI.go hX7 hJ.2.1 m128 (by rw [xq31, m829, q72.2, m814]; exact hI.2.1)
    refine lv_istore (lv' := [(6, .int (I z20)), (5, .int (I z3)), (4, .int (I i)), (3, .ref ou), (2, .ref m0), (1, .ref x0), (0, .ref b)]) hx hb dL_law_733 hl (by decide) rfl (fun ls hl => ?_)
    refine lv_goto (tgt := 1173) hx hb dL_law_735 (by decide) ?_
    exact kk _ _ _ _ _ _ _ _ hJ25 hI27 hT34 hH hS (lv_sub hl [2, 3, 4, 5, 6] rfl) (by omega) (by omega)
  · clear hw4
    refine lv_istore (lv' := [(5, .int (I z3)), (4, .int (I i)), (3, .ref ou), (2, .ref m0), (1, .ref x0), (0, .ref b)]) hx hb dL_law_715 hl (by decide) rfl (fun ls hl => ?_)
    refine lv_aload_n hx hb dL_law_717 rfl (lv_at hl 3 rfl) ?_
    refine lv_aload_n hx hb dL_law_718 rfl (lv_at hl 5 rfl) ?_
    refine lv_iload hx hb dL_law_719 (lv_at hl 1 rfl) ?_
    refine lv_iconst (v := I 1) hx hb dL_law_721 (by decide) ?_
    refine lv_iadd hx hb dL_law_722 ?_
    refine nq_top (I_add _ _) ?_
    refine va_sld hx hb hX hbl hbA hS (i := I (i + 1)) (I_in ⟨by omega, by omega⟩ (by omega) (by omega)) dL_law_723 ?_
    refine nq_top ea1 ?_
    refine lv_aload_n hx hb dL_law_724 rfl (lv_at hl 5 rfl) ?_
    refine lv_iload hx hb dL_law_725 (lv_at hl 1 rfl) ?_
    refine lv_iconst (v := I 2) hx hb dL_law_727 (by decide) ?_
    refine lv_iadd hx hb dL_law_728 ?_
    refine nq_top (I_add _ _) ?_
    refine va_sld hx hb hX hbl hbA hS (i := I (i + 2)) (I_in ⟨by omega, by omega⟩ (by omega) (by omega)) dL_law_729 ?_
    refine nq_top ea2 ?_
    obtain ⟨_, hc35⟩ := hJ11.1.cell hJ11.2.2.1 (by decide) (ci := 11) rfl
    refine th_calli (va_runV (As := [.int (I a1), .int (I a2)]) (rest := []) ⟨hx, hb, hml, hown, hts⟩ (j9_put l G y s.heap.size σ5 E6 hJ11.1 m0 hJ11.2.2.1 a1 ra1 a2 ra2 _ rfl _ rfl _ rfl _ rfl _ rfl _ rfl _ rfl _ rfl _ rfl _ rfl _ rfl _ rfl _ rfl _ rfl _ rfl _ rfl ((fun _ => 0, fun _ => 0, fun _ => 0, fun _ => 0, 0) : tkT) (fun h9 => by have h8 := h9.1; exact absurd ⟨by omega, hps.mpr h9.2⟩ h9p) hJ11.jw) (cwV 2 hts gv_X11_put_116 rfl rfl rfl (by decide +kernel) ⟨Nat.le_of_ble_eq_true rfl, Nat.le_of_ble_eq_true rfl⟩) (th_PV hK hH rfl hc35) rfl rfl hl.1 rfl (lv_room (Nat.le_of_ble_eq_true rfl)) dL_law_730 ⟨show _ + _ ≤ 601024 by omega, show _ + _ ≤ 7293034 by omega⟩) hS (fun z38 σ37 H locs rz38 hw36 hH hS => ?_)
    obtain ⟨hO40, hF41, hM42, ⟨hq44, hw36⟩, hw50⟩ := hw36
    replace hw50 := hid.mk hw50
    have hwhJ43 := hJ11.tapm
    have hJ43 := hJ11.ref hO40 hF41 hM42 hq44 (show gI σ37 m0 12 = (gI σ5 x0 1) by omega)
    have rx51 := fr.af hJ11.1 hF41 hJ11.2.1 (by decide) (by decide) k12_0 isA1
    have hchJ43 := fr.ki hJ11.1 hF41 hJ11.2.1 (by decide) (by decide) 1
    have hT52 := hT13.ref rx51 (hM42.a (by decide) (by decide)) hchJ43
    have x248 := fr.ki hJ11.1 hF41 hJ11.2.1 (by decide) (by decide) 2
    have xq49 := fr.aq hJ11.1 hF41 hJ11.2.1 (by decide) (by decide) k12_3
    have m847 : aF σ37 (ad E6 m0 8) = aF σ5 (ad E6 m0 8) := hM42.a (by decide) (by decide)
    have q82 : gI σ37 m0 21 = gI σ5 m0 21 := by
      rcases Classical.em (0 ≤ a2 ∧ a2 ≤ gI σ5 m0 12) with h8 | h8
      · exact ((hid.out hw50).1 h8).2 (fun h7 => h9p ⟨by omega, hps.mpr h7⟩)
      · exact (hid.out hw50).2 h8
    have q89 := hI.1
    have m146 : gI σ37 x0 2 = gI σ37 m0 21 := by omega
    have hI45 : F5 E6 σ37 x0 m0 := hI.go hX7 hJ.2.1 m146 (by rw [xq49, m847, q72, m814]; exact hI.2.1)
    refine lv_istore (lv' := [(6, .int (I z38)), (5, .int (I z3)), (4, .int (I i)), (3, .ref ou), (2, .ref m0), (1, .ref x0), (0, .ref b)]) hx hb dL_law_733 hl (by decide) rfl (fun ls hl => ?_)
    refine lv_goto (tgt := 1173) hx hb dL_law_735 (by decide) ?_
    exact kk _ _ _ _ _ _ _ _ hJ43 hI45 hT52 hH hS (lv_sub hl [2, 3, 4, 5, 6] rfl) (by omega) (by omega)
