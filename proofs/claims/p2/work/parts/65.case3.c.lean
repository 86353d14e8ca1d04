set_option maxHeartbeats 400000 in
set_option maxRecDepth 100000 in
theorem lc_21 {p : Program} {e : Env} {s : State} {m : MethodId} {below : List Frame} {meth : Method} {c : Code} {l : Launch} {b L : Nat} {xs : Nat → Int32} {G : va_G} {y : Nat → ClassId} (hl0 : l.stackTraces = false) (C0 : lw_At p s m meth c b L xs) (hK : nq_K G y s) (hXs : nq_X (th_A s.heap.size) s) {E : th_E} {σ : th_M} {x0 m0 ou : Nat} {t i : Int} (hL : L ≤ 3072) (hi0 : 0 ≤ i) (hi1 : i + 6 ≤ L) (hJ : LJ y E σ x0 m0 ou t t) {H : Heap} {locs : List Loc} {ls : Array Slot} {cells slots : Nat} (hH : th_H G s.heap.size σ H) (hS : va_S (th_A s.heap.size) s.heap H locs) (hl : lv_has ls 7 [(4, .int (I i)), (3, .ref ou), (2, .ref m0), (1, .ref x0), (0, .ref b)]) (hc0 : cells + 200 ≤ 601024) (hs0 : slots + 9800 ≤ 7293034) {Q : State → Prop} (kk : ∀ (E1 : th_E) (σ1 : th_M) (t1 : Int) (H1 : Heap) (locs1 : List Loc) (ls1 : Array Slot) (k1 n1 : Nat), LJ y E1 σ1 x0 m0 ou t1 t1 → th_H G s.heap.size σ1 H1 → va_S (th_A s.heap.size) s.heap H1 locs1 → lv_has ls1 7 [(4, .int (I i)), (3, .ref ou), (2, .ref m0), (1, .ref x0), (0, .ref b)] → k1 ≤ cells + 200 → n1 ≤ slots + 9800 → W p l e room_1 s m #[Value.ref b] below meth c H1 locs1 k1 n1 Q (F0 m 1173 ls1 [])) : W p l e room_1 s m #[Value.ref b] below meth c H locs cells slots Q (F0 m 1007 ls []) := by
  obtain ⟨hx, hb, hr, hml, hown, hts, hX, hbl, hlocks, hgv⟩ := C0
  have hbA : ¬ th_A s.heap.size b := Nat.not_le.mpr hbl
  refine lv_aload_n hx hb dL_law_1007 rfl (lv_at hl 3 rfl) ?_
  obtain ⟨_, hc1⟩ := hJ.1.cell hJ.2.1 (by decide) (ci := 10) rfl
  refine th_calli (va_runV (As := []) (rest := []) ⟨hx, hb, hml, hown, hts⟩ (q_undo l G y s.heap.size σ E hJ.1 x0 hJ.2.1 ) (cwV 0 hts gv_X10_undo_145 rfl rfl rfl (by decide +kernel) ⟨Nat.le_of_ble_eq_true rfl, Nat.le_of_ble_eq_true rfl⟩) (th_PV hK hH rfl hc1) rfl rfl hl.1 rfl (lv_room (Nat.le_of_ble_eq_true rfl)) dL_law_1008 ⟨show _ + _ ≤ 601024 by omega, show _ + _ ≤ 7293034 by omega⟩) hS (fun z4 σ3 H locs rz4 hw2 hH hS => ?_)
  obtain ⟨hO6, hF7, hw2⟩ := hw2
  have hJ9 := hJ.clr (ext.rf (E := E)) hO6 hF7 (by decide) rfl
  have hkhJ9 := fr.ki hJ.1 hF7 hJ.2.1 (by decide) (by decide) 1
  have hthJ9 := hJ9.tapm
  have huhJ9 := hJ.tapx
  have hvhJ9 := hJ.tapm
  refine lv_pop hx hb dL_law_1011 rfl ?_
  refine lv_aload_n hx hb dL_law_1012 rfl (lv_at hl 2 rfl) ?_
  obtain ⟨_, hc11⟩ := hJ9.1.cell hJ9.2.2.1 (by decide) (ci := 11) rfl
  refine th_calli (va_runV (As := []) (rest := []) ⟨hx, hb, hml, hown, hts⟩ (j_undo l G y s.heap.size σ3 E hJ9.1 m0 hJ9.2.2.1  _ rfl _ rfl _ rfl _ rfl _ rfl _ rfl _ rfl _ rfl _ rfl _ rfl _ rfl hJ9.jw) (cwV 0 hts gv_X11_undo_148 rfl rfl rfl (by decide +kernel) ⟨Nat.le_of_ble_eq_true rfl, Nat.le_of_ble_eq_true rfl⟩) (th_PV hK hH rfl hc11) rfl rfl hl.1 rfl (lv_room (Nat.le_of_ble_eq_true rfl)) dL_law_1013 ⟨show _ + _ ≤ 601024 by omega, show _ + _ ≤ 7293034 by omega⟩) hS (fun z14 σ13 H locs rz14 hw12 hH hS => ?_)
  obtain ⟨hO16, hF17, hM18, hq20, hw12⟩ := hw12
  have hJ19 := hJ9.ref hO16 hF17 hM18 hq20 (show gI σ13 m0 12 = (gI σ3 x0 1) by omega)
  refine lv_pop hx hb dL_law_1016 rfl ?_
  refine lv_goto (tgt := 1173) hx hb dL_law_1017 (by decide) ?_
  exact kk _ _ _ _ _ _ _ _ hJ19 hH hS (lv_sub hl [0, 1, 2, 3, 4] rfl) (by omega) (by omega)

set_option maxHeartbeats 400000 in
set_option maxRecDepth 100000 in
theorem lc_22 {p : Program} {e : Env} {s : State} {m : MethodId} {below : List Frame} {meth : Method} {c : Code} {l : Launch} {b L : Nat} {xs : Nat → Int32} {G : va_G} {y : Nat → ClassId} (hl0 : l.stackTraces = false) (C0 : lw_At p s m meth c b L xs) (hK : nq_K G y s) (hXs : nq_X (th_A s.heap.size) s) {E : th_E} {σ : th_M} {x0 m0 ou : Nat} {t i : Int} (hL : L ≤ 3072) (hi0 : 0 ≤ i) (hi1 : i + 6 ≤ L) (hJ : LJ y E σ x0 m0 ou t t) {H : Heap} {locs : List Loc} {ls : Array Slot} {cells slots : Nat} (hH : th_H G s.heap.size σ H) (hS : va_S (th_A s.heap.size) s.heap H locs) (hl : lv_has ls 7 [(4, .int (I i)), (3, .ref ou), (2, .ref m0), (1, .ref x0), (0, .ref b)]) (hc0 : cells + 200 ≤ 601024) (hs0 : slots + 9800 ≤ 7293034) {Q : State → Prop} (kk : ∀ (E1 : th_E) (σ1 : th_M) (t1 : Int) (H1 : Heap) (locs1 : List Loc) (ls1 : Array Slot) (k1 n1 : Nat), LJ y E1 σ1 x0 m0 ou t1 t1 → th_H G s.heap.size σ1 H1 → va_S (th_A s.heap.size) s.heap H1 locs1 → lv_has ls1 7 [(4, .int (I i)), (3, .ref ou), (2, .ref m0), (1, .ref x0), (0, .ref b)] → k1 ≤ cells + 200 → n1 ≤ slots + 9800 → W p l e room_1 s m #[Value.ref b] below meth c H1 locs1 k1 n1 Q (F0 m 1173 ls1 [])) : W p l e room_1 s m #[Value.ref b] below meth c H locs cells slots Q (F0 m 1020 ls []) := by
  obtain ⟨hx, hb, hr, hml, hown, hts, hX, hbl, hlocks, hgv⟩ := C0
  have hbA : ¬ th_A s.heap.size b := Nat.not_le.mpr hbl
  obtain ⟨a1, ra1, ea1⟩ : ∃ z : Int, rng z ∧ xs (I (i + 1)).toNatClampNeg = I z := ⟨_, rng_toInt _, (I_of _).symm⟩
  obtain ⟨a2, ra2, ea2⟩ : ∃ z : Int, rng z ∧ xs (I (i + 2)).toNatClampNeg = I z := ⟨_, rng_toInt _, (I_of _).symm⟩
  refine lv_aload_n hx hb dL_law_1020 rfl (lv_at hl 3 rfl) ?_
  refine lv_aload_n hx hb dL_law_1021 rfl (lv_at hl 4 rfl) ?_
  refine lv_iload hx hb dL_law_1022 (lv_at hl 0 rfl) ?_
  refine lv_iconst (v := I 1) hx hb dL_law_1024 (by decide) ?_
  refine lv_iadd hx hb dL_law_1025 ?_
  refine nq_top (I_add _ _) ?_
  refine va_sld hx hb hX hbl hbA hS (i := I (i + 1)) (I_in ⟨by omega, by omega⟩ (by omega) (by omega)) dL_law_1026 ?_
  refine nq_top ea1 ?_
  refine lv_aload_n hx hb dL_law_1027 rfl (lv_at hl 4 rfl) ?_
  refine lv_iload hx hb dL_law_1028 (lv_at hl 0 rfl) ?_
  refine lv_iconst (v := I 2) hx hb dL_law_1030 (by decide) ?_
  refine lv_iadd hx hb dL_law_1031 ?_
  refine nq_top (I_add _ _) ?_
  refine va_sld hx hb hX hbl hbA hS (i := I (i + 2)) (I_in ⟨by omega, by omega⟩ (by omega) (by omega)) dL_law_1032 ?_
  refine nq_top ea2 ?_
  refine lv_if_eq (tgt := 1040) hx hb dL_law_1033 (by decide) (fun c1 => ?_) (fun c1 => ?_)
  · refine lv_iconst (v := I 0) hx hb dL_law_1040 (by decide) ?_
    obtain ⟨_, hc2⟩ := hJ.1.cell hJ.2.1 (by decide) (ci := 10) rfl
    refine th_calli (va_runV (As := [.int (I a1), .int (I 0)]) (rest := []) ⟨hx, hb, hml, hown, hts⟩ (q_note l G y s.heap.size σ E hJ.1 x0 hJ.2.1 a1 ra1 0 (show rng 0 from ⟨by decide, by decide⟩) (by decide) (by decide)) (cwV 2 hts gv_X10_note_149 rfl rfl rfl (by decide +kernel) ⟨Nat.le_of_ble_eq_true rfl, Nat.le_of_ble_eq_true rfl⟩) (th_PV hK hH rfl hc2) rfl rfl hl.1 rfl (lv_room (Nat.le_of_ble_eq_true rfl)) dL_law_1041 ⟨show _ + _ ≤ 601024 by omega, show _ + _ ≤ 7293034 by omega⟩) hS (fun z5 σ4 H locs rz5 hw3 hH hS => ?_)
    obtain ⟨hO7, hF8, hw3⟩ := hw3
    have hJ10 := hJ.clr (ext.rf (E := E)) hO7 hF8 (by decide) rfl
    have hkhJ10 := fr.ki hJ.1 hF8 hJ.2.1 (by decide) (by decide) 1
    have hthJ10 := hJ10.tapm
    have huhJ10 := hJ.tapx
    have hvhJ10 := hJ.tapm
    refine lv_pop hx hb dL_law_1044 rfl ?_
    refine lv_aload_n hx hb dL_law_1045 rfl (lv_at hl 2 rfl) ?_
    refine lv_aload_n hx hb dL_law_1046 rfl (lv_at hl 4 rfl) ?_
    refine lv_iload hx hb dL_law_1047 (lv_at hl 0 rfl) ?_
    refine lv_iconst (v := I 1) hx hb dL_law_1049 (by decide) ?_
    refine lv_iadd hx hb dL_law_1050 ?_
    refine nq_top (I_add _ _) ?_
    refine va_sld hx hb hX hbl hbA hS (i := I (i + 1)) (I_in ⟨by omega, by omega⟩ (by omega) (by omega)) dL_law_1051 ?_
    refine nq_top ea1 ?_
    refine lv_aload_n hx hb dL_law_1052 rfl (lv_at hl 4 rfl) ?_
    refine lv_iload hx hb dL_law_1053 (lv_at hl 0 rfl) ?_
    refine lv_iconst (v := I 2) hx hb dL_law_1055 (by decide) ?_
    refine lv_iadd hx hb dL_law_1056 ?_
    refine nq_top (I_add _ _) ?_
    refine va_sld hx hb hX hbl hbA hS (i := I (i + 2)) (I_in ⟨by omega, by omega⟩ (by omega) (by omega)) dL_law_1057 ?_
    refine nq_top ea2 ?_
    refine lv_if_eq (tgt := 1065) hx hb dL_law_1058 (by decide) (fun c12 => ?_) (fun c12 => ?_)
    · refine lv_iconst (v := I 0) hx hb dL_law_1065 (by decide) ?_
      obtain ⟨_, hc13⟩ := hJ10.1.cell hJ10.2.2.1 (by decide) (ci := 11) rfl
      refine th_calli (va_runV (As := [.int (I a1), .int (I 0)]) (rest := []) ⟨hx, hb, hml, hown, hts⟩ (j_note l G y s.heap.size σ4 E hJ10.1 m0 hJ10.2.2.1 a1 ra1 0 (show rng 0 from ⟨by decide, by decide⟩) (by decide) (by decide) _ rfl _ rfl _ rfl _ rfl _ rfl _ rfl _ rfl _ rfl _ rfl _ rfl _ rfl hJ10.jw) (cwV 2 hts gv_X11_note_153 rfl rfl rfl (by decide +kernel) ⟨Nat.le_of_ble_eq_true rfl, Nat.le_of_ble_eq_true rfl⟩) (th_PV hK hH rfl hc13) rfl rfl hl.1 rfl (lv_room (Nat.le_of_ble_eq_true rfl)) dL_law_1066 ⟨show _ + _ ≤ 601024 by omega, show _ + _ ≤ 7293034 by omega⟩) hS (fun z16 σ15 H locs rz16 hw14 hH hS => ?_)
      obtain ⟨hO18, hF19, hM20, hq22, hw14⟩ := hw14
      have hJ21 := hJ10.ref hO18 hF19 hM20 hq22 (show gI σ15 m0 12 = (gI σ4 x0 1) by omega)
      refine lv_pop hx hb dL_law_1069 rfl ?_
      refine lv_goto (tgt := 1173) hx hb dL_law_1070 (by decide) ?_
      exact kk _ _ _ _ _ _ _ _ hJ21 hH hS (lv_sub hl [0, 1, 2, 3, 4] rfl) (by omega) (by omega)
    · refine lv_iconst (v := I 1) hx hb dL_law_1061 (by decide) ?_
      refine lv_goto (tgt := 1066) hx hb dL_law_1062 (by decide) ?_
      obtain ⟨_, hc23⟩ := hJ10.1.cell hJ10.2.2.1 (by decide) (ci := 11) rfl
      refine th_calli (va_runV (As := [.int (I a1), .int (I 1)]) (rest := []) ⟨hx, hb, hml, hown, hts⟩ (j_note l G y s.heap.size σ4 E hJ10.1 m0 hJ10.2.2.1 a1 ra1 1 (show rng 1 from ⟨by decide, by decide⟩) (by decide) (by decide) _ rfl _ rfl _ rfl _ rfl _ rfl _ rfl _ rfl _ rfl _ rfl _ rfl _ rfl hJ10.jw) (cwV 2 hts gv_X11_note_153 rfl rfl rfl (by decide +kernel) ⟨Nat.le_of_ble_eq_true rfl, Nat.le_of_ble_eq_true rfl⟩) (th_PV hK hH rfl hc23) rfl rfl hl.1 rfl (lv_room (Nat.le_of_ble_eq_true rfl)) dL_law_1066 ⟨show _ + _ ≤ 601024 by omega, show _ + _ ≤ 7293034 by omega⟩) hS (fun z26 σ25 H locs rz26 hw24 hH hS => ?_)
      obtain ⟨hO28, hF29, hM30, hq32, hw24⟩ := hw24
      have hJ31 := hJ10.ref hO28 hF29 hM30 hq32 (show gI σ25 m0 12 = (gI σ4 x0 1) by omega)
      refine lv_pop hx hb dL_law_1069 rfl ?_
      refine lv_goto (tgt := 1173) hx hb dL_law_1070 (by decide) ?_
      exact kk _ _ _ _ _ _ _ _ hJ31 hH hS (lv_sub hl [0, 1, 2, 3, 4] rfl) (by omega) (by omega)
  · refine lv_iconst (v := I 1) hx hb dL_law_1036 (by decide) ?_
    refine lv_goto (tgt := 1041) hx hb dL_law_1037 (by decide) ?_
    obtain ⟨_, hc33⟩ := hJ.1.cell hJ.2.1 (by decide) (ci := 10) rfl
    refine th_calli (va_runV (As := [.int (I a1), .int (I 1)]) (rest := []) ⟨hx, hb, hml, hown, hts⟩ (q_note l G y s.heap.size σ E hJ.1 x0 hJ.2.1 a1 ra1 1 (show rng 1 from ⟨by decide, by decide⟩) (by decide) (by decide)) (cwV 2 hts gv_X10_note_149 rfl rfl rfl (by decide +kernel) ⟨Nat.le_of_ble_eq_true rfl, Nat.le_of_ble_eq_true rfl⟩) (th_PV hK hH rfl hc33) rfl rfl hl.1 rfl (lv_room (Nat.le_of_ble_eq_true rfl)) dL_law_1041 ⟨show _ + _ ≤ 601024 by omega, show _ + _ ≤ 7293034 by omega⟩) hS (fun z36 σ35 H locs rz36 hw34 hH hS => ?_)
    obtain ⟨hO38, hF39, hw34⟩ := hw34
    have hJ41 := hJ.clr (ext.rf (E := E)) hO38 hF39 (by decide) rfl
    have hkhJ41 := fr.ki hJ.1 hF39 hJ.2.1 (by decide) (by decide) 1
    have hthJ41 := hJ41.tapm
    have huhJ41 := hJ.tapx
    have hvhJ41 := hJ.tapm
    refine lv_pop hx hb dL_law_1044 rfl ?_
    refine lv_aload_n hx hb dL_law_1045 rfl (lv_at hl 2 rfl) ?_
    refine lv_aload_n hx hb dL_law_1046 rfl (lv_at hl 4 rfl) ?_
    refine lv_iload hx hb dL_law_1047 (lv_at hl 0 rfl) ?_
    refine lv_iconst (v := I 1) hx hb dL_law_1049 (by decide) ?_
    refine lv_iadd hx hb dL_law_1050 ?_
    refine nq_top (I_add _ _) ?_
    refine va_sld hx hb hX hbl hbA hS (i := I (i + 1)) (I_in ⟨by omega, by omega⟩ (by omega) (by omega)) dL_law_1051 ?_
    refine nq_top ea1 ?_
    refine lv_aload_n hx hb dL_law_1052 rfl (lv_at hl 4 rfl) ?_
    refine lv_iload hx hb dL_law_1053 (lv_at hl 0 rfl) ?_
    refine lv_iconst (v := I 2) hx hb dL_law_1055 (by decide) ?_
    refine lv_iadd hx hb dL_law_1056 ?_
    refine nq_top (I_add _ _) ?_
    refine va_sld hx hb hX hbl hbA hS (i := I (i + 2)) (I_in ⟨by omega, by omega⟩ (by omega) (by omega)) dL_law_1057 ?_
    refine nq_top ea2 ?_
    refine lv_if_eq (tgt := 1065) hx hb dL_law_1058 (by decide) (fun c43 => ?_) (fun c43 => ?_)
    · refine lv_iconst (v := I 0) hx hb dL_law_1065 (by decide) ?_
      obtain ⟨_, hc44⟩ := hJ41.1.cell hJ41.2.2.1 (by decide) (ci := 11) rfl
      refine th_calli (va_runV (As := [.int (I a1), .int (I 0)]) (rest := []) ⟨hx, hb, hml, hown, hts⟩ (j_note l G y s.heap.size σ35 E hJ41.1 m0 hJ41.2.2.1 a1 ra1 0 (show rng 0 from ⟨by decide, by decide⟩) (by decide) (by decide) _ rfl _ rfl _ rfl _ rfl _ rfl _ rfl _ rfl _ rfl _ rfl _ rfl _ rfl hJ41.jw) (cwV 2 hts gv_X11_note_153 rfl rfl rfl (by decide +kernel) ⟨Nat.le_of_ble_eq_true rfl, Nat.le_of_ble_eq_true rfl⟩) (th_PV hK hH rfl hc44) rfl rfl hl.1 rfl (lv_room (Nat.le_of_ble_eq_true rfl)) dL_law_1066 ⟨show _ + _ ≤ 601024 by omega, show _ + _ ≤ 7293034 by omega⟩) hS (fun z47 σ46 H locs rz47 hw45 hH hS => ?_)
      obtain ⟨hO49, hF50, hM51, hq53, hw45⟩ := hw45
      have hJ52 := hJ41.ref hO49 hF50 hM51 hq53 (show gI σ46 m0 12 = (gI σ35 x0 1) by omega)
      refine lv_pop hx hb dL_law_1069 rfl ?_
      refine lv_goto (tgt := 1173) hx hb dL_law_1070 (by decide) ?_
      exact kk _ _ _ _ _ _ _ _ hJ52 hH hS (lv_sub hl [0, 1, 2, 3, 4] rfl) (by omega) (by omega)
    · refine lv_iconst (v := I 1) hx hb dL_law_1061 (by decide) ?_
      refine lv_goto (tgt := 1066) hx hb dL_law_1062 (by decide) ?_
      obtain ⟨_, hc54⟩ := hJ41.1.cell hJ41.2.2.1 (by decide) (ci := 11) rfl
      refine th_calli (va_runV (As := [.int (I a1), .int (I 1)]) (rest := []) ⟨hx, hb, hml, hown, hts⟩ (j_note l G y s.heap.size σ35 E hJ41.1 m0 hJ41.2.2.1 a1 ra1 1 (show rng 1 from ⟨by decide, by decide⟩) (by decide) (by decide) _ rfl _ rfl _ rfl _ rfl _ rfl _ rfl _ rfl _ rfl _ rfl _ rfl _ rfl hJ41.jw) (cwV 2 hts gv_X11_note_153 rfl rfl rfl (by decide +kernel) ⟨Nat.le_of_ble_eq_true rfl, Nat.le_of_ble_eq_true rfl⟩) (th_PV hK hH rfl hc54) rfl rfl hl.1 rfl (lv_room (Nat.le_of_ble_eq_true rfl)) dL_law_1066 ⟨show _ + _ ≤ 601024 by omega, show _ + _ ≤ 7293034 by omega⟩) hS (fun z57 σ56 H locs rz57 hw55 hH hS => ?_)
      obtain ⟨hO59, hF60, hM61, hq63, hw55⟩ := hw55
      have hJ62 := hJ41.ref hO59 hF60 hM61 hq63 (show gI σ56 m0 12 = (gI σ35 x0 1) by omega)
      refine lv_pop hx hb dL_law_1069 rfl ?_
      refine lv_goto (tgt := 1173) hx hb dL_law_1070 (by decide) ?_
      exact kk _ _ _ _ _ _ _ _ hJ62 hH hS (lv_sub hl [0, 1, 2, 3, 4] rfl) (by omega) (by omega)

set_option maxHeartbeats 400000 in
set_option maxRecDepth 100000 in
theorem lc_23 {p : Program} {e : Env} {s : State} {m : MethodId} {below : List Frame} {meth : Method} {c : Code} {l : Launch} {b L : Nat} {xs : Nat → Int32} {G : va_G} {y : Nat → ClassId} (hl0 : l.stackTraces = false) (C0 : lw_At p s m meth c b L xs) (hK : nq_K G y s) (hXs : nq_X (th_A s.heap.size) s) {E : th_E} {σ : th_M} {x0 m0 ou : Nat} {t i : Int} (hL : L ≤ 3072) (hi0 : 0 ≤ i) (hi1 : i + 6 ≤ L) (hJ : LJ y E σ x0 m0 ou t t) {H : Heap} {locs : List Loc} {ls : Array Slot} {cells slots : Nat} (hH : th_H G s.heap.size σ H) (hS : va_S (th_A s.heap.size) s.heap H locs) (hl : lv_has ls 7 [(4, .int (I i)), (3, .ref ou), (2, .ref m0), (1, .ref x0), (0, .ref b)]) (hc0 : cells + 200 ≤ 601024) (hs0 : slots + 9800 ≤ 7293034) {Q : State → Prop} (kk : ∀ (E1 : th_E) (σ1 : th_M) (t1 : Int) (H1 : Heap) (locs1 : List Loc) (ls1 : Array Slot) (k1 n1 : Nat), LJ y E1 σ1 x0 m0 ou t1 t1 → th_H G s.heap.size σ1 H1 → va_S (th_A s.heap.size) s.heap H1 locs1 → lv_has ls1 7 [(4, .int (I i)), (3, .ref ou), (2, .ref m0), (1, .ref x0), (0, .ref b)] → k1 ≤ cells + 200 → n1 ≤ slots + 9800 → W p l e room_1 s m #[Value.ref b] below meth c H1 locs1 k1 n1 Q (F0 m 1173 ls1 [])) : W p l e room_1 s m #[Value.ref b] below meth c H locs cells slots Q (F0 m 1073 ls []) := by
  obtain ⟨hx, hb, hr, hml, hown, hts, hX, hbl, hlocks, hgv⟩ := C0
  have hbA : ¬ th_A s.heap.size b := Nat.not_le.mpr hbl
  refine lv_aload_n hx hb dL_law_1073 rfl (lv_at hl 3 rfl) ?_
  obtain ⟨_, hc1⟩ := hJ.1.cell hJ.2.1 (by decide) (ci := 10) rfl
  refine th_calli (va_runV (As := []) (rest := []) ⟨hx, hb, hml, hown, hts⟩ (q_look l G y s.heap.size σ E hJ.1 x0 hJ.2.1 ) (cwV 0 hts gv_X10_look_154 rfl rfl rfl (by decide +kernel) ⟨Nat.le_of_ble_eq_true rfl, Nat.le_of_ble_eq_true rfl⟩) (th_PV hK hH rfl hc1) rfl rfl hl.1 rfl (lv_room (Nat.le_of_ble_eq_true rfl)) dL_law_1074 ⟨show _ + _ ≤ 601024 by omega, show _ + _ ≤ 7293034 by omega⟩) hS (fun z4 σ3 H locs rz4 hw2 hH hS => ?_)
  obtain ⟨hO6, hF7, hw2⟩ := hw2
  have hJ9 := hJ.clr (ext.rf (E := E)) hO6 hF7 (by decide) rfl
  have hthJ9 := hJ9.tapm
  have huhJ9 := hJ.tapx
  have hvhJ9 := hJ.tapm
  refine lv_pop hx hb dL_law_1077 rfl ?_
  refine lv_aload_n hx hb dL_law_1078 rfl (lv_at hl 2 rfl) ?_
  obtain ⟨_, hc11⟩ := hJ9.1.cell hJ9.2.2.1 (by decide) (ci := 11) rfl
  refine th_calli (va_runV (As := []) (rest := []) ⟨hx, hb, hml, hown, hts⟩ (j_look l G y s.heap.size σ3 E hJ9.1 m0 hJ9.2.2.1  _ rfl _ rfl _ rfl _ rfl _ rfl _ rfl _ rfl _ rfl _ rfl _ rfl _ rfl _ rfl hJ9.jw) (cwV 0 hts gv_X11_look_157 rfl rfl rfl (by decide +kernel) ⟨Nat.le_of_ble_eq_true rfl, Nat.le_of_ble_eq_true rfl⟩) (th_PV hK hH rfl hc11) rfl rfl hl.1 rfl (lv_room (Nat.le_of_ble_eq_true rfl)) dL_law_1079 ⟨show _ + _ ≤ 601024 by omega, show _ + _ ≤ 7293034 by omega⟩) hS (fun z14 σ13 H locs rz14 hw12 hH hS => ?_)
  obtain ⟨hO16, hF17, hM18, hq20, hw12⟩ := hw12
  have hJ19 := hJ9.ref hO16 hF17 hM18 hq20 (show gI σ13 m0 12 = (gI σ3 x0 1) by omega)
  refine lv_pop hx hb dL_law_1082 rfl ?_
  refine lv_goto (tgt := 1173) hx hb dL_law_1083 (by decide) ?_
  exact kk _ _ _ _ _ _ _ _ hJ19 hH hS (lv_sub hl [0, 1, 2, 3, 4] rfl) (by omega) (by omega)

set_option maxHeartbeats 400000 in
set_option maxRecDepth 100000 in
theorem lc_24 {p : Program} {e : Env} {s : State} {m : MethodId} {below : List Frame} {meth : Method} {c : Code} {l : Launch} {b L : Nat} {xs : Nat → Int32} {G : va_G} {y : Nat → ClassId} (hl0 : l.stackTraces = false) (C0 : lw_At p s m meth c b L xs) (hK : nq_K G y s) (hXs : nq_X (th_A s.heap.size) s) {E : th_E} {σ : th_M} {x0 m0 ou : Nat} {t i : Int} (hL : L ≤ 3072) (hi0 : 0 ≤ i) (hi1 : i + 6 ≤ L) (hJ : LJ y E σ x0 m0 ou t t) {H : Heap} {locs : List Loc} {ls : Array Slot} {cells slots : Nat} (hH : th_H G s.heap.size σ H) (hS : va_S (th_A s.heap.size) s.heap H locs) (hl : lv_has ls 7 [(4, .int (I i)), (3, .ref ou), (2, .ref m0), (1, .ref x0), (0, .ref b)]) (hc0 : cells + 200 ≤ 601024) (hs0 : slots + 9800 ≤ 7293034) {Q : State → Prop} (kk : ∀ (E1 : th_E) (σ1 : th_M) (t1 : Int) (H1 : Heap) (locs1 : List Loc) (ls1 : Array Slot) (k1 n1 : Nat), LJ y E1 σ1 x0 m0 ou t1 t1 → th_H G s.heap.size σ1 H1 → va_S (th_A s.heap.size) s.heap H1 locs1 → lv_has ls1 7 [(4, .int (I i)), (3, .ref ou), (2, .ref m0), (1, .ref x0), (0, .ref b)] → k1 ≤ cells + 200 → n1 ≤ slots + 9800 → W p l e room_1 s m #[Value.ref b] below meth c H1 locs1 k1 n1 Q (F0 m 1173 ls1 [])) : W p l e room_1 s m #[Value.ref b] below meth c H locs cells slots Q (F0 m 1086 ls []) := by
  obtain ⟨hx, hb, hr, hml, hown, hts, hX, hbl, hlocks, hgv⟩ := C0
  have hbA : ¬ th_A s.heap.size b := Nat.not_le.mpr hbl
  refine lv_aload_n hx hb dL_law_1086 rfl (lv_at hl 3 rfl) ?_
  obtain ⟨_, hc1⟩ := hJ.1.cell hJ.2.1 (by decide) (ci := 10) rfl
  refine th_callv (va_runV (As := []) (rest := []) ⟨hx, hb, hml, hown, hts⟩ (q_forget l G y s.heap.size σ E hJ.1 x0 hJ.2.1 ) (cwV 0 hts gv_X10_forget_158 rfl rfl rfl (by decide +kernel) ⟨Nat.le_of_ble_eq_true rfl, Nat.le_of_ble_eq_true rfl⟩) (th_PV hK hH rfl hc1) rfl rfl hl.1 rfl (lv_room (Nat.le_of_ble_eq_true rfl)) dL_law_1087 ⟨show _ + _ ≤ 601024 by omega, show _ + _ ≤ 7293034 by omega⟩) hS (fun σ3 H locs hw2 hH hS => ?_)
  obtain ⟨hO5, hF6, hw2⟩ := hw2
  have hJ8 := hJ.clr (ext.rf (E := E)) hO5 hF6 (by decide) rfl
  have hkhJ8 := fr.ki hJ.1 hF6 hJ.2.1 (by decide) (by decide) 1
  have hthJ8 := hJ8.tapm
  have huhJ8 := hJ.tapx
  have hvhJ8 := hJ.tapm
  refine lv_aload_n hx hb dL_law_1090 rfl (lv_at hl 2 rfl) ?_
  obtain ⟨_, hc10⟩ := hJ8.1.cell hJ8.2.2.1 (by decide) (ci := 11) rfl
  refine th_callv (va_runV (As := []) (rest := []) ⟨hx, hb, hml, hown, hts⟩ (j_forget l G y s.heap.size σ3 E hJ8.1 m0 hJ8.2.2.1  _ rfl _ rfl _ rfl _ rfl _ rfl _ rfl _ rfl _ rfl _ rfl _ rfl _ rfl hJ8.jw) (cwV 0 hts gv_X11_forget_161 rfl rfl rfl (by decide +kernel) ⟨Nat.le_of_ble_eq_true rfl, Nat.le_of_ble_eq_true rfl⟩) (th_PV hK hH rfl hc10) rfl rfl hl.1 rfl (lv_room (Nat.le_of_ble_eq_true rfl)) dL_law_1091 ⟨show _ + _ ≤ 601024 by omega, show _ + _ ≤ 7293034 by omega⟩) hS (fun σ12 H locs hw11 hH hS => ?_)
  obtain ⟨hO14, hF15, hM16, hq18, hw11⟩ := hw11
  have hJ17 := hJ8.ref hO14 hF15 hM16 hq18 (show gI σ12 m0 12 = (gI σ3 x0 1) by omega)
  refine lv_goto (tgt := 1173) hx hb dL_law_1094 (by decide) ?_
  exact kk _ _ _ _ _ _ _ _ hJ17 hH hS (lv_sub hl [0, 1, 2, 3, 4] rfl) (by omega) (by omega)

set_option maxHeartbeats 400000 in
set_option maxRecDepth 100000 in
theorem lc_25 {p : Program} {e : Env} {s : State} {m : MethodId} {below : List Frame} {meth : Method} {c : Code} {l : Launch} {b L : Nat} {xs : Nat → Int32} {G : va_G} {y : Nat → ClassId} (hl0 : l.stackTraces = false) (C0 : lw_At p s m meth c b L xs) (hK : nq_K G y s) (hXs : nq_X (th_A s.heap.size) s) {E : th_E} {σ : th_M} {x0 m0 ou : Nat} {t i : Int} (hL : L ≤ 3072) (hi0 : 0 ≤ i) (hi1 : i + 6 ≤ L) (hJ : LJ y E σ x0 m0 ou t t) {H : Heap} {locs : List Loc} {ls : Array Slot} {cells slots : Nat} (hH : th_H G s.heap.size σ H) (hS : va_S (th_A s.heap.size) s.heap H locs) (hl : lv_has ls 7 [(4, .int (I i)), (3, .ref ou), (2, .ref m0), (1, .ref x0), (0, .ref b)]) (hc0 : cells + 200 ≤ 601024) (hs0 : slots + 9800 ≤ 7293034) {Q : State → Prop} (kk : ∀ (E1 : th_E) (σ1 : th_M) (t1 : Int) (H1 : Heap) (locs1 : List Loc) (ls1 : Array Slot) (k1 n1 : Nat), LJ y E1 σ1 x0 m0 ou t1 t1 → th_H G s.heap.size σ1 H1 → va_S (th_A s.heap.size) s.heap H1 locs1 → lv_has ls1 7 [(4, .int (I i)), (3, .ref ou), (2, .ref m0), (1, .ref x0), (0, .ref b)] → k1 ≤ cells + 200 → n1 ≤ slots + 9800 → W p l e room_1 s m #[Value.ref b] below meth c H1 locs1 k1 n1 Q (F0 m 1173 ls1 [])) : W p l e room_1 s m #[Value.ref b] below meth c H locs cells slots Q (F0 m 1097 ls []) := by
  obtain ⟨hx, hb, hr, hml, hown, hts, hX, hbl, hlocks, hgv⟩ := C0
  have hbA : ¬ th_A s.heap.size b := Nat.not_le.mpr hbl
  obtain ⟨a1, ra1, ea1⟩ : ∃ z : Int, rng z ∧ xs (I (i + 1)).toNatClampNeg = I z := ⟨_, rng_toInt _, (I_of _).symm⟩
  obtain ⟨a2, ra2, ea2⟩ : ∃ z : Int, rng z ∧ xs (I (i + 2)).toNatClampNeg = I z := ⟨_, rng_toInt _, (I_of _).symm⟩
  obtain ⟨a3, ra3, ea3⟩ : ∃ z : Int, rng z ∧ xs (I (i + 3)).toNatClampNeg = I z := ⟨_, rng_toInt _, (I_of _).symm⟩
  refine lv_aload_n hx hb dL_law_1097 rfl (lv_at hl 3 rfl) ?_
  refine lv_aload_n hx hb dL_law_1098 rfl (lv_at hl 4 rfl) ?_
  refine lv_iload hx hb dL_law_1099 (lv_at hl 0 rfl) ?_
  refine lv_iconst (v := I 1) hx hb dL_law_1101 (by decide) ?_
  refine lv_iadd hx hb dL_law_1102 ?_
  refine nq_top (I_add _ _) ?_
  refine va_sld hx hb hX hbl hbA hS (i := I (i + 1)) (I_in ⟨by omega, by omega⟩ (by omega) (by omega)) dL_law_1103 ?_
  refine nq_top ea1 ?_
  refine lv_aload_n hx hb dL_law_1104 rfl (lv_at hl 4 rfl) ?_
  refine lv_iload hx hb dL_law_1105 (lv_at hl 0 rfl) ?_
  refine lv_iconst (v := I 2) hx hb dL_law_1107 (by decide) ?_
  refine lv_iadd hx hb dL_law_1108 ?_
  refine nq_top (I_add _ _) ?_
  refine va_sld hx hb hX hbl hbA hS (i := I (i + 2)) (I_in ⟨by omega, by omega⟩ (by omega) (by omega)) dL_law_1109 ?_
  refine nq_top ea2 ?_
  refine lv_aload_n hx hb dL_law_1110 rfl (lv_at hl 4 rfl) ?_
  refine lv_iload hx hb dL_law_1111 (lv_at hl 0 rfl) ?_
  refine lv_iconst (v := I 3) hx hb dL_law_1113 (by decide) ?_
  refine lv_iadd hx hb dL_law_1114 ?_
  refine nq_top (I_add _ _) ?_
  refine va_sld hx hb hX hbl hbA hS (i := I (i + 3)) (I_in ⟨by omega, by omega⟩ (by omega) (by omega)) dL_law_1115 ?_
  refine nq_top ea3 ?_
  refine lv_aload_n hx hb dL_law_1116 rfl (lv_at hl 1 rfl) ?_
  obtain ⟨fo1, hf2⟩ := hJ.2.2.2.2.1
  refine th_calli (vx_runSW (hh := [(0, 12, 15, 19), (0, 12, 19, 13)]) (As := [.ref x0, .int (I a1), .int (I a2), .int (I a3), .ref ou]) (rest := []) ⟨hx, hb, hml, hown, hts⟩ (w_years l hl0 G y s.heap.size σ E hJ.1 x0 hJ.2.1 m0 hJ.2.2.1 ou hJ.2.2.2.1 fo1 hf2 a1 ra1 a2 ra2 a3 ra3) (vx_cwSW 5 hts gv_L_years_162 rfl rfl rfl (by decide +kernel) ⟨Nat.le_of_ble_eq_true rfl, Nat.le_of_ble_eq_true rfl⟩) (th_PXS hK hXs hS hH) rfl rfl hl.1 rfl (lv_room (Nat.le_of_ble_eq_true rfl)) dL_law_1117 ⟨show _ + _ ≤ 601024 by omega, show _ + _ ≤ 7293034 by omega⟩) hS (fun z3 σ5 H locs rz3 hw4 hH hS => ?_)
  obtain ⟨E6, hX7, hO8, hF9, hf10, hw4⟩ := hw4
  have hJ11 := hJ.cls hX7 hO8 hF9 (by decide) hf10 rfl
  have hthJ11 := hJ11.tapm
  have huhJ11 := hJ.tapx
  have hvhJ11 := hJ.tapm
  refine lv_istore (lv' := [(5, .int (I z3)), (4, .int (I i)), (3, .ref ou), (2, .ref m0), (1, .ref x0), (0, .ref b)]) hx hb dL_law_1120 hl (by decide) rfl (fun ls hl => ?_)
  refine lv_aload_n hx hb dL_law_1122 rfl (lv_at hl 3 rfl) ?_
  refine lv_aload_n hx hb dL_law_1123 rfl (lv_at hl 5 rfl) ?_
  refine lv_iload hx hb dL_law_1124 (lv_at hl 1 rfl) ?_
  refine lv_iconst (v := I 1) hx hb dL_law_1126 (by decide) ?_
  refine lv_iadd hx hb dL_law_1127 ?_
  refine nq_top (I_add _ _) ?_
  refine va_sld hx hb hX hbl hbA hS (i := I (i + 1)) (I_in ⟨by omega, by omega⟩ (by omega) (by omega)) dL_law_1128 ?_
  refine nq_top ea1 ?_
  refine lv_aload_n hx hb dL_law_1129 rfl (lv_at hl 5 rfl) ?_
  refine lv_iload hx hb dL_law_1130 (lv_at hl 1 rfl) ?_
  refine lv_iconst (v := I 2) hx hb dL_law_1132 (by decide) ?_
  refine lv_iadd hx hb dL_law_1133 ?_
  refine nq_top (I_add _ _) ?_
  refine va_sld hx hb hX hbl hbA hS (i := I (i + 2)) (I_in ⟨by omega, by omega⟩ (by omega) (by omega)) dL_law_1134 ?_
  refine nq_top ea2 ?_
  refine lv_aload_n hx hb dL_law_1135 rfl (lv_at hl 5 rfl) ?_
  refine lv_iload hx hb dL_law_1136 (lv_at hl 1 rfl) ?_
  refine lv_iconst (v := I 3) hx hb dL_law_1138 (by decide) ?_
  refine lv_iadd hx hb dL_law_1139 ?_
  refine nq_top (I_add _ _) ?_
  refine va_sld hx hb hX hbl hbA hS (i := I (i + 3)) (I_in ⟨by omega, by omega⟩ (by omega) (by omega)) dL_law_1140 ?_
  refine nq_top ea3 ?_
  obtain ⟨_, hc12⟩ := hJ11.1.cell hJ11.2.2.1 (by decide) (ci := 11) rfl
  refine th_calli (va_runV (As := [.int (I a1), .int (I a2), .int (I a3)]) (rest := []) ⟨hx, hb, hml, hown, hts⟩ (j_years l G y s.heap.size σ5 E6 hJ11.1 m0 hJ11.2.2.1 a1 ra1 a2 ra2 a3 ra3 _ rfl _ rfl _ rfl _ rfl _ rfl _ rfl _ rfl _ rfl _ rfl _ rfl _ rfl _ rfl _ rfl _ rfl hJ11.jw) (cwV 3 hts gv_X11_years_164 rfl rfl rfl (by decide +kernel) ⟨Nat.le_of_ble_eq_true rfl, Nat.le_of_ble_eq_true rfl⟩) (th_PV hK hH rfl hc12) rfl rfl hl.1 rfl (lv_room (Nat.le_of_ble_eq_true rfl)) dL_law_1141 ⟨show _ + _ ≤ 601024 by omega, show _ + _ ≤ 7293034 by omega⟩) hS (fun z15 σ14 H locs rz15 hw13 hH hS => ?_)
  obtain ⟨hO17, hF18, hM19, hq21, hw13⟩ := hw13
  have hJ20 := hJ11.ref hO17 hF18 hM19 hq21 (show gI σ14 m0 12 = (gI σ5 x0 1) by omega)
  refine lv_istore (lv' := [(6, .int (I z15)), (5, .int (I z3)), (4, .int (I i)), (3, .ref ou), (2, .ref m0), (1, .ref x0), (0, .ref b)]) hx hb dL_law_1144 hl (by decide) rfl (fun ls hl => ?_)
  refine lv_goto (tgt := 1173) hx hb dL_law_1146 (by decide) ?_
  exact kk _ _ _ _ _ _ _ _ hJ20 hH hS (lv_sub hl [2, 3, 4, 5, 6] rfl) (by omega) (by omega)

set_option maxHeartbeats 400000 in
set_option maxRecDepth 100000 in
theorem lc_26 {p : Program} {e : Env} {s : State} {m : MethodId} {below : List Frame} {meth : Method} {c : Code} {l : Launch} {b L : Nat} {xs : Nat → Int32} {G : va_G} {y : Nat → ClassId} (hl0 : l.stackTraces = false) (C0 : lw_At p s m meth c b L xs) (hK : nq_K G y s) (hXs : nq_X (th_A s.heap.size) s) {E : th_E} {σ : th_M} {x0 m0 ou : Nat} {t i : Int} (hL : L ≤ 3072) (hi0 : 0 ≤ i) (hi1 : i + 6 ≤ L) (hJ : LJ y E σ x0 m0 ou t t) {H : Heap} {locs : List Loc} {ls : Array Slot} {cells slots : Nat} (hH : th_H G s.heap.size σ H) (hS : va_S (th_A s.heap.size) s.heap H locs) (hl : lv_has ls 7 [(4, .int (I i)), (3, .ref ou), (2, .ref m0), (1, .ref x0), (0, .ref b)]) (hc0 : cells + 200 ≤ 601024) (hs0 : slots + 9800 ≤ 7293034) {Q : State → Prop} (kk : ∀ (E1 : th_E) (σ1 : th_M) (t1 : Int) (H1 : Heap) (locs1 : List Loc) (ls1 : Array Slot) (k1 n1 : Nat), LJ y E1 σ1 x0 m0 ou t1 t1 → th_H G s.heap.size σ1 H1 → va_S (th_A s.heap.size) s.heap H1 locs1 → lv_has ls1 7 [(4, .int (I i)), (3, .ref ou), (2, .ref m0), (1, .ref x0), (0, .ref b)] → k1 ≤ cells + 200 → n1 ≤ slots + 9800 → W p l e room_1 s m #[Value.ref b] below meth c H1 locs1 k1 n1 Q (F0 m 1173 ls1 [])) : W p l e room_1 s m #[Value.ref b] below meth c H locs cells slots Q (F0 m 1149 ls []) := by
  obtain ⟨hx, hb, hr, hml, hown, hts, hX, hbl, hlocks, hgv⟩ := C0
  have hbA : ¬ th_A s.heap.size b := Nat.not_le.mpr hbl
  refine lv_aload_n hx hb dL_law_1149 rfl (lv_at hl 3 rfl) ?_
  obtain ⟨_, hc1⟩ := hJ.1.cell hJ.2.1 (by decide) (ci := 10) rfl
  refine th_callv (va_runV (As := []) (rest := []) ⟨hx, hb, hml, hown, hts⟩ (q_image l G y s.heap.size σ E hJ.1 x0 hJ.2.1 ) (cwV 0 hts gv_X10_image_165 rfl rfl rfl (by decide +kernel) ⟨Nat.le_of_ble_eq_true rfl, Nat.le_of_ble_eq_true rfl⟩) (th_PV hK hH rfl hc1) rfl rfl hl.1 rfl (lv_room (Nat.le_of_ble_eq_true rfl)) dL_law_1150 ⟨show _ + _ ≤ 601024 by omega, show _ + _ ≤ 7293034 by omega⟩) hS (fun σ3 H locs hw2 hH hS => ?_)
  obtain ⟨E10, hX4, hO5, hF6, hw2⟩ := hw2
  have hJ8 := hJ.clr hX4 hO5 hF6 (by decide) rfl
  have hthJ8 := hJ8.tapm
  have huhJ8 := hJ.tapx
  have hvhJ8 := hJ.tapm
  refine lv_aload_n hx hb dL_law_1153 rfl (lv_at hl 2 rfl) ?_
  obtain ⟨_, hc11⟩ := hJ8.1.cell hJ8.2.2.1 (by decide) (ci := 11) rfl
  refine th_callv (va_runV (As := []) (rest := []) ⟨hx, hb, hml, hown, hts⟩ (j_image l G y s.heap.size σ3 E10 hJ8.1 m0 hJ8.2.2.1  _ rfl _ rfl _ rfl _ rfl _ rfl _ rfl _ rfl _ rfl _ rfl _ rfl _ rfl _ rfl _ rfl _ rfl _ rfl _ rfl _ rfl hJ8.jw) (cwV 0 hts gv_X11_image_168 rfl rfl rfl (by decide +kernel) ⟨Nat.le_of_ble_eq_true rfl, Nat.le_of_ble_eq_true rfl⟩) (th_PV hK hH rfl hc11) rfl rfl hl.1 rfl (lv_room (Nat.le_of_ble_eq_true rfl)) dL_law_1154 ⟨show _ + _ ≤ 601024 by omega, show _ + _ ≤ 7293034 by omega⟩) hS (fun σ13 H locs hw12 hH hS => ?_)
  obtain ⟨hO15, hF16, hM17, hq19, hw12⟩ := hw12
  have hJ18 := hJ8.ref hO15 hF16 hM17 hq19 (show gI σ13 m0 12 = (gI σ3 x0 1) by omega)
  refine lv_goto (tgt := 1173) hx hb dL_law_1157 (by decide) ?_
  exact kk _ _ _ _ _ _ _ _ hJ18 hH hS (lv_sub hl [0, 1, 2, 3, 4] rfl) (by omega) (by omega)

set_option maxHeartbeats 400000 in
set_option maxRecDepth 100000 in
theorem lc_27 {p : Program} {e : Env} {s : State} {m : MethodId} {below : List Frame} {meth : Method} {c : Code} {l : Launch} {b L : Nat} {xs : Nat → Int32} {G : va_G} {y : Nat → ClassId} (hl0 : l.stackTraces = false) (C0 : lw_At p s m meth c b L xs) (hK : nq_K G y s) (hXs : nq_X (th_A s.heap.size) s) {E : th_E} {σ : th_M} {x0 m0 ou : Nat} {t i : Int} (hL : L ≤ 3072) (hi0 : 0 ≤ i) (hi1 : i + 6 ≤ L) (hJ : LJ y E σ x0 m0 ou t t) {H : Heap} {locs : List Loc} {ls : Array Slot} {cells slots : Nat} (hH : th_H G s.heap.size σ H) (hS : va_S (th_A s.heap.size) s.heap H locs) (hl : lv_has ls 7 [(4, .int (I i)), (3, .ref ou), (2, .ref m0), (1, .ref x0), (0, .ref b)]) (hc0 : cells + 200 ≤ 601024) (hs0 : slots + 9800 ≤ 7293034) {Q : State → Prop} (kk : ∀ (E1 : th_E) (σ1 : th_M) (t1 : Int) (H1 : Heap) (locs1 : List Loc) (ls1 : Array Slot) (k1 n1 : Nat), LJ y E1 σ1 x0 m0 ou t1 t1 → th_H G s.heap.size σ1 H1 → va_S (th_A s.heap.size) s.heap H1 locs1 → lv_has ls1 7 [(4, .int (I i)), (3, .ref ou), (2, .ref m0), (1, .ref x0), (0, .ref b)] → k1 ≤ cells + 200 → n1 ≤ slots + 9800 → W p l e room_1 s m #[Value.ref b] below meth c H1 locs1 k1 n1 Q (F0 m 1173 ls1 [])) : W p l e room_1 s m #[Value.ref b] below meth c H locs cells slots Q (F0 m 1160 ls []) := by
  obtain ⟨hx, hb, hr, hml, hown, hts, hX, hbl, hlocks, hgv⟩ := C0
  have hbA : ¬ th_A s.heap.size b := Nat.not_le.mpr hbl
  refine lv_aload_n hx hb dL_law_1160 rfl (lv_at hl 3 rfl) ?_
  obtain ⟨_, hc1⟩ := hJ.1.cell hJ.2.1 (by decide) (ci := 10) rfl
  refine th_calli (va_runV (As := []) (rest := []) ⟨hx, hb, hml, hown, hts⟩ (q_restore l G y s.heap.size σ E hJ.1 x0 hJ.2.1 ) (cwV 0 hts gv_X10_restore_169 rfl rfl rfl (by decide +kernel) ⟨Nat.le_of_ble_eq_true rfl, Nat.le_of_ble_eq_true rfl⟩) (th_PV hK hH rfl hc1) rfl rfl hl.1 rfl (lv_room (Nat.le_of_ble_eq_true rfl)) dL_law_1161 ⟨show _ + _ ≤ 601024 by omega, show _ + _ ≤ 7293034 by omega⟩) hS (fun z4 σ3 H locs rz4 hw2 hH hS => ?_)
  obtain ⟨E11, hX5, hO6, hF7, _, hw2⟩ := hw2
  have hJ9 := hJ.clr hX5 hO6 hF7 (by decide) rfl
  have hkhJ9 := fr.ki hJ.1 hF7 hJ.2.1 (by decide) (by decide) 1
  have hthJ9 := hJ9.tapm
  have huhJ9 := hJ.tapx
  have hvhJ9 := hJ.tapm
  refine lv_pop hx hb dL_law_1164 rfl ?_
  refine lv_aload_n hx hb dL_law_1165 rfl (lv_at hl 2 rfl) ?_
  obtain ⟨_, hc12⟩ := hJ9.1.cell hJ9.2.2.1 (by decide) (ci := 11) rfl
  refine th_calli (va_runV (As := []) (rest := []) ⟨hx, hb, hml, hown, hts⟩ (j_restore l G y s.heap.size σ3 E11 hJ9.1 m0 hJ9.2.2.1  _ rfl _ rfl _ rfl _ rfl _ rfl _ rfl _ rfl _ rfl _ rfl _ rfl _ rfl _ rfl _ rfl _ rfl _ rfl _ rfl _ rfl hJ9.jw) (cwV 0 hts gv_X11_restore_173 rfl rfl rfl (by decide +kernel) ⟨Nat.le_of_ble_eq_true rfl, Nat.le_of_ble_eq_true rfl⟩) (th_PV hK hH rfl hc12) rfl rfl hl.1 rfl (lv_room (Nat.le_of_ble_eq_true rfl)) dL_law_1166 ⟨show _ + _ ≤ 601024 by omega, show _ + _ ≤ 7293034 by omega⟩) hS (fun z15 σ14 H locs rz15 hw13 hH hS => ?_)
  obtain ⟨hO17, hF18, hM19, _, hq21, hw13⟩ := hw13
  have hJ20 := hJ9.ref hO17 hF18 hM19 hq21 (show gI σ14 m0 12 = (gI σ3 x0 1) by omega)
  refine lv_pop hx hb dL_law_1169 rfl ?_
  refine lv_goto (tgt := 1173) hx hb dL_law_1170 (by decide) ?_
  exact kk _ _ _ _ _ _ _ _ hJ20 hH hS (lv_sub hl [0, 1, 2, 3, 4] rfl) (by omega) (by omega)
