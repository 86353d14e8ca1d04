set_option maxHeartbeats 400000 in
set_option maxRecDepth 100000 in
theorem lc_21 {p : Program} {e : Env} {s : State} {m : MethodId} {below : List Frame} {meth : Method} {c : Code} {l : Launch} {b L : Nat} {xs : Nat → Int32} {G : va_G} {y : Nat → ClassId} (hl0 : l.stackTraces = false) (C0 : lw_At p s m meth c b L xs) (hK : nq_K G y s) (hXs : nq_X (th_A s.heap.size) s) {E : th_E} {σ : th_M} {x0 m0 ou : Nat} {t i : Int} (hL : L ≤ 3072) (hi0 : 0 ≤ i) (hi1 : i + 6 ≤ L) (hJ : LJ y E σ x0 m0 ou t t) (hI : F5 E σ x0 m0) (hT : tp E σ x0 m0) {H : Heap} {locs : List Loc} {ls : Array Slot} {cells slots : Nat} (hH : th_H G s.heap.size σ H) (hS : va_S (th_A s.heap.size) s.heap H locs) (hl : lv_has ls 7 [(4, .int (I i)), (3, .ref ou), (2, .ref m0), (1, .ref x0), (0, .ref b)]) (hc0 : cells + 200 ≤ 601024) (hs0 : slots + 9800 ≤ 7293034) {Q : State → Prop} (kk : ∀ (E1 : th_E) (σ1 : th_M) (t1 : Int) (H1 : Heap) (locs1 : List Loc) (ls1 : Array Slot) (k1 n1 : Nat), LJ y E1 σ1 x0 m0 ou t1 t1 → F5 E1 σ1 x0 m0 → tp E1 σ1 x0 m0 → th_H G s.heap.size σ1 H1 → va_S (th_A s.heap.size) s.heap H1 locs1 → lv_has ls1 7 [(4, .int (I i)), (3, .ref ou), (2, .ref m0), (1, .ref x0), (0, .ref b)] → k1 ≤ cells + 200 → n1 ≤ slots + 9800 → W p l e room_1 s m #[Value.ref b] below meth c H1 locs1 k1 n1 Q (F0 m 1173 ls1 [])) : W p l e room_1 s m #[Value.ref b] below meth c H locs cells slots Q (F0 m 1007 ls []) := by
  obtain ⟨hx, hb, hr, hml, hown, hts, hX, hbl, hlocks, hgv⟩ := C0
  have hbA : ¬ th_A s.heap.size b := Nat.not_le.mpr hbl
  refine lv_aload_n hx hb dL_law_1007 rfl (lv_at hl 3 rfl) ?_
  obtain ⟨_, hc1⟩ := hJ.1.cell hJ.2.1 (by decide) (ci := 10) rfl
  refine th_calli (va_runV (As := []) (rest := []) ⟨hx, hb, hml, hown, hts⟩ (q_undo l G y s.heap.size σ E hJ.1 x0 hJ.2.1 ) (cwV 0 hts gv_X10_undo_145 rfl rfl rfl (by decide +kernel) ⟨Nat.le_of_ble_eq_true rfl, Nat.le_of_ble_eq_true rfl⟩) (th_PV hK hH rfl hc1) rfl rfl hl.1 rfl (lv_room (Nat.le_of_ble_eq_true rfl)) dL_law_1008 ⟨show _ + _ ≤ 601024 by omega, show _ + _ ≤ 7293034 by omega⟩) hS (fun z4 σ3 H locs rz4 hw2 hH hS => ?_)
  obtain ⟨hO6, hF7, hw2⟩ := hw2
  have hJ9 := hJ.clr (ext.rf (E := E)) hO6 hF7 (by decide) rfl
  have hkhJ9 := fr.ki hJ.1 hF7 hJ.2.1 (by decide) (by decide) 1
  have x214 := fr.ki hJ.1 hF7 hJ.2.1 (by decide) (by decide) 2
  have xq15 := fr.aq hJ.1 hF7 hJ.2.1 (by decide) (by decide) k12_3
  have m112 := fr.ki hJ.1 hF7 hJ.2.2.1 (by decide) (by decide) 21
  have m813 := hJ.row8 (ext.rf (E := E)) (fun x _ h0 hs => hF7 x h0 hs) (by decide)
  have hthJ9 := hJ9.tapm
  have huhJ9 := hJ.tapx
  have hvhJ9 := hJ.tapm
  have rm17 := hJ.row6 (ext.rf (E := E)) (fun x _ h0 hs => hF7 x h0 hs) (by decide)
  have hT16 := hT.cls (Or.inr ⟨by rw [(ext.rf (E := E)).ad2 hJ.2.1 (by decide) 0]; exact fr.af hJ.1 hF7 hJ.2.1 (by decide) (by decide) k12_0 isA1, by omega⟩) rm17
  have hI11 := hI.keep (ext.rf (E := E)) hJ.2.1 x214 (by rw [(ext.rf (E := E)).ad2 hJ.2.1 (by decide) 3]; exact xq15) m112 m813
  refine lv_pop hx hb dL_law_1011 rfl ?_
  refine lv_aload_n hx hb dL_law_1012 rfl (lv_at hl 2 rfl) ?_
  obtain ⟨_, hc18⟩ := hJ9.1.cell hJ9.2.2.1 (by decide) (ci := 11) rfl
  refine th_calli (va_runV (As := []) (rest := []) ⟨hx, hb, hml, hown, hts⟩ (j_undo l G y s.heap.size σ3 E hJ9.1 m0 hJ9.2.2.1  _ rfl _ rfl _ rfl _ rfl _ rfl _ rfl _ rfl _ rfl _ rfl _ rfl _ rfl hJ9.jw) (cwV 0 hts gv_X11_undo_148 rfl rfl rfl (by decide +kernel) ⟨Nat.le_of_ble_eq_true rfl, Nat.le_of_ble_eq_true rfl⟩) (th_PV hK hH rfl hc18) rfl rfl hl.1 rfl (lv_room (Nat.le_of_ble_eq_true rfl)) dL_law_1013 ⟨show _ + _ ≤ 601024 by omega, show _ + _ ≤ 7293034 by omega⟩) hS (fun z21 σ20 H locs rz21 hw19 hH hS => ?_)
  obtain ⟨hO23, hF24, hM25, hq27, hw19⟩ := hw19
  have hwhJ26 := hJ9.tapm
  have hJ26 := hJ9.ref hO23 hF24 hM25 hq27 (show gI σ20 m0 12 = (gI σ3 x0 1) by omega)
  have rx33 := fr.af hJ9.1 hF24 hJ9.2.1 (by decide) (by decide) k12_0 isA1
  have hchJ26 := fr.ki hJ9.1 hF24 hJ9.2.1 (by decide) (by decide) 1
  have hT34 := hT16.ref rx33 (hM25.a (by decide) (by decide)) hchJ26
  have x231 := fr.ki hJ9.1 hF24 hJ9.2.1 (by decide) (by decide) 2
  have xq32 := fr.aq hJ9.1 hF24 hJ9.2.1 (by decide) (by decide) k12_3
  have m830 : aF σ20 (ad E m0 8) = aF σ3 (ad E m0 8) := hM25.a (by decide) (by decide)
  have m129 := hM25.i (k := 21) (by decide)
  have hI28 := hI11.keep ext.rf hJ9.2.1 x231 xq32 m129 m830
  refine lv_pop hx hb dL_law_1016 rfl ?_
  refine lv_goto (tgt := 1173) hx hb dL_law_1017 (by decide) ?_
  exact kk _ _ _ _ _ _ _ _ hJ26 hI28 hT34 hH hS (lv_sub hl [0, 1, 2, 3, 4] rfl) (by omega) (by omega)

set_option maxHeartbeats 400000 in
set_option maxRecDepth 100000 in
theorem lc_22 {p : Program} {e : Env} {s : State} {m : MethodId} {below : List Frame} {meth : Method} {c : Code} {l : Launch} {b L : Nat} {xs : Nat → Int32} {G : va_G} {y : Nat → ClassId} (hl0 : l.stackTraces = false) (C0 : lw_At p s m meth c b L xs) (hK : nq_K G y s) (hXs : nq_X (th_A s.heap.size) s) {E : th_E} {σ : th_M} {x0 m0 ou : Nat} {t i : Int} (hL : L ≤ 3072) (hi0 : 0 ≤ i) (hi1 : i + 6 ≤ L) (hJ : LJ y E σ x0 m0 ou t t) (hI : F5 E σ x0 m0) (hT : tp E σ x0 m0) {H : Heap} {locs : List Loc} {ls : Array Slot} {cells slots : Nat} (hH : th_H G s.heap.size σ H) (hS : va_S (th_A s.heap.size) s.heap H locs) (hl : lv_has ls 7 [(4, .int (I i)), (3, .ref ou), (2, .ref m0), (1, .ref x0), (0, .ref b)]) (hc0 : cells + 200 ≤ 601024) (hs0 : slots + 9800 ≤ 7293034) {Q : State → Prop} (kk : ∀ (E1 : th_E) (σ1 : th_M) (t1 : Int) (H1 : Heap) (locs1 : List Loc) (ls1 : Array Slot) (k1 n1 : Nat), LJ y E1 σ1 x0 m0 ou t1 t1 → F5 E1 σ1 x0 m0 → tp E1 σ1 x0 m0 → th_H G s.heap.size σ1 H1 → va_S (th_A s.heap.size) s.heap H1 locs1 → lv_has ls1 7 [(4, .int (I i)), (3, .ref ou), (2, .ref m0), (1, .ref x0), (0, .ref b)] → k1 ≤ cells + 200 → n1 ≤ slots + 9800 → W p l e room_1 s m #[Value.ref b] below meth c H1 locs1 k1 n1 Q (F0 m 1173 ls1 [])) : W p l e room_1 s m #[Value.ref b] below meth c H locs cells slots Q (F0 m 1020 ls []) := by
  obtain ⟨hx, hb, hr, hml, hown, hts, hX, hbl, hlocks, hgv⟩ := C0
  have hbA : ¬ th_A s.heap.size b := Nat.not_le.mpr hbl
  obtain ⟨a1, ra1, ea1⟩ : ∃ z : Int, rng z ∧ xs (I (i + 1)).toNatClampNeg = I z := ⟨_, rng_toInt _, (I_of _).symm⟩
  obtain ⟨a2, ra2, ea2⟩ : ∃ z : Int, rng z ∧ xs (I (i + 2)).toNatClampNeg = I z := ⟨_, rng_toInt _, (I_of _).symm⟩
  refine lv_aload_n hx hb dL_law_1020 rfl (lv_at hl 3 rfl) ?_
  refine lv_aload_n hx hb dL_law_1021 rfl (lv_at hl 4 rfl) ?_
  refine lv_iload hx hb dL_law_1022 (lv_at hl 0 rfl) ?_
  refine lv_iconst (v := I 1) hx hb dL_law_1024 (by decide) ?_
  refine lv_iadd hx hb dL_law_1025 ?_
  refine nq_top (I_add _ _) ?_
  refine va_sld hx hb hX hbl hbA hS (i := I (i + 1)) (I_in ⟨by omega, by omega⟩ (by omega) (by omega)) dL_law_1026 ?_
  refine nq_top ea1 ?_
  refine lv_aload_n hx hb dL_law_1027 rfl (lv_at hl 4 rfl) ?_
  refine lv_iload hx hb dL_law_1028 (lv_at hl 0 rfl) ?_
  refine lv_iconst (v := I 2) hx hb dL_law_1030 (by decide) ?_
  refine lv_iadd hx hb dL_law_1031 ?_
  refine nq_top (I_add _ _) ?_
  refine va_sld hx hb hX hbl hbA hS (i := I (i + 2)) (I_in ⟨by omega, by omega⟩ (by omega) (by omega)) dL_law_1032 ?_
  refine nq_top ea2 ?_
  refine lv_if_eq (tgt := 1040) hx hb dL_law_1033 (by decide) (fun c1 => ?_) (fun c1 => ?_)
  · refine lv_iconst (v := I 0) hx hb dL_law_1040 (by decide) ?_
    obtain ⟨_, hc2⟩ := hJ.1.cell hJ.2.1 (by decide) (ci := 10) rfl
    refine th_calli (va_runV (As := [.int (I a1), .int (I 0)]) (rest := []) ⟨hx, hb, hml, hown, hts⟩ (q_note l G y s.heap.size σ E hJ.1 x0 hJ.2.1 a1 ra1 0 (show rng 0 from ⟨by decide, by decide⟩) (by decide) (by decide)) (cwV 2 hts gv_X10_note_149 rfl rfl rfl (by decide +kernel) ⟨Nat.le_of_ble_eq_true rfl, Nat.le_of_ble_eq_true rfl⟩) (th_PV hK hH rfl hc2) rfl rfl hl.1 rfl (lv_room (Nat.le_of_ble_eq_true rfl)) dL_law_1041 ⟨show _ + _ ≤ 601024 by omega, show _ + _ ≤ 7293034 by omega⟩) hS (fun z5 σ4 H locs rz5 hw3 hH hS => ?_)
    obtain ⟨hO7, hF8, hw3⟩ := hw3
    have hJ10 := hJ.clr (ext.rf (E := E)) hO7 hF8 (by decide) rfl
    have hkhJ10 := fr.ki hJ.1 hF8 hJ.2.1 (by decide) (by decide) 1
    have x215 := fr.ki hJ.1 hF8 hJ.2.1 (by decide) (by decide) 2
    have xq16 := fr.aq hJ.1 hF8 hJ.2.1 (by decide) (by decide) k12_3
    have m113 := fr.ki hJ.1 hF8 hJ.2.2.1 (by decide) (by decide) 21
    have m814 := hJ.row8 (ext.rf (E := E)) (fun x _ h0 hs => hF8 x h0 hs) (by decide)
    have hthJ10 := hJ10.tapm
    have huhJ10 := hJ.tapx
    have hvhJ10 := hJ.tapm
    have rm18 := hJ.row6 (ext.rf (E := E)) (fun x _ h0 hs => hF8 x h0 hs) (by decide)
    have hT17 := hT.cls (Or.inr ⟨by rw [(ext.rf (E := E)).ad2 hJ.2.1 (by decide) 0]; exact fr.af hJ.1 hF8 hJ.2.1 (by decide) (by decide) k12_0 isA1, by omega⟩) rm18
    have hI12 := hI.keep (ext.rf (E := E)) hJ.2.1 x215 (by rw [(ext.rf (E := E)).ad2 hJ.2.1 (by decide) 3]; exact xq16) m113 m814
    refine lv_pop hx hb dL_law_1044 rfl ?_
    refine lv_aload_n hx hb dL_law_1045 rfl (lv_at hl 2 rfl) ?_
    refine lv_aload_n hx hb dL_law_1046 rfl (lv_at hl 4 rfl) ?_
    refine lv_iload hx hb dL_law_1047 (lv_at hl 0 rfl) ?_
    refine lv_iconst (v := I 1) hx hb dL_law_1049 (by decide) ?_
    refine lv_iadd hx hb dL_law_1050 ?_
    refine nq_top (I_add _ _) ?_
    refine va_sld hx hb hX hbl hbA hS (i := I (i + 1)) (I_in ⟨by omega, by omega⟩ (by omega) (by omega)) dL_law_1051 ?_
    refine nq_top ea1 ?_
    refine lv_aload_n hx hb dL_law_1052 rfl (lv_at hl 4 rfl) ?_
    refine lv_iload hx hb dL_law_1053 (lv_at hl 0 rfl) ?_
    refine lv_iconst (v := I 2) hx hb dL_law_1055 (by decide) ?_
    refine lv_iadd hx hb dL_law_1056 ?_
    refine nq_top (I_add _ _) ?_
    refine va_sld hx hb hX hbl hbA hS (i := I (i + 2)) (I_in ⟨by omega, by omega⟩ (by omega) (by omega)) dL_law_1057 ?_
    refine nq_top ea2 ?_
    refine lv_if_eq (tgt := 1065) hx hb dL_law_1058 (by decide) (fun c19 => ?_) (fun c19 => ?_)
    · refine lv_iconst (v := I 0) hx hb dL_law_1065 (by decide) ?_
      obtain ⟨_, hc20⟩ := hJ10.1.cell hJ10.2.2.1 (by decide) (ci := 11) rfl
      refine th_calli (va_runV (As := [.int (I a1), .int (I 0)]) (rest := []) ⟨hx, hb, hml, hown, hts⟩ (j_note l G y s.heap.size σ4 E hJ10.1 m0 hJ10.2.2.1 a1 ra1 0 (show rng 0 from ⟨by decide, by decide⟩) (by decide) (by decide) _ rfl _ rfl _ rfl _ rfl _ rfl _ rfl _ rfl _ rfl _ rfl _ rfl _ rfl hJ10.jw) (cwV 2 hts gv_X11_note_153 rfl rfl rfl (by decide +kernel) ⟨Nat.le_of_ble_eq_true rfl, Nat.le_of_ble_eq_true rfl⟩) (th_PV hK hH rfl hc20) rfl rfl hl.1 rfl (lv_room (Nat.le_of_ble_eq_true rfl)) dL_law_1066 ⟨show _ + _ ≤ 601024 by omega, show _ + _ ≤ 7293034 by omega⟩) hS (fun z23 σ22 H locs rz23 hw21 hH hS => ?_)
      obtain ⟨hO25, hF26, hM27, hq29, hw21⟩ := hw21
      have hwhJ28 := hJ10.tapm
      have hJ28 := hJ10.ref hO25 hF26 hM27 hq29 (show gI σ22 m0 12 = (gI σ4 x0 1) by omega)
      have rx35 := fr.af hJ10.1 hF26 hJ10.2.1 (by decide) (by decide) k12_0 isA1
      have hchJ28 := fr.ki hJ10.1 hF26 hJ10.2.1 (by decide) (by decide) 1
      have hT36 := hT17.ref rx35 (hM27.a (by decide) (by decide)) hchJ28
      have x233 := fr.ki hJ10.1 hF26 hJ10.2.1 (by decide) (by decide) 2
      have xq34 := fr.aq hJ10.1 hF26 hJ10.2.1 (by decide) (by decide) k12_3
      have m832 : aF σ22 (ad E m0 8) = aF σ4 (ad E m0 8) := hM27.a (by decide) (by decide)
      have m131 := hM27.i (k := 21) (by decide)
      have hI30 := hI12.keep ext.rf hJ10.2.1 x233 xq34 m131 m832
      refine lv_pop hx hb dL_law_1069 rfl ?_
      refine lv_goto (tgt := 1173) hx hb dL_law_1070 (by decide) ?_
      exact kk _ _ _ _ _ _ _ _ hJ28 hI30 hT36 hH hS (lv_sub hl [0, 1, 2, 3, 4] rfl) (by omega) (by omega)
    · refine lv_iconst (v := I 1) hx hb dL_law_1061 (by decide) ?_
      refine lv_goto (tgt := 1066) hx hb dL_law_1062 (by decide) ?_
      obtain ⟨_, hc37⟩ := hJ10.1.cell hJ10.2.2.1 (by decide) (ci := 11) rfl
      refine th_calli (va_runV (As := [.int (I a1), .int (I 1)]) (rest := []) ⟨hx, hb, hml, hown, hts⟩ (j_note l G y s.heap.size σ4 E hJ10.1 m0 hJ10.2.2.1 a1 ra1 1 (show rng 1 from ⟨by decide, by decide⟩) (by decide) (by decide) _ rfl _ rfl _ rfl _ rfl _ rfl _ rfl _ rfl _ rfl _ rfl _ rfl _ rfl hJ10.jw) (cwV 2 hts gv_X11_note_153 rfl rfl rfl (by decide +kernel) ⟨Nat.le_of_ble_eq_true rfl, Nat.le_of_ble_eq_true rfl⟩) (th_PV hK hH rfl hc37) rfl rfl hl.1 rfl (lv_room (Nat.le_of_ble_eq_true rfl)) dL_law_1066 ⟨show _ + _ ≤ 601024 by omega, show _ + _ ≤ 7293034 by omega⟩) hS (fun z40 σ39 H locs rz40 hw38 hH hS => ?_)
      obtain ⟨hO42, hF43, hM44, hq46, hw38⟩ := hw38
      have hwhJ45 := hJ10.tapm
      have hJ45 := hJ10.ref hO42 hF43 hM44 hq46 (show gI σ39 m0 12 = (gI σ4 x0 1) by omega)
      have rx52 := fr.af hJ10.1 hF43 hJ10.2.1 (by decide) (by decide) k12_0 isA1
      have hchJ45 := fr.ki hJ10.1 hF43 hJ10.2.1 (by decide) (by decide) 1
      have hT53 := hT17.ref rx52 (hM44.a (by decide) (by decide)) hchJ45
      have x250 := fr.ki hJ10.1 hF43 hJ10.2.1 (by decide) (by decide) 2
      have xq51 := fr.aq hJ10.1 hF43 hJ10.2.1 (by decide) (by decide) k12_3
      have m849 : aF σ39 (ad E m0 8) = aF σ4 (ad E m0 8) := hM44.a (by decide) (by decide)
      have m148 := hM44.i (k := 21) (by decide)
      have hI47 := hI12.keep ext.rf hJ10.2.1 x250 xq51 m148 m849
      refine lv_pop hx hb dL_law_1069 rfl ?_
      refine lv_goto (tgt := 1173) hx hb dL_law_1070 (by decide) ?_
      exact kk _ _ _ _ _ _ _ _ hJ45 hI47 hT53 hH hS (lv_sub hl [0, 1, 2, 3, 4] rfl) (by omega) (by omega)
  · refine lv_iconst (v := I 1) hx hb dL_law_1036 (by decide) ?_
    refine lv_goto (tgt := 1041) hx hb dL_law_1037 (by decide) ?_
    obtain ⟨_, hc54⟩ := hJ.1.cell hJ.2.1 (by decide) (ci := 10) rfl
    refine th_calli (va_runV (As := [.int (I a1), .int (I 1)]) (rest := []) ⟨hx, hb, hml, hown, hts⟩ (q_note l G y s.heap.size σ E hJ.1 x0 hJ.2.1 a1 ra1 1 (show rng 1 from ⟨by decide, by decide⟩) (by decide) (by decide)) (cwV 2 hts gv_X10_note_149 rfl rfl rfl (by decide +kernel) ⟨Nat.le_of_ble_eq_true rfl, Nat.le_of_ble_eq_true rfl⟩) (th_PV hK hH rfl hc54) rfl rfl hl.1 rfl (lv_room (Nat.le_of_ble_eq_true rfl)) dL_law_1041 ⟨show _ + _ ≤ 601024 by omega, show _ + _ ≤ 7293034 by omega⟩) hS (fun z57 σ56 H locs rz57 hw55 hH hS => ?_)
    obtain ⟨hO59, hF60, hw55⟩ := hw55
    have hJ62 := hJ.clr (ext.rf (E := E)) hO59 hF60 (by decide) rfl
    have hkhJ62 := fr.ki hJ.1 hF60 hJ.2.1 (by decide) (by decide) 1
    have x267 := fr.ki hJ.1 hF60 hJ.2.1 (by decide) (by decide) 2
    have xq68 := fr.aq hJ.1 hF60 hJ.2.1 (by decide) (by decide) k12_3
    have m165 := fr.ki hJ.1 hF60 hJ.2.2.1 (by decide) (by decide) 21
    have m866 := hJ.row8 (ext.rf (E := E)) (fun x _ h0 hs => hF60 x h0 hs) (by decide)
    have hthJ62 := hJ62.tapm
    have huhJ62 := hJ.tapx
    have hvhJ62 := hJ.tapm
    have rm70 := hJ.row6 (ext.rf (E := E)) (fun x _ h0 hs => hF60 x h0 hs) (by decide)
    have hT69 := hT.cls (Or.inr ⟨by rw [(ext.rf (E := E)).ad2 hJ.2.1 (by decide) 0]; exact fr.af hJ.1 hF60 hJ.2.1 (by decide) (by decide) k12_0 isA1, by omega⟩) rm70
    have hI64 := hI.keep (ext.rf (E := E)) hJ.2.1 x267 (by rw [(ext.rf (E := E)).ad2 hJ.2.1 (by decide) 3]; exact xq68) m165 m866
    refine lv_pop hx hb dL_law_1044 rfl ?_
    refine lv_aload_n hx hb dL_law_1045 rfl (lv_at hl 2 rfl) ?_
    refine lv_aload_n hx hb dL_law_1046 rfl (lv_at hl 4 rfl) ?_
    refine lv_iload hx hb dL_law_1047 (lv_at hl 0 rfl) ?_
    refine lv_iconst (v := I 1) hx hb dL_law_1049 (by decide) ?_
    refine lv_iadd hx hb dL_law_1050 ?_
    refine nq_top (I_add _ _) ?_
    refine va_sld hx hb hX hbl hbA hS (i := I (i + 1)) (I_in ⟨by omega, by omega⟩ (by omega) (by omega)) dL_law_1051 ?_
    refine nq_top ea1 ?_
    refine lv_aload_n hx hb dL_law_1052 rfl (lv_at hl 4 rfl) ?_
    refine lv_iload hx hb dL_law_1053 (lv_at hl 0 rfl) ?_
    refine lv_iconst (v := I 2) hx hb dL_law_1055 (by decide) ?_
    refine lv_iadd hx hb dL_law_1056 ?_
    refine nq_top (I_add _ _) ?_
    refine va_sld hx hb hX hbl hbA hS (i := I (i + 2)) (I_in ⟨by omega, by omega⟩ (by omega) (by omega)) dL_law_1057 ?_
    refine nq_top ea2 ?_
    refine lv_if_eq (tgt := 1065) hx hb dL_law_1058 (by decide) (fun c71 => ?_) (fun c71 => ?_)
    · refine lv_iconst (v := I 0) hx hb dL_law_1065 (by decide) ?_
      obtain ⟨_, hc72⟩ := hJ62.1.cell hJ62.2.2.1 (by decide) (ci := 11) rfl
      refine th_calli (va_runV (As := [.int (I a1), .int (I 0)]) (rest := []) ⟨hx, hb, hml, hown, hts⟩ (j_note l G y s.heap.size σ56 E hJ62.1 m0 hJ62.2.2.1 a1 ra1 0 (show rng 0 from ⟨by decide, by decide⟩) (by decide) (by decide) _ rfl _ rfl _ rfl _ rfl _ rfl _ rfl _ rfl _ rfl _ rfl _ rfl _ rfl hJ62.jw) (cwV 2 hts gv_X11_note_153 rfl rfl rfl (by decide +kernel) ⟨Nat.le_of_ble_eq_true rfl, Nat.le_of_ble_eq_true rfl⟩) (th_PV hK hH rfl hc72) rfl rfl hl.1 rfl (lv_room (Nat.le_of_ble_eq_true rfl)) dL_law_1066 ⟨show _ + _ ≤ 601024 by omega, show _ + _ ≤ 7293034 by omega⟩) hS (fun z75 σ74 H locs rz75 hw73 hH hS => ?_)
      obtain ⟨hO77, hF78, hM79, hq81, hw73⟩ := hw73
      have hwhJ80 := hJ62.tapm
      have hJ80 := hJ62.ref hO77 hF78 hM79 hq81 (show gI σ74 m0 12 = (gI σ56 x0 1) by omega)
      have rx87 := fr.af hJ62.1 hF78 hJ62.2.1 (by decide) (by decide) k12_0 isA1
      have hchJ80 := fr.ki hJ62.1 hF78 hJ62.2.1 (by decide) (by decide) 1
      have hT88 := hT69.ref rx87 (hM79.a (by decide) (by decide)) hchJ80
      have x285 := fr.ki hJ62.1 hF78 hJ62.2.1 (by decide) (by decide) 2
      have xq86 := fr.aq hJ62.1 hF78 hJ62.2.1 (by decide) (by decide) k12_3
      have m884 : aF σ74 (ad E m0 8) = aF σ56 (ad E m0 8) := hM79.a (by decide) (by decide)
      have m183 := hM79.i (k := 21) (by decide)
      have hI82 := hI64.keep ext.rf hJ62.2.1 x285 xq86 m183 m884
      refine lv_pop hx hb dL_law_1069 rfl ?_
      refine lv_goto (tgt := 1173) hx hb dL_law_1070 (by decide) ?_
      exact kk _ _ _ _ _ _ _ _ hJ80 hI82 hT88 hH hS (lv_sub hl [0, 1, 2, 3, 4] rfl) (by omega) (by omega)
    · refine lv_iconst (v := I 1) hx hb dL_law_1061 (by decide) ?_
      refine lv_goto (tgt := 1066) hx hb dL_law_1062 (by decide) ?_
      obtain ⟨_, hc89⟩ := hJ62.1.cell hJ62.2.2.1 (by decide) (ci := 11) rfl
      refine th_calli (va_runV (As := [.int (I a1), .int (I 1)]) (rest := []) ⟨hx, hb, hml, hown, hts⟩ (j_note l G y s.heap.size σ56 E hJ62.1 m0 hJ62.2.2.1 a1 ra1 1 (show rng 1 from ⟨by decide, by decide⟩) (by decide) (by decide) _ rfl _ rfl _ rfl _ rfl _ rfl _ rfl _ rfl _ rfl _ rfl _ rfl _ rfl hJ62.jw) (cwV 2 hts gv_X11_note_153 rfl rfl rfl (by decide +kernel) ⟨Nat.le_of_ble_eq_true rfl, Nat.le_of_ble_eq_true rfl⟩) (th_PV hK hH rfl hc89) rfl rfl hl.1 rfl (lv_room (Nat.le_of_ble_eq_true rfl)) dL_law_1066 ⟨show _ + _ ≤ 601024 by omega, show _ + _ ≤ 7293034 by omega⟩) hS (fun z92 σ91 H locs rz92 hw90 hH hS => ?_)
      obtain ⟨hO94, hF95, hM96, hq98, hw90⟩ := hw90
      have hwhJ97 := hJ62.tapm
      have hJ97 := hJ62.ref hO94 hF95 hM96 hq98 (show gI σ91 m0 12 = (gI σ56 x0 1) by omega)
      have rx104 := fr.af hJ62.1 hF95 hJ62.2.1 (by decide) (by decide) k12_0 isA1
      have hchJ97 := fr.ki hJ62.1 hF95 hJ62.2.1 (by decide) (by decide) 1
      have hT105 := hT69.ref rx104 (hM96.a (by decide) (by decide)) hchJ97
      have x2102 := fr.ki hJ62.1 hF95 hJ62.2.1 (by decide) (by decide) 2
      have xq103 := fr.aq hJ62.1 hF95 hJ62.2.1 (by decide) (by decide) k12_3
      have m8101 : aF σ91 (ad E m0 8) = aF σ56 (ad E m0 8) := hM96.a (by decide) (by decide)
      have m1100 := hM96.i (k := 21) (by decide)
      have hI99 := hI64.keep ext.rf hJ62.2.1 x2102 xq103 m1100 m8101
      refine lv_pop hx hb dL_law_1069 rfl ?_
      refine lv_goto (tgt := 1173) hx hb dL_law_1070 (by decide) ?_
      exact kk _ _ _ _ _ _ _ _ hJ97 hI99 hT105 hH hS (lv_sub hl [0, 1, 2, 3, 4] rfl) (by omega) (by omega)

set_option maxHeartbeats 400000 in
set_option maxRecDepth 100000 in
theorem lc_23 {p : Program} {e : Env} {s : State} {m : MethodId} {below : List Frame} {meth : Method} {c : Code} {l : Launch} {b L : Nat} {xs : Nat → Int32} {G : va_G} {y : Nat → ClassId} (hl0 : l.stackTraces = false) (C0 : lw_At p s m meth c b L xs) (hK : nq_K G y s) (hXs : nq_X (th_A s.heap.size) s) {E : th_E} {σ : th_M} {x0 m0 ou : Nat} {t i : Int} (hL : L ≤ 3072) (hi0 : 0 ≤ i) (hi1 : i + 6 ≤ L) (hJ : LJ y E σ x0 m0 ou t t) (hI : F5 E σ x0 m0) (hT : tp E σ x0 m0) {H : Heap} {locs : List Loc} {ls : Array Slot} {cells slots : Nat} (hH : th_H G s.heap.size σ H) (hS : va_S (th_A s.heap.size) s.heap H locs) (hl : lv_has ls 7 [(4, .int (I i)), (3, .ref ou), (2, .ref m0), (1, .ref x0), (0, .ref b)]) (hc0 : cells + 200 ≤ 601024) (hs0 : slots + 9800 ≤ 7293034) {Q : State → Prop} (kk : ∀ (E1 : th_E) (σ1 : th_M) (t1 : Int) (H1 : Heap) (locs1 : List Loc) (ls1 : Array Slot) (k1 n1 : Nat), LJ y E1 σ1 x0 m0 ou t1 t1 → F5 E1 σ1 x0 m0 → tp E1 σ1 x0 m0 → th_H G s.heap.size σ1 H1 → va_S (th_A s.heap.size) s.heap H1 locs1 → lv_has ls1 7 [(4, .int (I i)), (3, .ref ou), (2, .ref m0), (1, .ref x0), (0, .ref b)] → k1 ≤ cells + 200 → n1 ≤ slots + 9800 → W p l e room_1 s m #[Value.ref b] below meth c H1 locs1 k1 n1 Q (F0 m 1173 ls1 [])) : W p l e room_1 s m #[Value.ref b] below meth c H locs cells slots Q (F0 m 1073 ls []) := by
  obtain ⟨hx, hb, hr, hml, hown, hts, hX, hbl, hlocks, hgv⟩ := C0
  have hbA : ¬ th_A s.heap.size b := Nat.not_le.mpr hbl
  refine lv_aload_n hx hb dL_law_1073 rfl (lv_at hl 3 rfl) ?_
  obtain ⟨_, hc1⟩ := hJ.1.cell hJ.2.1 (by decide) (ci := 10) rfl
  refine th_calli (va_runV (As := []) (rest := []) ⟨hx, hb, hml, hown, hts⟩ (q_look l G y s.heap.size σ E hJ.1 x0 hJ.2.1 ) (cwV 0 hts gv_X10_look_154 rfl rfl rfl (by decide +kernel) ⟨Nat.le_of_ble_eq_true rfl, Nat.le_of_ble_eq_true rfl⟩) (th_PV hK hH rfl hc1) rfl rfl hl.1 rfl (lv_room (Nat.le_of_ble_eq_true rfl)) dL_law_1074 ⟨show _ + _ ≤ 601024 by omega, show _ + _ ≤ 7293034 by omega⟩) hS (fun z4 σ3 H locs rz4 hw2 hH hS => ?_)
  obtain ⟨hO6, hF7, hw2⟩ := hw2
  have hJ9 := hJ.clr (ext.rf (E := E)) hO6 hF7 (by decide) rfl
  have m112 := fr.ki hJ.1 hF7 hJ.2.2.1 (by decide) (by decide) 21
  have m813 := hJ.row8 (ext.rf (E := E)) (fun x _ h0 hs => hF7 x h0 hs) (by decide)
  have hthJ9 := hJ9.tapm
  have huhJ9 := hJ.tapx
  have hvhJ9 := hJ.tapm
  have rm17 := hJ.row6 (ext.rf (E := E)) (fun x _ h0 hs => hF7 x h0 hs) (by decide)
  have x214 := hw2.1.1
  have xq15 := hw2.2.2
  have hT16 := hT.cls (Or.inr ⟨by rw [(ext.rf (E := E)).ad2 hJ.2.1 (by decide) 0]; exact hw2.2.1, by omega⟩) rm17
  replace hw2 := hw2.1
  have hI11 := hI.keep (ext.rf (E := E)) hJ.2.1 x214 (by rw [(ext.rf (E := E)).ad2 hJ.2.1 (by decide) 3]; exact xq15) m112 m813
  refine lv_pop hx hb dL_law_1077 rfl ?_
  refine lv_aload_n hx hb dL_law_1078 rfl (lv_at hl 2 rfl) ?_
  obtain ⟨_, hc18⟩ := hJ9.1.cell hJ9.2.2.1 (by decide) (ci := 11) rfl
  refine th_calli (va_runV (As := []) (rest := []) ⟨hx, hb, hml, hown, hts⟩ (j_look l G y s.heap.size σ3 E hJ9.1 m0 hJ9.2.2.1  _ rfl _ rfl _ rfl _ rfl _ rfl _ rfl _ rfl _ rfl _ rfl _ rfl _ rfl _ rfl hJ9.jw) (cwV 0 hts gv_X11_look_157 rfl rfl rfl (by decide +kernel) ⟨Nat.le_of_ble_eq_true rfl, Nat.le_of_ble_eq_true rfl⟩) (th_PV hK hH rfl hc18) rfl rfl hl.1 rfl (lv_room (Nat.le_of_ble_eq_true rfl)) dL_law_1079 ⟨show _ + _ ≤ 601024 by omega, show _ + _ ≤ 7293034 by omega⟩) hS (fun z21 σ20 H locs rz21 hw19 hH hS => ?_)
  obtain ⟨hO23, hF24, hM25, hq27, hw19⟩ := hw19
  have hwhJ26 := hJ9.tapm
  have hJ26 := hJ9.ref hO23 hF24 hM25 hq27 (show gI σ20 m0 12 = (gI σ3 x0 1) by omega)
  have rx33 := fr.af hJ9.1 hF24 hJ9.2.1 (by decide) (by decide) k12_0 isA1
  have hchJ26 := fr.ki hJ9.1 hF24 hJ9.2.1 (by decide) (by decide) 1
  have hT34 := hT16.ref rx33 (hM25.a (by decide) (by decide)) hchJ26
  have x231 := fr.ki hJ9.1 hF24 hJ9.2.1 (by decide) (by decide) 2
  have xq32 := fr.aq hJ9.1 hF24 hJ9.2.1 (by decide) (by decide) k12_3
  have m830 : aF σ20 (ad E m0 8) = aF σ3 (ad E m0 8) := hM25.a (by decide) (by decide)
  have m129 := hM25.i (k := 21) (by decide)
  have hI28 := hI11.keep ext.rf hJ9.2.1 x231 xq32 m129 m830
  refine lv_pop hx hb dL_law_1082 rfl ?_
  refine lv_goto (tgt := 1173) hx hb dL_law_1083 (by decide) ?_
  exact kk _ _ _ _ _ _ _ _ hJ26 hI28 hT34 hH hS (lv_sub hl [0, 1, 2, 3, 4] rfl) (by omega) (by omega)

set_option maxHeartbeats 400000 in
set_option maxRecDepth 100000 in
theorem lc_24 {p : Program} {e : Env} {s : State} {m : MethodId} {below : List Frame} {meth : Method} {c : Code} {l : Launch} {b L : Nat} {xs : Nat → Int32} {G : va_G} {y : Nat → ClassId} (hl0 : l.stackTraces = false) (C0 : lw_At p s m meth c b L xs) (hK : nq_K G y s) (hXs : nq_X (th_A s.heap.size) s) {E : th_E} {σ : th_M} {x0 m0 ou : Nat} {t i : Int} (hL : L ≤ 3072) (hi0 : 0 ≤ i) (hi1 : i + 6 ≤ L) (hJ : LJ y E σ x0 m0 ou t t) (hI : F5 E σ x0 m0) (hT : tp E σ x0 m0) {H : Heap} {locs : List Loc} {ls : Array Slot} {cells slots : Nat} (hH : th_H G s.heap.size σ H) (hS : va_S (th_A s.heap.size) s.heap H locs) (hl : lv_has ls 7 [(4, .int (I i)), (3, .ref ou), (2, .ref m0), (1, .ref x0), (0, .ref b)]) (hc0 : cells + 200 ≤ 601024) (hs0 : slots + 9800 ≤ 7293034) {Q : State → Prop} (kk : ∀ (E1 : th_E) (σ1 : th_M) (t1 : Int) (H1 : Heap) (locs1 : List Loc) (ls1 : Array Slot) (k1 n1 : Nat), LJ y E1 σ1 x0 m0 ou t1 t1 → F5 E1 σ1 x0 m0 → tp E1 σ1 x0 m0 → th_H G s.heap.size σ1 H1 → va_S (th_A s.heap.size) s.heap H1 locs1 → lv_has ls1 7 [(4, .int (I i)), (3, .ref ou), (2, .ref m0), (1, .ref x0), (0, .ref b)] → k1 ≤ cells + 200 → n1 ≤ slots + 9800 → W p l e room_1 s m #[Value.ref b] below meth c H1 locs1 k1 n1 Q (F0 m 1173 ls1 [])) : W p l e room_1 s m #[Value.ref b] below meth c H locs cells slots Q (F0 m 1086 ls []) := by
  obtain ⟨hx, hb, hr, hml, hown, hts, hX, hbl, hlocks, hgv⟩ := C0
  have hbA : ¬ th_A s.heap.size b := Nat.not_le.mpr hbl
  refine lv_aload_n hx hb dL_law_1086 rfl (lv_at hl 3 rfl) ?_
  obtain ⟨_, hc1⟩ := hJ.1.cell hJ.2.1 (by decide) (ci := 10) rfl
  refine th_callv (va_runV (As := []) (rest := []) ⟨hx, hb, hml, hown, hts⟩ (q_forget l G y s.heap.size σ E hJ.1 x0 hJ.2.1 ) (cwV 0 hts gv_X10_forget_158 rfl rfl rfl (by decide +kernel) ⟨Nat.le_of_ble_eq_true rfl, Nat.le_of_ble_eq_true rfl⟩) (th_PV hK hH rfl hc1) rfl rfl hl.1 rfl (lv_room (Nat.le_of_ble_eq_true rfl)) dL_law_1087 ⟨show _ + _ ≤ 601024 by omega, show _ + _ ≤ 7293034 by omega⟩) hS (fun σ3 H locs hw2 hH hS => ?_)
  obtain ⟨hO5, hF6, hw2⟩ := hw2
  have hJ8 := hJ.clr (ext.rf (E := E)) hO5 hF6 (by decide) rfl
  have hkhJ8 := fr.ki hJ.1 hF6 hJ.2.1 (by decide) (by decide) 1
  have x213 := fr.ki hJ.1 hF6 hJ.2.1 (by decide) (by decide) 2
  have xq14 := fr.aq hJ.1 hF6 hJ.2.1 (by decide) (by decide) k12_3
  have m111 := fr.ki hJ.1 hF6 hJ.2.2.1 (by decide) (by decide) 21
  have m812 := hJ.row8 (ext.rf (E := E)) (fun x _ h0 hs => hF6 x h0 hs) (by decide)
  have hthJ8 := hJ8.tapm
  have huhJ8 := hJ.tapx
  have hvhJ8 := hJ.tapm
  have rm16 := hJ.row6 (ext.rf (E := E)) (fun x _ h0 hs => hF6 x h0 hs) (by decide)
  have hT15 := hT.cls (Or.inr ⟨by rw [(ext.rf (E := E)).ad2 hJ.2.1 (by decide) 0]; exact fr.af hJ.1 hF6 hJ.2.1 (by decide) (by decide) k12_0 isA1, by omega⟩) rm16
  have hI10 := hI.keep (ext.rf (E := E)) hJ.2.1 x213 (by rw [(ext.rf (E := E)).ad2 hJ.2.1 (by decide) 3]; exact xq14) m111 m812
  refine lv_aload_n hx hb dL_law_1090 rfl (lv_at hl 2 rfl) ?_
  obtain ⟨_, hc17⟩ := hJ8.1.cell hJ8.2.2.1 (by decide) (ci := 11) rfl
  refine th_callv (va_runV (As := []) (rest := []) ⟨hx, hb, hml, hown, hts⟩ (j_forget l G y s.heap.size σ3 E hJ8.1 m0 hJ8.2.2.1  _ rfl _ rfl _ rfl _ rfl _ rfl _ rfl _ rfl _ rfl _ rfl _ rfl _ rfl hJ8.jw) (cwV 0 hts gv_X11_forget_161 rfl rfl rfl (by decide +kernel) ⟨Nat.le_of_ble_eq_true rfl, Nat.le_of_ble_eq_true rfl⟩) (th_PV hK hH rfl hc17) rfl rfl hl.1 rfl (lv_room (Nat.le_of_ble_eq_true rfl)) dL_law_1091 ⟨show _ + _ ≤ 601024 by omega, show _ + _ ≤ 7293034 by omega⟩) hS (fun σ19 H locs hw18 hH hS => ?_)
  obtain ⟨hO21, hF22, hM23, hq25, hw18⟩ := hw18
  have hwhJ24 := hJ8.tapm
  have hJ24 := hJ8.ref hO21 hF22 hM23 hq25 (show gI σ19 m0 12 = (gI σ3 x0 1) by omega)
  have rx31 := fr.af hJ8.1 hF22 hJ8.2.1 (by decide) (by decide) k12_0 isA1
  have hchJ24 := fr.ki hJ8.1 hF22 hJ8.2.1 (by decide) (by decide) 1
  have hT32 := hT15.ref rx31 (hM23.a (by decide) (by decide)) hchJ24
  have x229 := fr.ki hJ8.1 hF22 hJ8.2.1 (by decide) (by decide) 2
  have xq30 := fr.aq hJ8.1 hF22 hJ8.2.1 (by decide) (by decide) k12_3
  have m828 : aF σ19 (ad E m0 8) = aF σ3 (ad E m0 8) := hM23.a (by decide) (by decide)
  have m127 := hM23.i (k := 21) (by decide)
  have hI26 := hI10.keep ext.rf hJ8.2.1 x229 xq30 m127 m828
  refine lv_goto (tgt := 1173) hx hb dL_law_1094 (by decide) ?_
  exact kk _ _ _ _ _ _ _ _ hJ24 hI26 hT32 hH hS (lv_sub hl [0, 1, 2, 3, 4] rfl) (by omega) (by omega)

set_option maxHeartbeats 400000 in
set_option maxRecDepth 100000 in
theorem lc_25 {p : Program} {e : Env} {s : State} {m : MethodId} {below : List Frame} {meth : Method} {c : Code} {l : Launch} {b L : Nat} {xs : Nat → Int32} {G : va_G} {y : Nat → ClassId} (hl0 : l.stackTraces = false) (C0 : lw_At p s m meth c b L xs) (hK : nq_K G y s) (hXs : nq_X (th_A s.heap.size) s) {E : th_E} {σ : th_M} {x0 m0 ou : Nat} {t i : Int} (hL : L ≤ 3072) (hi0 : 0 ≤ i) (hi1 : i + 6 ≤ L) (hJ : LJ y E σ x0 m0 ou t t) (hI : F5 E σ x0 m0) (hT : tp E σ x0 m0) {H : Heap} {locs : List Loc} {ls : Array Slot} {cells slots : Nat} (hH : th_H G s.heap.size σ H) (hS : va_S (th_A s.heap.size) s.heap H locs) (hl : lv_has ls 7 [(4, .int (I i)), (3, .ref ou), (2, .ref m0), (1, .ref x0), (0, .ref b)]) (hc0 : cells + 200 ≤ 601024) (hs0 : slots + 9800 ≤ 7293034) {Q : State → Prop} (kk : ∀ (E1 : th_E) (σ1 : th_M) (t1 : Int) (H1 : Heap) (locs1 : List Loc) (ls1 : Array Slot) (k1 n1 : Nat), LJ y E1 σ1 x0 m0 ou t1 t1 → F5 E1 σ1 x0 m0 → tp E1 σ1 x0 m0 → th_H G s.heap.size σ1 H1 → va_S (th_A s.heap.size) s.heap H1 locs1 → lv_has ls1 7 [(4, .int (I i)), (3, .ref ou), (2, .ref m0), (1, .ref x0), (0, .ref b)] → k1 ≤ cells + 200 → n1 ≤ slots + 9800 → W p l e room_1 s m #[Value.ref b] below meth c H1 locs1 k1 n1 Q (F0 m 1173 ls1 [])) : W p l e room_1 s m #[Value.ref b] below meth c H locs cells slots Q (F0 m 1097 ls []) := by
  obtain ⟨hx, hb, hr, hml, hown, hts, hX, hbl, hlocks, hgv⟩ := C0
  have hbA : ¬ th_A s.heap.size b := Nat.not_le.mpr hbl
  obtain ⟨a1, ra1, ea1⟩ : ∃ z : Int, rng z ∧ xs (I (i + 1)).toNatClampNeg = I z := ⟨_, rng_toInt _, (I_of _).symm⟩
  obtain ⟨a2, ra2, ea2⟩ : ∃ z : Int, rng z ∧ xs (I (i + 2)).toNatClampNeg = I z := ⟨_, rng_toInt _, (I_of _).symm⟩
  obtain ⟨a3, ra3, ea3⟩ : ∃ z : Int, rng z ∧ xs (I (i + 3)).toNatClampNeg = I z := ⟨_, rng_toInt _, (I_of _).symm⟩
  refine lv_aload_n hx hb dL_law_1097 rfl (lv_at hl 3 rfl) ?_
  refine lv_aload_n hx hb dL_law_1098 rfl (lv_at hl 4 rfl) ?_
  refine lv_iload hx hb dL_law_1099 (lv_at hl 0 rfl) ?_
  refine lv_iconst (v := I 1) hx hb dL_law_1101 (by decide) ?_
  refine lv_iadd hx hb dL_law_1102 ?_
  refine nq_top (I_add _ _) ?_
  refine va_sld hx hb hX hbl hbA hS (i := I (i + 1)) (I_in ⟨by omega, by omega⟩ (by omega) (by omega)) dL_law_1103 ?_
  refine nq_top ea1 ?_
  refine lv_aload_n hx hb dL_law_1104 rfl (lv_at hl 4 rfl) ?_
  refine lv_iload hx hb dL_law_1105 (lv_at hl 0 rfl) ?_
  refine lv_iconst (v := I 2) hx hb dL_law_1107 (by decide) ?_
  refine lv_iadd hx hb dL_law_1108 ?_
  refine nq_top (I_add _ _) ?_
  refine va_sld hx hb hX hbl hbA hS (i := I (i + 2)) (I_in ⟨by omega, by omega⟩ (by omega) (by omega)) dL_law_1109 ?_
  refine nq_top ea2 ?_
  refine lv_aload_n hx hb dL_law_1110 rfl (lv_at hl 4 rfl) ?_
  refine lv_iload hx hb dL_law_1111 (lv_at hl 0 rfl) ?_
  refine lv_iconst (v := I 3) hx hb dL_law_1113 (by decide) ?_
  refine lv_iadd hx hb dL_law_1114 ?_
  refine nq_top (I_add _ _) ?_
  refine va_sld hx hb hX hbl hbA hS (i := I (i + 3)) (I_in ⟨by omega, by omega⟩ (by omega) (by omega)) dL_law_1115 ?_
  refine nq_top ea3 ?_
  refine lv_aload_n hx hb dL_law_1116 rfl (lv_at hl 1 rfl) ?_
  obtain ⟨fo1, hf2⟩ := hJ.2.2.2.2.1
  refine th_calli (vx_runSW (hh := [(0, 12, 15, 19), (0, 12, 19, 13)]) (As := [.ref x0, .int (I a1), .int (I a2), .int (I a3), .ref ou]) (rest := []) ⟨hx, hb, hml, hown, hts⟩ (w_years l hl0 G y s.heap.size σ E hJ.1 x0 hJ.2.1 m0 hJ.2.2.1 ou hJ.2.2.2.1 fo1 hf2 a1 ra1 a2 ra2 a3 ra3) (vx_cwSW 5 hts gv_L_years_162 rfl rfl rfl (by decide +kernel) ⟨Nat.le_of_ble_eq_true rfl, Nat.le_of_ble_eq_true rfl⟩) (th_PXS hK hXs hS hH) rfl rfl hl.1 rfl (lv_room (Nat.le_of_ble_eq_true rfl)) dL_law_1117 ⟨show _ + _ ≤ 601024 by omega, show _ + _ ≤ 7293034 by omega⟩) hS (fun z3 σ5 H locs rz3 hw4 hH hS => ?_)
  obtain ⟨E6, hX7, hO8, hF9, hf10, hw4⟩ := hw4
  have hJ11 := hJ.cls hX7 hO8 hF9 (by decide) hf10 rfl
  have hthJ11 := hJ11.tapm
  have huhJ11 := hJ.tapx
  have hvhJ11 := hJ.tapm
  have m116 := fx.m0 hJ hF9 (by decide) 21
  have rm12 := hJ.row6 hX7 hF9 (by decide)
  have m814 := hJ.row8 hX7 hF9 (by decide)
  have hT13 := hT.cls (Or.inr ⟨hw4.2.1, by omega⟩) rm12
  have hI15 := hI.keep hX7 hJ.2.1 hw4.1.2 hw4.2.2 m116 m814
  replace hw4 := hw4.1
  refine lv_istore (lv' := [(5, .int (I z3)), (4, .int (I i)), (3, .ref ou), (2, .ref m0), (1, .ref x0), (0, .ref b)]) hx hb dL_law_1120 hl (by decide) rfl (fun ls hl => ?_)
  refine lv_aload_n hx hb dL_law_1122 rfl (lv_at hl 3 rfl) ?_
  refine lv_aload_n hx hb dL_law_1123 rfl (lv_at hl 5 rfl) ?_
  refine lv_iload hx hb dL_law_1124 (lv_at hl 1 rfl) ?_
  refine lv_iconst (v := I 1) hx hb dL_law_1126 (by decide) ?_
  refine lv_iadd hx hb dL_law_1127 ?_
  refine nq_top (I_add _ _) ?_
  refine va_sld hx hb hX hbl hbA hS (i := I (i + 1)) (I_in ⟨by omega, by omega⟩ (by omega) (by omega)) dL_law_1128 ?_
  refine nq_top ea1 ?_
  refine lv_aload_n hx hb dL_law_1129 rfl (lv_at hl 5 rfl) ?_
  refine lv_iload hx hb dL_law_1130 (lv_at hl 1 rfl) ?_
  refine lv_iconst (v := I 2) hx hb dL_law_1132 (by decide) ?_
  refine lv_iadd hx hb dL_law_1133 ?_
  refine nq_top (I_add _ _) ?_
  refine va_sld hx hb hX hbl hbA hS (i := I (i + 2)) (I_in ⟨by omega, by omega⟩ (by omega) (by omega)) dL_law_1134 ?_
  refine nq_top ea2 ?_
  refine lv_aload_n hx hb dL_law_1135 rfl (lv_at hl 5 rfl) ?_
  refine lv_iload hx hb dL_law_1136 (lv_at hl 1 rfl) ?_
  refine lv_iconst (v := I 3) hx hb dL_law_1138 (by decide) ?_
  refine lv_iadd hx hb dL_law_1139 ?_
  refine nq_top (I_add _ _) ?_
  refine va_sld hx hb hX hbl hbA hS (i := I (i + 3)) (I_in ⟨by omega, by omega⟩ (by omega) (by omega)) dL_law_1140 ?_
  refine nq_top ea3 ?_
  obtain ⟨_, hc17⟩ := hJ11.1.cell hJ11.2.2.1 (by decide) (ci := 11) rfl
  refine th_calli (va_runV (As := [.int (I a1), .int (I a2), .int (I a3)]) (rest := []) ⟨hx, hb, hml, hown, hts⟩ (j_years l G y s.heap.size σ5 E6 hJ11.1 m0 hJ11.2.2.1 a1 ra1 a2 ra2 a3 ra3 _ rfl _ rfl _ rfl _ rfl _ rfl _ rfl _ rfl _ rfl _ rfl _ rfl _ rfl _ rfl _ rfl _ rfl hJ11.jw) (cwV 3 hts gv_X11_years_164 rfl rfl rfl (by decide +kernel) ⟨Nat.le_of_ble_eq_true rfl, Nat.le_of_ble_eq_true rfl⟩) (th_PV hK hH rfl hc17) rfl rfl hl.1 rfl (lv_room (Nat.le_of_ble_eq_true rfl)) dL_law_1141 ⟨show _ + _ ≤ 601024 by omega, show _ + _ ≤ 7293034 by omega⟩) hS (fun z20 σ19 H locs rz20 hw18 hH hS => ?_)
  obtain ⟨hO22, hF23, hM24, hq26, hw18⟩ := hw18
  have hwhJ25 := hJ11.tapm
  have hJ25 := hJ11.ref hO22 hF23 hM24 hq26 (show gI σ19 m0 12 = (gI σ5 x0 1) by omega)
  have rx32 := fr.af hJ11.1 hF23 hJ11.2.1 (by decide) (by decide) k12_0 isA1
  have hchJ25 := fr.ki hJ11.1 hF23 hJ11.2.1 (by decide) (by decide) 1
  have hT33 := hT13.ref rx32 (hM24.a (by decide) (by decide)) hchJ25
  have x230 := fr.ki hJ11.1 hF23 hJ11.2.1 (by decide) (by decide) 2
  have xq31 := fr.aq hJ11.1 hF23 hJ11.2.1 (by decide) (by decide) k12_3
  have m829 : aF σ19 (ad E6 m0 8) = aF σ5 (ad E6 m0 8) := hM24.a (by decide) (by decide)
  have m128 := hM24.i (k := 21) (by decide)
  have hI27 := hI15.keep ext.rf hJ11.2.1 x230 xq31 m128 m829
  refine lv_istore (lv' := [(6, .int (I z20)), (5, .int (I z3)), (4, .int (I i)), (3, .ref ou), (2, .ref m0), (1, .ref x0), (0, .ref b)]) hx hb dL_law_1144 hl (by decide) rfl (fun ls hl => ?_)
  refine lv_goto (tgt := 1173) hx hb dL_law_1146 (by decide) ?_
  exact kk _ _ _ _ _ _ _ _ hJ25 hI27 hT33 hH hS (lv_sub hl [2, 3, 4, 5, 6] rfl) (by omega) (by omega)

set_option maxHeartbeats 400000 in
set_option maxRecDepth 100000 in
theorem lc_26 {p : Program} {e : Env} {s : State} {m : MethodId} {below : List Frame} {meth : Method} {c : Code} {l : Launch} {b L : Nat} {xs : Nat → Int32} {G : va_G} {y : Nat → ClassId} (hl0 : l.stackTraces = false) (C0 : lw_At p s m meth c b L xs) (hK : nq_K G y s) (hXs : nq_X (th_A s.heap.size) s) {E : th_E} {σ : th_M} {x0 m0 ou : Nat} {t i : Int} (hL : L ≤ 3072) (hi0 : 0 ≤ i) (hi1 : i + 6 ≤ L) (hJ : LJ y E σ x0 m0 ou t t) (hI : F5 E σ x0 m0) (hT : tp E σ x0 m0) {H : Heap} {locs : List Loc} {ls : Array Slot} {cells slots : Nat} (hH : th_H G s.heap.size σ H) (hS : va_S (th_A s.heap.size) s.heap H locs) (hl : lv_has ls 7 [(4, .int (I i)), (3, .ref ou), (2, .ref m0), (1, .ref x0), (0, .ref b)]) (hc0 : cells + 200 ≤ 601024) (hs0 : slots + 9800 ≤ 7293034) {Q : State → Prop} (kk : ∀ (E1 : th_E) (σ1 : th_M) (t1 : Int) (H1 : Heap) (locs1 : List Loc) (ls1 : Array Slot) (k1 n1 : Nat), LJ y E1 σ1 x0 m0 ou t1 t1 → F5 E1 σ1 x0 m0 → tp E1 σ1 x0 m0 → th_H G s.heap.size σ1 H1 → va_S (th_A s.heap.size) s.heap H1 locs1 → lv_has ls1 7 [(4, .int (I i)), (3, .ref ou), (2, .ref m0), (1, .ref x0), (0, .ref b)] → k1 ≤ cells + 200 → n1 ≤ slots + 9800 → W p l e room_1 s m #[Value.ref b] below meth c H1 locs1 k1 n1 Q (F0 m 1173 ls1 [])) : W p l e room_1 s m #[Value.ref b] below meth c H locs cells slots Q (F0 m 1149 ls []) := by
  obtain ⟨hx, hb, hr, hml, hown, hts, hX, hbl, hlocks, hgv⟩ := C0
  have hbA : ¬ th_A s.heap.size b := Nat.not_le.mpr hbl
  refine lv_aload_n hx hb dL_law_1149 rfl (lv_at hl 3 rfl) ?_
  obtain ⟨_, hc1⟩ := hJ.1.cell hJ.2.1 (by decide) (ci := 10) rfl
  refine th_callv (va_runV (As := []) (rest := []) ⟨hx, hb, hml, hown, hts⟩ (q_image l G y s.heap.size σ E hJ.1 x0 hJ.2.1 ) (cwV 0 hts gv_X10_image_165 rfl rfl rfl (by decide +kernel) ⟨Nat.le_of_ble_eq_true rfl, Nat.le_of_ble_eq_true rfl⟩) (th_PV hK hH rfl hc1) rfl rfl hl.1 rfl (lv_room (Nat.le_of_ble_eq_true rfl)) dL_law_1150 ⟨show _ + _ ≤ 601024 by omega, show _ + _ ≤ 7293034 by omega⟩) hS (fun σ3 H locs hw2 hH hS => ?_)
  obtain ⟨E15, hX4, hO5, hF6, hw2⟩ := hw2
  have hJ8 := hJ.clr hX4 hO5 hF6 (by decide) rfl
  have m111 := fr.ki hJ.1 hF6 hJ.2.2.1 (by decide) (by decide) 21
  have m812 := hJ.row8 hX4 (fun x _ h0 hs => hF6 x h0 hs) (by decide)
  have hthJ8 := hJ8.tapm
  have huhJ8 := hJ.tapx
  have hvhJ8 := hJ.tapm
  have rm17 := hJ.row6 hX4 (fun x _ h0 hs => hF6 x h0 hs) (by decide)
  have x213 := hw2.1.1
  have xq14 := hw2.2.2
  have hT16 := hT.cls (Or.inr ⟨by rw [hX4.ad2 hJ.2.1 (by decide) 0]; exact hw2.2.1, by omega⟩) rm17
  replace hw2 := hw2.1
  have hI10 := hI.keep hX4 hJ.2.1 x213 (by rw [hX4.ad2 hJ.2.1 (by decide) 3]; exact xq14) m111 m812
  refine lv_aload_n hx hb dL_law_1153 rfl (lv_at hl 2 rfl) ?_
  obtain ⟨_, hc18⟩ := hJ8.1.cell hJ8.2.2.1 (by decide) (ci := 11) rfl
  refine th_callv (va_runV (As := []) (rest := []) ⟨hx, hb, hml, hown, hts⟩ (j_image l G y s.heap.size σ3 E15 hJ8.1 m0 hJ8.2.2.1  _ rfl _ rfl _ rfl _ rfl _ rfl _ rfl _ rfl _ rfl _ rfl _ rfl _ rfl _ rfl _ rfl _ rfl _ rfl _ rfl _ rfl hJ8.jw) (cwV 0 hts gv_X11_image_168 rfl rfl rfl (by decide +kernel) ⟨Nat.le_of_ble_eq_true rfl, Nat.le_of_ble_eq_true rfl⟩) (th_PV hK hH rfl hc18) rfl rfl hl.1 rfl (lv_room (Nat.le_of_ble_eq_true rfl)) dL_law_1154 ⟨show _ + _ ≤ 601024 by omega, show _ + _ ≤ 7293034 by omega⟩) hS (fun σ20 H locs hw19 hH hS => ?_)
  obtain ⟨hO22, hF23, hM24, hq26, hw19⟩ := hw19
  have hwhJ25 := hJ8.tapm
  have hJ25 := hJ8.ref hO22 hF23 hM24 hq26 (show gI σ20 m0 12 = (gI σ3 x0 1) by omega)
  have rx32 := fr.af hJ8.1 hF23 hJ8.2.1 (by decide) (by decide) k12_0 isA1
  have hchJ25 := fr.ki hJ8.1 hF23 hJ8.2.1 (by decide) (by decide) 1
  have hT33 := hT16.ref rx32 (hM24.a (by decide) (by decide)) hchJ25
  have x230 := fr.ki hJ8.1 hF23 hJ8.2.1 (by decide) (by decide) 2
  have xq31 := fr.aq hJ8.1 hF23 hJ8.2.1 (by decide) (by decide) k12_3
  have m829 : aF σ20 (ad E15 m0 8) = aF σ3 (ad E15 m0 8) := hM24.a (by decide) (by decide)
  have m128 := hM24.i (k := 21) (by decide)
  have hI27 := hI10.keep ext.rf hJ8.2.1 x230 xq31 m128 m829
  refine lv_goto (tgt := 1173) hx hb dL_law_1157 (by decide) ?_
  exact kk _ _ _ _ _ _ _ _ hJ25 hI27 hT33 hH hS (lv_sub hl [0, 1, 2, 3, 4] rfl) (by omega) (by omega)

set_option maxHeartbeats 400000 in
set_option maxRecDepth 100000 in
theorem lc_27 {p : Program} {e : Env} {s : State} {m : MethodId} {below : List Frame} {meth : Method} {c : Code} {l : Launch} {b L : Nat} {xs : Nat → Int32} {G : va_G} {y : Nat → ClassId} (hl0 : l.stackTraces = false) (C0 : lw_At p s m meth c b L xs) (hK : nq_K G y s) (hXs : nq_X (th_A s.heap.size) s) {E : th_E} {σ : th_M} {x0 m0 ou : Nat} {t i : Int} (hL : L ≤ 3072) (hi0 : 0 ≤ i) (hi1 : i + 6 ≤ L) (hJ : LJ y E σ x0 m0 ou t t) (hI : F5 E σ x0 m0) (hT : tp E σ x0 m0) {H : Heap} {locs : List Loc} {ls : Array Slot} {cells slots : Nat} (hH : th_H G s.heap.size σ H) (hS : va_S (th_A s.heap.size) s.heap H locs) (hl : lv_has ls 7 [(4, .int (I i)), (3, .ref ou), (2, .ref m0), (1, .ref x0), (0, .ref b)]) (hc0 : cells + 200 ≤ 601024) (hs0 : slots + 9800 ≤ 7293034) {Q : State → Prop} (kk : ∀ (E1 : th_E) (σ1 : th_M) (t1 : Int) (H1 : Heap) (locs1 : List Loc) (ls1 : Array Slot) (k1 n1 : Nat), LJ y E1 σ1 x0 m0 ou t1 t1 → F5 E1 σ1 x0 m0 → tp E1 σ1 x0 m0 → th_H G s.heap.size σ1 H1 → va_S (th_A s.heap.size) s.heap H1 locs1 → lv_has ls1 7 [(4, .int (I i)), (3, .ref ou), (2, .ref m0), (1, .ref x0), (0, .ref b)] → k1 ≤ cells + 200 → n1 ≤ slots + 9800 → W p l e room_1 s m #[Value.ref b] below meth c H1 locs1 k1 n1 Q (F0 m 1173 ls1 [])) : W p l e room_1 s m #[Value.ref b] below meth c H locs cells slots Q (F0 m 1160 ls []) := by
  obtain ⟨hx, hb, hr, hml, hown, hts, hX, hbl, hlocks, hgv⟩ := C0
  have hbA : ¬ th_A s.heap.size b := Nat.not_le.mpr hbl
  refine lv_aload_n hx hb dL_law_1160 rfl (lv_at hl 3 rfl) ?_
  obtain ⟨_, hc1⟩ := hJ.1.cell hJ.2.1 (by decide) (ci := 10) rfl
  refine th_calli (va_runV (As := []) (rest := []) ⟨hx, hb, hml, hown, hts⟩ (q_restore l G y s.heap.size σ E hJ.1 x0 hJ.2.1 ) (cwV 0 hts gv_X10_restore_169 rfl rfl rfl (by decide +kernel) ⟨Nat.le_of_ble_eq_true rfl, Nat.le_of_ble_eq_true rfl⟩) (th_PV hK hH rfl hc1) rfl rfl hl.1 rfl (lv_room (Nat.le_of_ble_eq_true rfl)) dL_law_1161 ⟨show _ + _ ≤ 601024 by omega, show _ + _ ≤ 7293034 by omega⟩) hS (fun z4 σ3 H locs rz4 hw2 hH hS => ?_)
  obtain ⟨E16, hX5, hO6, hF7, _, hw2⟩ := hw2
  have hJ9 := hJ.clr hX5 hO6 hF7 (by decide) rfl
  have hkhJ9 := fr.ki hJ.1 hF7 hJ.2.1 (by decide) (by decide) 1
  have x214 := fr.ki hJ.1 hF7 hJ.2.1 (by decide) (by decide) 2
  have xq15 := fr.aq hJ.1 hF7 hJ.2.1 (by decide) (by decide) k12_3
  have m112 := fr.ki hJ.1 hF7 hJ.2.2.1 (by decide) (by decide) 21
  have m813 := hJ.row8 hX5 (fun x _ h0 hs => hF7 x h0 hs) (by decide)
  have hthJ9 := hJ9.tapm
  have huhJ9 := hJ.tapx
  have hvhJ9 := hJ.tapm
  have rm18 := hJ.row6 hX5 (fun x _ h0 hs => hF7 x h0 hs) (by decide)
  have hT17 := hT.cls (Or.inr ⟨by rw [hX5.ad2 hJ.2.1 (by decide) 0]; exact fr.af hJ.1 hF7 hJ.2.1 (by decide) (by decide) k12_0 isA1, by omega⟩) rm18
  have hI11 := hI.keep hX5 hJ.2.1 x214 (by rw [hX5.ad2 hJ.2.1 (by decide) 3]; exact xq15) m112 m813
  refine lv_pop hx hb dL_law_1164 rfl ?_
  refine lv_aload_n hx hb dL_law_1165 rfl (lv_at hl 2 rfl) ?_
  obtain ⟨_, hc19⟩ := hJ9.1.cell hJ9.2.2.1 (by decide) (ci := 11) rfl
  refine th_calli (va_runV (As := []) (rest := []) ⟨hx, hb, hml, hown, hts⟩ (j_restore l G y s.heap.size σ3 E16 hJ9.1 m0 hJ9.2.2.1  _ rfl _ rfl _ rfl _ rfl _ rfl _ rfl _ rfl _ rfl _ rfl _ rfl _ rfl _ rfl _ rfl _ rfl _ rfl _ rfl _ rfl hJ9.jw) (cwV 0 hts gv_X11_restore_173 rfl rfl rfl (by decide +kernel) ⟨Nat.le_of_ble_eq_true rfl, Nat.le_of_ble_eq_true rfl⟩) (th_PV hK hH rfl hc19) rfl rfl hl.1 rfl (lv_room (Nat.le_of_ble_eq_true rfl)) dL_law_1166 ⟨show _ + _ ≤ 601024 by omega, show _ + _ ≤ 7293034 by omega⟩) hS (fun z22 σ21 H locs rz22 hw20 hH hS => ?_)
  obtain ⟨hO24, hF25, hM26, _, hq28, hw20⟩ := hw20
  have hwhJ27 := hJ9.tapm
  have hJ27 := hJ9.ref hO24 hF25 hM26 hq28 (show gI σ21 m0 12 = (gI σ3 x0 1) by omega)
  have rx34 := fr.af hJ9.1 hF25 hJ9.2.1 (by decide) (by decide) k12_0 isA1
  have hchJ27 := fr.ki hJ9.1 hF25 hJ9.2.1 (by decide) (by decide) 1
  have hT35 := hT17.ref rx34 (hM26.a (by decide) (by decide)) hchJ27
  have x232 := fr.ki hJ9.1 hF25 hJ9.2.1 (by decide) (by decide) 2
  have xq33 := fr.aq hJ9.1 hF25 hJ9.2.1 (by decide) (by decide) k12_3
  have m831 : aF σ21 (ad E16 m0 8) = aF σ3 (ad E16 m0 8) := hM26.a (by decide) (by decide)
  have m130 := hM26.i (k := 21) (by decide)
  have hI29 := hI11.keep ext.rf hJ9.2.1 x232 xq33 m130 m831
  refine lv_pop hx hb dL_law_1169 rfl ?_
  refine lv_goto (tgt := 1173) hx hb dL_law_1170 (by decide) ?_
  exact kk _ _ _ _ _ _ _ _ hJ27 hI29 hT35 hH hS (lv_sub hl [0, 1, 2, 3, 4] rfl) (by omega) (by omega)
