set_option maxHeartbeats 400000 in
set_option maxRecDepth 100000 in
theorem lc_21 {p : Program} {e : Env} {s : State} {m : MethodId} {below : List Frame} {meth : Method} {c : Code} {l : Launch} {b L : Nat} {xs : Nat → Int32} {G : va_G} {y : Nat → ClassId} (hl0 : l.stackTraces = false) (C0 : lw_At p s m meth c b L xs) (hK : nq_K G y s) (hXs : nq_X (th_A s.heap.size) s) {E : th_E} {σ : th_M} {x0 m0 ou : Nat} {t i : Int} (hL : L ≤ 3072) (hi0 : 0 ≤ i) (hi1 : i + 6 ≤ L) (hJ : LJ y E σ x0 m0 ou t t) {h : Int} (hI : gI σ x0 11 = h ∧ gI σ m0 58 = h) (hT : tp E σ x0 m0) {H : Heap} {locs : List Loc} {ls : Array Slot} {cells slots : Nat} (hH : th_H G s.heap.size σ H) (hS : va_S (th_A s.heap.size) s.heap H locs) (hl : lv_has ls 7 [(4, .int (I i)), (3, .ref ou), (2, .ref m0), (1, .ref x0), (0, .ref b)]) (hc0 : cells + 200 ≤ 601024) (hs0 : slots + 9800 ≤ 7293034) {Q : State → Prop} (kk : ∀ (E1 : th_E) (σ1 : th_M) (t1 : Int) (H1 : Heap) (locs1 : List Loc) (ls1 : Array Slot) (k1 n1 : Nat) (h1 : Int), LJ y E1 σ1 x0 m0 ou t1 t1 → (gI σ1 x0 11 = h1 ∧ gI σ1 m0 58 = h1) → tp E1 σ1 x0 m0 → th_H G s.heap.size σ1 H1 → va_S (th_A s.heap.size) s.heap H1 locs1 → lv_has ls1 7 [(4, .int (I i)), (3, .ref ou), (2, .ref m0), (1, .ref x0), (0, .ref b)] → k1 ≤ cells + 200 → n1 ≤ slots + 9800 → W p l e room_1 s m #[Value.ref b] below meth c H1 locs1 k1 n1 Q (F0 m 1201 ls1 [])) : W p l e room_1 s m #[Value.ref b] below meth c H locs cells slots Q (F0 m 1035 ls []) := by
  obtain ⟨hx, hb, hr, hml, hown, hts, hX, hbl, hlocks, hgv⟩ := C0
  have hbA : ¬ th_A s.heap.size b := Nat.not_le.mpr hbl
  refine lv_aload_n hx hb dL_law_1035 rfl (lv_at hl 3 rfl) ?_
  obtain ⟨_, hc1⟩ := hJ.1.cell hJ.2.1 (by decide) (ci := 10) rfl
  refine th_calli (va_runV (As := []) (rest := []) ⟨hx, hb, hml, hown, hts⟩ (q_undo l G y s.heap.size σ E hJ.1 x0 hJ.2.1 ) (cwV 0 hts gv_X10_undo_148 rfl rfl rfl (by decide +kernel) ⟨Nat.le_of_ble_eq_true rfl, Nat.le_of_ble_eq_true rfl⟩) (th_PV hK hH rfl hc1) rfl rfl hl.1 rfl (lv_room (Nat.le_of_ble_eq_true rfl)) dL_law_1036 ⟨show _ + _ ≤ 601024 by omega, show _ + _ ≤ 7293034 by omega⟩) hS (fun z4 σ3 H locs rz4 hw2 hH hS => ?_)
  obtain ⟨hO6, hF7, hw2⟩ := hw2
  have hJ9 := hJ.clr (ext.rf (E := E)) hO6 hF7 (by decide) rfl
  have hkhJ9 := fr.ki hJ.1 hF7 hJ.2.1 (by decide) (by decide) 1
  have hmhJ9 := fr.ki hJ.1 hF7 hJ.2.2.1 (by decide) (by decide) 58
  have hihJ9 := fr.ki hJ.1 hF7 hJ.2.1 (by decide) (by decide) 11
  have hthJ9 := hJ9.tapm
  have huhJ9 := hJ.tapx
  have hvhJ9 := hJ.tapm
  have rm12 := hJ.row6 (ext.rf (E := E)) (fun x _ h0 hs => hF7 x h0 hs) (by decide)
  have hT11 := hT.cls (Or.inr ⟨by rw [(ext.rf (E := E)).ad2 hJ.2.1 (by decide) 0]; exact fr.af hJ.1 hF7 hJ.2.1 (by decide) (by decide) k12_0 isA1, by omega⟩) rm12
  refine lv_pop hx hb dL_law_1039 rfl ?_
  refine lv_aload_n hx hb dL_law_1040 rfl (lv_at hl 2 rfl) ?_
  obtain ⟨_, hc13⟩ := hJ9.1.cell hJ9.2.2.1 (by decide) (ci := 11) rfl
  refine th_calli (va_runV (As := []) (rest := []) ⟨hx, hb, hml, hown, hts⟩ (j_undo l G y s.heap.size σ3 E hJ9.1 m0 hJ9.2.2.1  _ rfl _ rfl _ rfl _ rfl _ rfl _ rfl _ rfl _ rfl _ rfl _ rfl _ rfl hJ9.jw) (cwV 0 hts gv_X11_undo_151 rfl rfl rfl (by decide +kernel) ⟨Nat.le_of_ble_eq_true rfl, Nat.le_of_ble_eq_true rfl⟩) (th_PV hK hH rfl hc13) rfl rfl hl.1 rfl (lv_room (Nat.le_of_ble_eq_true rfl)) dL_law_1041 ⟨show _ + _ ≤ 601024 by omega, show _ + _ ≤ 7293034 by omega⟩) hS (fun z16 σ15 H locs rz16 hw14 hH hS => ?_)
  obtain ⟨hO18, hF19, hM20, hq22, hw14⟩ := hw14
  have hJ21 := hJ9.ref hO18 hF19 hM20 hq22 (show gI σ15 m0 12 = (gI σ3 x0 1) by omega)
  have rx23 := fr.af hJ9.1 hF19 hJ9.2.1 (by decide) (by decide) k12_0 isA1
  have hchJ21 := fr.ki hJ9.1 hF19 hJ9.2.1 (by decide) (by decide) 1
  have hT24 := hT11.ref rx23 (hM20.a (by decide) (by decide)) hchJ21
  have hihJ21 := fr.ki hJ9.1 hF19 hJ9.2.1 (by decide) (by decide) 11
  have hmhJ21 := hM20.i (k := 58) (by decide)
  refine lv_pop hx hb dL_law_1044 rfl ?_
  refine lv_goto (tgt := 1201) hx hb dL_law_1045 (by decide) ?_
  exact kk _ _ _ _ _ _ _ _ (gI σ15 x0 11) hJ21 ⟨rfl, by omega⟩ hT24 hH hS (lv_sub hl [0, 1, 2, 3, 4] rfl) (by omega) (by omega)

set_option maxHeartbeats 400000 in
set_option maxRecDepth 100000 in
theorem lc_22 {p : Program} {e : Env} {s : State} {m : MethodId} {below : List Frame} {meth : Method} {c : Code} {l : Launch} {b L : Nat} {xs : Nat → Int32} {G : va_G} {y : Nat → ClassId} (hl0 : l.stackTraces = false) (C0 : lw_At p s m meth c b L xs) (hK : nq_K G y s) (hXs : nq_X (th_A s.heap.size) s) {E : th_E} {σ : th_M} {x0 m0 ou : Nat} {t i : Int} (hL : L ≤ 3072) (hi0 : 0 ≤ i) (hi1 : i + 6 ≤ L) (hJ : LJ y E σ x0 m0 ou t t) {h : Int} (hI : gI σ x0 11 = h ∧ gI σ m0 58 = h) (hT : tp E σ x0 m0) {H : Heap} {locs : List Loc} {ls : Array Slot} {cells slots : Nat} (hH : th_H G s.heap.size σ H) (hS : va_S (th_A s.heap.size) s.heap H locs) (hl : lv_has ls 7 [(4, .int (I i)), (3, .ref ou), (2, .ref m0), (1, .ref x0), (0, .ref b)]) (hc0 : cells + 200 ≤ 601024) (hs0 : slots + 9800 ≤ 7293034) {Q : State → Prop} (kk : ∀ (E1 : th_E) (σ1 : th_M) (t1 : Int) (H1 : Heap) (locs1 : List Loc) (ls1 : Array Slot) (k1 n1 : Nat) (h1 : Int), LJ y E1 σ1 x0 m0 ou t1 t1 → (gI σ1 x0 11 = h1 ∧ gI σ1 m0 58 = h1) → tp E1 σ1 x0 m0 → th_H G s.heap.size σ1 H1 → va_S (th_A s.heap.size) s.heap H1 locs1 → lv_has ls1 7 [(4, .int (I i)), (3, .ref ou), (2, .ref m0), (1, .ref x0), (0, .ref b)] → k1 ≤ cells + 200 → n1 ≤ slots + 9800 → W p l e room_1 s m #[Value.ref b] below meth c H1 locs1 k1 n1 Q (F0 m 1201 ls1 [])) : W p l e room_1 s m #[Value.ref b] below meth c H locs cells slots Q (F0 m 1048 ls []) := by
  obtain ⟨hx, hb, hr, hml, hown, hts, hX, hbl, hlocks, hgv⟩ := C0
  have hbA : ¬ th_A s.heap.size b := Nat.not_le.mpr hbl
  obtain ⟨a1, ra1, ea1⟩ : ∃ z : Int, rng z ∧ xs (I (i + 1)).toNatClampNeg = I z := ⟨_, rng_toInt _, (I_of _).symm⟩
  obtain ⟨a2, ra2, ea2⟩ : ∃ z : Int, rng z ∧ xs (I (i + 2)).toNatClampNeg = I z := ⟨_, rng_toInt _, (I_of _).symm⟩
  refine lv_aload_n hx hb dL_law_1048 rfl (lv_at hl 3 rfl) ?_
  refine lv_aload_n hx hb dL_law_1049 rfl (lv_at hl 4 rfl) ?_
  refine lv_iload hx hb dL_law_1050 (lv_at hl 0 rfl) ?_
  refine lv_iconst (v := I 1) hx hb dL_law_1052 (by decide) ?_
  refine lv_iadd hx hb dL_law_1053 ?_
  refine nq_top (I_add _ _) ?_
  refine va_sld hx hb hX hbl hbA hS (i := I (i + 1)) (I_in ⟨by omega, by omega⟩ (by omega) (by omega)) dL_law_1054 ?_
  refine nq_top ea1 ?_
  refine lv_aload_n hx hb dL_law_1055 rfl (lv_at hl 4 rfl) ?_
  refine lv_iload hx hb dL_law_1056 (lv_at hl 0 rfl) ?_
  refine lv_iconst (v := I 2) hx hb dL_law_1058 (by decide) ?_
  refine lv_iadd hx hb dL_law_1059 ?_
  refine nq_top (I_add _ _) ?_
  refine va_sld hx hb hX hbl hbA hS (i := I (i + 2)) (I_in ⟨by omega, by omega⟩ (by omega) (by omega)) dL_law_1060 ?_
  refine nq_top ea2 ?_
  refine lv_if_eq (tgt := 1068) hx hb dL_law_1061 (by decide) (fun c1 => ?_) (fun c1 => ?_)
  · refine lv_iconst (v := I 0) hx hb dL_law_1068 (by decide) ?_
    obtain ⟨_, hc2⟩ := hJ.1.cell hJ.2.1 (by decide) (ci := 10) rfl
    refine th_calli (va_runV (As := [.int (I a1), .int (I 0)]) (rest := []) ⟨hx, hb, hml, hown, hts⟩ (q_note l G y s.heap.size σ E hJ.1 x0 hJ.2.1 a1 ra1 0 (show rng 0 from ⟨by decide, by decide⟩) (by decide) (by decide)) (cwV 2 hts gv_X10_note_152 rfl rfl rfl (by decide +kernel) ⟨Nat.le_of_ble_eq_true rfl, Nat.le_of_ble_eq_true rfl⟩) (th_PV hK hH rfl hc2) rfl rfl hl.1 rfl (lv_room (Nat.le_of_ble_eq_true rfl)) dL_law_1069 ⟨show _ + _ ≤ 601024 by omega, show _ + _ ≤ 7293034 by omega⟩) hS (fun z5 σ4 H locs rz5 hw3 hH hS => ?_)
    obtain ⟨hO7, hF8, hw3⟩ := hw3
    have hJ10 := hJ.clr (ext.rf (E := E)) hO7 hF8 (by decide) rfl
    have hkhJ10 := fr.ki hJ.1 hF8 hJ.2.1 (by decide) (by decide) 1
    have hmhJ10 := fr.ki hJ.1 hF8 hJ.2.2.1 (by decide) (by decide) 58
    have hihJ10 := fr.ki hJ.1 hF8 hJ.2.1 (by decide) (by decide) 11
    have hthJ10 := hJ10.tapm
    have huhJ10 := hJ.tapx
    have hvhJ10 := hJ.tapm
    have rm13 := hJ.row6 (ext.rf (E := E)) (fun x _ h0 hs => hF8 x h0 hs) (by decide)
    have hT12 := hT.cls (Or.inr ⟨by rw [(ext.rf (E := E)).ad2 hJ.2.1 (by decide) 0]; exact fr.af hJ.1 hF8 hJ.2.1 (by decide) (by decide) k12_0 isA1, by omega⟩) rm13
    refine lv_pop hx hb dL_law_1072 rfl ?_
    refine lv_aload_n hx hb dL_law_1073 rfl (lv_at hl 2 rfl) ?_
    refine lv_aload_n hx hb dL_law_1074 rfl (lv_at hl 4 rfl) ?_
    refine lv_iload hx hb dL_law_1075 (lv_at hl 0 rfl) ?_
    refine lv_iconst (v := I 1) hx hb dL_law_1077 (by decide) ?_
    refine lv_iadd hx hb dL_law_1078 ?_
    refine nq_top (I_add _ _) ?_
    refine va_sld hx hb hX hbl hbA hS (i := I (i + 1)) (I_in ⟨by omega, by omega⟩ (by omega) (by omega)) dL_law_1079 ?_
    refine nq_top ea1 ?_
    refine lv_aload_n hx hb dL_law_1080 rfl (lv_at hl 4 rfl) ?_
    refine lv_iload hx hb dL_law_1081 (lv_at hl 0 rfl) ?_
    refine lv_iconst (v := I 2) hx hb dL_law_1083 (by decide) ?_
    refine lv_iadd hx hb dL_law_1084 ?_
    refine nq_top (I_add _ _) ?_
    refine va_sld hx hb hX hbl hbA hS (i := I (i + 2)) (I_in ⟨by omega, by omega⟩ (by omega) (by omega)) dL_law_1085 ?_
    refine nq_top ea2 ?_
    refine lv_if_eq (tgt := 1093) hx hb dL_law_1086 (by decide) (fun c14 => ?_) (fun c14 => ?_)
    · refine lv_iconst (v := I 0) hx hb dL_law_1093 (by decide) ?_
      obtain ⟨_, hc15⟩ := hJ10.1.cell hJ10.2.2.1 (by decide) (ci := 11) rfl
      refine th_calli (va_runV (As := [.int (I a1), .int (I 0)]) (rest := []) ⟨hx, hb, hml, hown, hts⟩ (j_note l G y s.heap.size σ4 E hJ10.1 m0 hJ10.2.2.1 a1 ra1 0 (show rng 0 from ⟨by decide, by decide⟩) (by decide) (by decide) _ rfl _ rfl _ rfl _ rfl _ rfl _ rfl _ rfl _ rfl _ rfl _ rfl _ rfl hJ10.jw) (cwV 2 hts gv_X11_note_156 rfl rfl rfl (by decide +kernel) ⟨Nat.le_of_ble_eq_true rfl, Nat.le_of_ble_eq_true rfl⟩) (th_PV hK hH rfl hc15) rfl rfl hl.1 rfl (lv_room (Nat.le_of_ble_eq_true rfl)) dL_law_1094 ⟨show _ + _ ≤ 601024 by omega, show _ + _ ≤ 7293034 by omega⟩) hS (fun z18 σ17 H locs rz18 hw16 hH hS => ?_)
      obtain ⟨hO20, hF21, hM22, hq24, hw16⟩ := hw16
      have hJ23 := hJ10.ref hO20 hF21 hM22 hq24 (show gI σ17 m0 12 = (gI σ4 x0 1) by omega)
      have rx25 := fr.af hJ10.1 hF21 hJ10.2.1 (by decide) (by decide) k12_0 isA1
      have hchJ23 := fr.ki hJ10.1 hF21 hJ10.2.1 (by decide) (by decide) 1
      have hT26 := hT12.ref rx25 (hM22.a (by decide) (by decide)) hchJ23
      have hihJ23 := fr.ki hJ10.1 hF21 hJ10.2.1 (by decide) (by decide) 11
      have hmhJ23 := hM22.i (k := 58) (by decide)
      refine lv_pop hx hb dL_law_1097 rfl ?_
      refine lv_goto (tgt := 1201) hx hb dL_law_1098 (by decide) ?_
      exact kk _ _ _ _ _ _ _ _ (gI σ17 x0 11) hJ23 ⟨rfl, by omega⟩ hT26 hH hS (lv_sub hl [0, 1, 2, 3, 4] rfl) (by omega) (by omega)
    · refine lv_iconst (v := I 1) hx hb dL_law_1089 (by decide) ?_
      refine lv_goto (tgt := 1094) hx hb dL_law_1090 (by decide) ?_
      obtain ⟨_, hc27⟩ := hJ10.1.cell hJ10.2.2.1 (by decide) (ci := 11) rfl
      refine th_calli (va_runV (As := [.int (I a1), .int (I 1)]) (rest := []) ⟨hx, hb, hml, hown, hts⟩ (j_note l G y s.heap.size σ4 E hJ10.1 m0 hJ10.2.2.1 a1 ra1 1 (show rng 1 from ⟨by decide, by decide⟩) (by decide) (by decide) _ rfl _ rfl _ rfl _ rfl _ rfl _ rfl _ rfl _ rfl _ rfl _ rfl _ rfl hJ10.jw) (cwV 2 hts gv_X11_note_156 rfl rfl rfl (by decide +kernel) ⟨Nat.le_of_ble_eq_true rfl, Nat.le_of_ble_eq_true rfl⟩) (th_PV hK hH rfl hc27) rfl rfl hl.1 rfl (lv_room (Nat.le_of_ble_eq_true rfl)) dL_law_1094 ⟨show _ + _ ≤ 601024 by omega, show _ + _ ≤ 7293034 by omega⟩) hS (fun z30 σ29 H locs rz30 hw28 hH hS => ?_)
      obtain ⟨hO32, hF33, hM34, hq36, hw28⟩ := hw28
      have hJ35 := hJ10.ref hO32 hF33 hM34 hq36 (show gI σ29 m0 12 = (gI σ4 x0 1) by omega)
      have rx37 := fr.af hJ10.1 hF33 hJ10.2.1 (by decide) (by decide) k12_0 isA1
      have hchJ35 := fr.ki hJ10.1 hF33 hJ10.2.1 (by decide) (by decide) 1
      have hT38 := hT12.ref rx37 (hM34.a (by decide) (by decide)) hchJ35
      have hihJ35 := fr.ki hJ10.1 hF33 hJ10.2.1 (by decide) (by decide) 11
      have hmhJ35 := hM34.i (k := 58) (by decide)
      refine lv_pop hx hb dL_law_1097 rfl ?_
      refine lv_goto (tgt := 1201) hx hb dL_law_1098 (by decide) ?_
      exact kk _ _ _ _ _ _ _ _ (gI σ29 x0 11) hJ35 ⟨rfl, by omega⟩ hT38 hH hS (lv_sub hl [0, 1, 2, 3, 4] rfl) (by omega) (by omega)
  · refine lv_iconst (v := I 1) hx hb dL_law_1064 (by decide) ?_
    refine lv_goto (tgt := 1069) hx hb dL_law_1065 (by decide) ?_
    obtain ⟨_, hc39⟩ := hJ.1.cell hJ.2.1 (by decide) (ci := 10) rfl
    refine th_calli (va_runV (As := [.int (I a1), .int (I 1)]) (rest := []) ⟨hx, hb, hml, hown, hts⟩ (q_note l G y s.heap.size σ E hJ.1 x0 hJ.2.1 a1 ra1 1 (show rng 1 from ⟨by decide, by decide⟩) (by decide) (by decide)) (cwV 2 hts gv_X10_note_152 rfl rfl rfl (by decide +kernel) ⟨Nat.le_of_ble_eq_true rfl, Nat.le_of_ble_eq_true rfl⟩) (th_PV hK hH rfl hc39) rfl rfl hl.1 rfl (lv_room (Nat.le_of_ble_eq_true rfl)) dL_law_1069 ⟨show _ + _ ≤ 601024 by omega, show _ + _ ≤ 7293034 by omega⟩) hS (fun z42 σ41 H locs rz42 hw40 hH hS => ?_)
    obtain ⟨hO44, hF45, hw40⟩ := hw40
    have hJ47 := hJ.clr (ext.rf (E := E)) hO44 hF45 (by decide) rfl
    have hkhJ47 := fr.ki hJ.1 hF45 hJ.2.1 (by decide) (by decide) 1
    have hmhJ47 := fr.ki hJ.1 hF45 hJ.2.2.1 (by decide) (by decide) 58
    have hihJ47 := fr.ki hJ.1 hF45 hJ.2.1 (by decide) (by decide) 11
    have hthJ47 := hJ47.tapm
    have huhJ47 := hJ.tapx
    have hvhJ47 := hJ.tapm
    have rm50 := hJ.row6 (ext.rf (E := E)) (fun x _ h0 hs => hF45 x h0 hs) (by decide)
    have hT49 := hT.cls (Or.inr ⟨by rw [(ext.rf (E := E)).ad2 hJ.2.1 (by decide) 0]; exact fr.af hJ.1 hF45 hJ.2.1 (by decide) (by decide) k12_0 isA1, by omega⟩) rm50
    refine lv_pop hx hb dL_law_1072 rfl ?_
    refine lv_aload_n hx hb dL_law_1073 rfl (lv_at hl 2 rfl) ?_
    refine lv_aload_n hx hb dL_law_1074 rfl (lv_at hl 4 rfl) ?_
    refine lv_iload hx hb dL_law_1075 (lv_at hl 0 rfl) ?_
    refine lv_iconst (v := I 1) hx hb dL_law_1077 (by decide) ?_
    refine lv_iadd hx hb dL_law_1078 ?_
    refine nq_top (I_add _ _) ?_
    refine va_sld hx hb hX hbl hbA hS (i := I (i + 1)) (I_in ⟨by omega, by omega⟩ (by omega) (by omega)) dL_law_1079 ?_
    refine nq_top ea1 ?_
    refine lv_aload_n hx hb dL_law_1080 rfl (lv_at hl 4 rfl) ?_
    refine lv_iload hx hb dL_law_1081 (lv_at hl 0 rfl) ?_
    refine lv_iconst (v := I 2) hx hb dL_law_1083 (by decide) ?_
    refine lv_iadd hx hb dL_law_1084 ?_
    refine nq_top (I_add _ _) ?_
    refine va_sld hx hb hX hbl hbA hS (i := I (i + 2)) (I_in ⟨by omega, by omega⟩ (by omega) (by omega)) dL_law_1085 ?_
    refine nq_top ea2 ?_
    refine lv_if_eq (tgt := 1093) hx hb dL_law_1086 (by decide) (fun c51 => ?_) (fun c51 => ?_)
    · refine lv_iconst (v := I 0) hx hb dL_law_1093 (by decide) ?_
      obtain ⟨_, hc52⟩ := hJ47.1.cell hJ47.2.2.1 (by decide) (ci := 11) rfl
      refine th_calli (va_runV (As := [.int (I a1), .int (I 0)]) (rest := []) ⟨hx, hb, hml, hown, hts⟩ (j_note l G y s.heap.size σ41 E hJ47.1 m0 hJ47.2.2.1 a1 ra1 0 (show rng 0 from ⟨by decide, by decide⟩) (by decide) (by decide) _ rfl _ rfl _ rfl _ rfl _ rfl _ rfl _ rfl _ rfl _ rfl _ rfl _ rfl hJ47.jw) (cwV 2 hts gv_X11_note_156 rfl rfl rfl (by decide +kernel) ⟨Nat.le_of_ble_eq_true rfl, Nat.le_of_ble_eq_true rfl⟩) (th_PV hK hH rfl hc52) rfl rfl hl.1 rfl (lv_room (Nat.le_of_ble_eq_true rfl)) dL_law_1094 ⟨show _ + _ ≤ 601024 by omega, show _ + _ ≤ 7293034 by omega⟩) hS (fun z55 σ54 H locs rz55 hw53 hH hS => ?_)
      obtain ⟨hO57, hF58, hM59, hq61, hw53⟩ := hw53
      have hJ60 := hJ47.ref hO57 hF58 hM59 hq61 (show gI σ54 m0 12 = (gI σ41 x0 1) by omega)
      have rx62 := fr.af hJ47.1 hF58 hJ47.2.1 (by decide) (by decide) k12_0 isA1
      have hchJ60 := fr.ki hJ47.1 hF58 hJ47.2.1 (by decide) (by decide) 1
      have hT63 := hT49.ref rx62 (hM59.a (by decide) (by decide)) hchJ60
      have hihJ60 := fr.ki hJ47.1 hF58 hJ47.2.1 (by decide) (by decide) 11
      have hmhJ60 := hM59.i (k := 58) (by decide)
      refine lv_pop hx hb dL_law_1097 rfl ?_
      refine lv_goto (tgt := 1201) hx hb dL_law_1098 (by decide) ?_
      exact kk _ _ _ _ _ _ _ _ (gI σ54 x0 11) hJ60 ⟨rfl, by omega⟩ hT63 hH hS (lv_sub hl [0, 1, 2, 3, 4] rfl) (by omega) (by omega)
    · refine lv_iconst (v := I 1) hx hb dL_law_1089 (by decide) ?_
      refine lv_goto (tgt := 1094) hx hb dL_law_1090 (by decide) ?_
      obtain ⟨_, hc64⟩ := hJ47.1.cell hJ47.2.2.1 (by decide) (ci := 11) rfl
      refine th_calli (va_runV (As := [.int (I a1), .int (I 1)]) (rest := []) ⟨hx, hb, hml, hown, hts⟩ (j_note l G y s.heap.size σ41 E hJ47.1 m0 hJ47.2.2.1 a1 ra1 1 (show rng 1 from ⟨by decide, by decide⟩) (by decide) (by decide) _ rfl _ rfl _ rfl _ rfl _ rfl _ rfl _ rfl _ rfl _ rfl _ rfl _ rfl hJ47.jw) (cwV 2 hts gv_X11_note_156 rfl rfl rfl (by decide +kernel) ⟨Nat.le_of_ble_eq_true rfl, Nat.le_of_ble_eq_true rfl⟩) (th_PV hK hH rfl hc64) rfl rfl hl.1 rfl (lv_room (Nat.le_of_ble_eq_true rfl)) dL_law_1094 ⟨show _ + _ ≤ 601024 by omega, show _ + _ ≤ 7293034 by omega⟩) hS (fun z67 σ66 H locs rz67 hw65 hH hS => ?_)
      obtain ⟨hO69, hF70, hM71, hq73, hw65⟩ := hw65
      have hJ72 := hJ47.ref hO69 hF70 hM71 hq73 (show gI σ66 m0 12 = (gI σ41 x0 1) by omega)
      have rx74 := fr.af hJ47.1 hF70 hJ47.2.1 (by decide) (by decide) k12_0 isA1
      have hchJ72 := fr.ki hJ47.1 hF70 hJ47.2.1 (by decide) (by decide) 1
      have hT75 := hT49.ref rx74 (hM71.a (by decide) (by decide)) hchJ72
      have hihJ72 := fr.ki hJ47.1 hF70 hJ47.2.1 (by decide) (by decide) 11
      have hmhJ72 := hM71.i (k := 58) (by decide)
      refine lv_pop hx hb dL_law_1097 rfl ?_
      refine lv_goto (tgt := 1201) hx hb dL_law_1098 (by decide) ?_
      exact kk _ _ _ _ _ _ _ _ (gI σ66 x0 11) hJ72 ⟨rfl, by omega⟩ hT75 hH hS (lv_sub hl [0, 1, 2, 3, 4] rfl) (by omega) (by omega)

set_option maxHeartbeats 400000 in
set_option maxRecDepth 100000 in
theorem lc_23 {p : Program} {e : Env} {s : State} {m : MethodId} {below : List Frame} {meth : Method} {c : Code} {l : Launch} {b L : Nat} {xs : Nat → Int32} {G : va_G} {y : Nat → ClassId} (hl0 : l.stackTraces = false) (C0 : lw_At p s m meth c b L xs) (hK : nq_K G y s) (hXs : nq_X (th_A s.heap.size) s) {E : th_E} {σ : th_M} {x0 m0 ou : Nat} {t i : Int} (hL : L ≤ 3072) (hi0 : 0 ≤ i) (hi1 : i + 6 ≤ L) (hJ : LJ y E σ x0 m0 ou t t) {h : Int} (hI : gI σ x0 11 = h ∧ gI σ m0 58 = h) (hT : tp E σ x0 m0) {H : Heap} {locs : List Loc} {ls : Array Slot} {cells slots : Nat} (hH : th_H G s.heap.size σ H) (hS : va_S (th_A s.heap.size) s.heap H locs) (hl : lv_has ls 7 [(4, .int (I i)), (3, .ref ou), (2, .ref m0), (1, .ref x0), (0, .ref b)]) (hc0 : cells + 200 ≤ 601024) (hs0 : slots + 9800 ≤ 7293034) {Q : State → Prop} (kk : ∀ (E1 : th_E) (σ1 : th_M) (t1 : Int) (H1 : Heap) (locs1 : List Loc) (ls1 : Array Slot) (k1 n1 : Nat) (h1 : Int), LJ y E1 σ1 x0 m0 ou t1 t1 → (gI σ1 x0 11 = h1 ∧ gI σ1 m0 58 = h1) → tp E1 σ1 x0 m0 → th_H G s.heap.size σ1 H1 → va_S (th_A s.heap.size) s.heap H1 locs1 → lv_has ls1 7 [(4, .int (I i)), (3, .ref ou), (2, .ref m0), (1, .ref x0), (0, .ref b)] → k1 ≤ cells + 200 → n1 ≤ slots + 9800 → W p l e room_1 s m #[Value.ref b] below meth c H1 locs1 k1 n1 Q (F0 m 1201 ls1 [])) : W p l e room_1 s m #[Value.ref b] below meth c H locs cells slots Q (F0 m 1101 ls []) := by
  obtain ⟨hx, hb, hr, hml, hown, hts, hX, hbl, hlocks, hgv⟩ := C0
  have hbA : ¬ th_A s.heap.size b := Nat.not_le.mpr hbl
  refine lv_aload_n hx hb dL_law_1101 rfl (lv_at hl 3 rfl) ?_
  obtain ⟨_, hc1⟩ := hJ.1.cell hJ.2.1 (by decide) (ci := 10) rfl
  refine th_calli (va_runV (As := []) (rest := []) ⟨hx, hb, hml, hown, hts⟩ (q_look l G y s.heap.size σ E hJ.1 x0 hJ.2.1 ) (cwV 0 hts gv_X10_look_157 rfl rfl rfl (by decide +kernel) ⟨Nat.le_of_ble_eq_true rfl, Nat.le_of_ble_eq_true rfl⟩) (th_PV hK hH rfl hc1) rfl rfl hl.1 rfl (lv_room (Nat.le_of_ble_eq_true rfl)) dL_law_1102 ⟨show _ + _ ≤ 601024 by omega, show _ + _ ≤ 7293034 by omega⟩) hS (fun z4 σ3 H locs rz4 hw2 hH hS => ?_)
  obtain ⟨hO6, hF7, hw2⟩ := hw2
  have hJ9 := hJ.clr (ext.rf (E := E)) hO6 hF7 (by decide) rfl
  have hmhJ9 := fr.ki hJ.1 hF7 hJ.2.2.1 (by decide) (by decide) 58
  have hthJ9 := hJ9.tapm
  have huhJ9 := hJ.tapx
  have hvhJ9 := hJ.tapm
  have rm12 := hJ.row6 (ext.rf (E := E)) (fun x _ h0 hs => hF7 x h0 hs) (by decide)
  have hT11 := hT.cls (Or.inr ⟨by rw [(ext.rf (E := E)).ad2 hJ.2.1 (by decide) 0]; exact hw2.2, by omega⟩) rm12
  replace hw2 := hw2.1
  refine lv_pop hx hb dL_law_1105 rfl ?_
  refine lv_aload_n hx hb dL_law_1106 rfl (lv_at hl 2 rfl) ?_
  obtain ⟨_, hc13⟩ := hJ9.1.cell hJ9.2.2.1 (by decide) (ci := 11) rfl
  refine th_calli (va_runV (As := []) (rest := []) ⟨hx, hb, hml, hown, hts⟩ (j_look l G y s.heap.size σ3 E hJ9.1 m0 hJ9.2.2.1  _ rfl _ rfl _ rfl _ rfl _ rfl _ rfl _ rfl _ rfl _ rfl _ rfl _ rfl _ rfl hJ9.jw) (cwV 0 hts gv_X11_look_160 rfl rfl rfl (by decide +kernel) ⟨Nat.le_of_ble_eq_true rfl, Nat.le_of_ble_eq_true rfl⟩) (th_PV hK hH rfl hc13) rfl rfl hl.1 rfl (lv_room (Nat.le_of_ble_eq_true rfl)) dL_law_1107 ⟨show _ + _ ≤ 601024 by omega, show _ + _ ≤ 7293034 by omega⟩) hS (fun z16 σ15 H locs rz16 hw14 hH hS => ?_)
  obtain ⟨hO18, hF19, hM20, hq22, hw14⟩ := hw14
  have hJ21 := hJ9.ref hO18 hF19 hM20 hq22 (show gI σ15 m0 12 = (gI σ3 x0 1) by omega)
  have rx23 := fr.af hJ9.1 hF19 hJ9.2.1 (by decide) (by decide) k12_0 isA1
  have hchJ21 := fr.ki hJ9.1 hF19 hJ9.2.1 (by decide) (by decide) 1
  have hT24 := hT11.ref rx23 (hM20.a (by decide) (by decide)) hchJ21
  have hihJ21 := fr.ki hJ9.1 hF19 hJ9.2.1 (by decide) (by decide) 11
  have hmhJ21 := hM20.i (k := 58) (by decide)
  refine lv_pop hx hb dL_law_1110 rfl ?_
  refine lv_goto (tgt := 1201) hx hb dL_law_1111 (by decide) ?_
  exact kk _ _ _ _ _ _ _ _ (gI σ15 x0 11) hJ21 ⟨rfl, by omega⟩ hT24 hH hS (lv_sub hl [0, 1, 2, 3, 4] rfl) (by omega) (by omega)

set_option maxHeartbeats 400000 in
set_option maxRecDepth 100000 in
theorem lc_24 {p : Program} {e : Env} {s : State} {m : MethodId} {below : List Frame} {meth : Method} {c : Code} {l : Launch} {b L : Nat} {xs : Nat → Int32} {G : va_G} {y : Nat → ClassId} (hl0 : l.stackTraces = false) (C0 : lw_At p s m meth c b L xs) (hK : nq_K G y s) (hXs : nq_X (th_A s.heap.size) s) {E : th_E} {σ : th_M} {x0 m0 ou : Nat} {t i : Int} (hL : L ≤ 3072) (hi0 : 0 ≤ i) (hi1 : i + 6 ≤ L) (hJ : LJ y E σ x0 m0 ou t t) {h : Int} (hI : gI σ x0 11 = h ∧ gI σ m0 58 = h) (hT : tp E σ x0 m0) {H : Heap} {locs : List Loc} {ls : Array Slot} {cells slots : Nat} (hH : th_H G s.heap.size σ H) (hS : va_S (th_A s.heap.size) s.heap H locs) (hl : lv_has ls 7 [(4, .int (I i)), (3, .ref ou), (2, .ref m0), (1, .ref x0), (0, .ref b)]) (hc0 : cells + 200 ≤ 601024) (hs0 : slots + 9800 ≤ 7293034) {Q : State → Prop} (kk : ∀ (E1 : th_E) (σ1 : th_M) (t1 : Int) (H1 : Heap) (locs1 : List Loc) (ls1 : Array Slot) (k1 n1 : Nat) (h1 : Int), LJ y E1 σ1 x0 m0 ou t1 t1 → (gI σ1 x0 11 = h1 ∧ gI σ1 m0 58 = h1) → tp E1 σ1 x0 m0 → th_H G s.heap.size σ1 H1 → va_S (th_A s.heap.size) s.heap H1 locs1 → lv_has ls1 7 [(4, .int (I i)), (3, .ref ou), (2, .ref m0), (1, .ref x0), (0, .ref b)] → k1 ≤ cells + 200 → n1 ≤ slots + 9800 → W p l e room_1 s m #[Value.ref b] below meth c H1 locs1 k1 n1 Q (F0 m 1201 ls1 [])) : W p l e room_1 s m #[Value.ref b] below meth c H locs cells slots Q (F0 m 1114 ls []) := by
  obtain ⟨hx, hb, hr, hml, hown, hts, hX, hbl, hlocks, hgv⟩ := C0
  have hbA : ¬ th_A s.heap.size b := Nat.not_le.mpr hbl
  refine lv_aload_n hx hb dL_law_1114 rfl (lv_at hl 3 rfl) ?_
  obtain ⟨_, hc1⟩ := hJ.1.cell hJ.2.1 (by decide) (ci := 10) rfl
  refine th_callv (va_runV (As := []) (rest := []) ⟨hx, hb, hml, hown, hts⟩ (q_forget l G y s.heap.size σ E hJ.1 x0 hJ.2.1 ) (cwV 0 hts gv_X10_forget_161 rfl rfl rfl (by decide +kernel) ⟨Nat.le_of_ble_eq_true rfl, Nat.le_of_ble_eq_true rfl⟩) (th_PV hK hH rfl hc1) rfl rfl hl.1 rfl (lv_room (Nat.le_of_ble_eq_true rfl)) dL_law_1115 ⟨show _ + _ ≤ 601024 by omega, show _ + _ ≤ 7293034 by omega⟩) hS (fun σ3 H locs hw2 hH hS => ?_)
  obtain ⟨hO5, hF6, hw2⟩ := hw2
  have hJ8 := hJ.clr (ext.rf (E := E)) hO5 hF6 (by decide) rfl
  have hkhJ8 := fr.ki hJ.1 hF6 hJ.2.1 (by decide) (by decide) 1
  have hmhJ8 := fr.ki hJ.1 hF6 hJ.2.2.1 (by decide) (by decide) 58
  have hihJ8 := fr.ki hJ.1 hF6 hJ.2.1 (by decide) (by decide) 11
  have hthJ8 := hJ8.tapm
  have huhJ8 := hJ.tapx
  have hvhJ8 := hJ.tapm
  have rm11 := hJ.row6 (ext.rf (E := E)) (fun x _ h0 hs => hF6 x h0 hs) (by decide)
  have hT10 := hT.cls (Or.inr ⟨by rw [(ext.rf (E := E)).ad2 hJ.2.1 (by decide) 0]; exact fr.af hJ.1 hF6 hJ.2.1 (by decide) (by decide) k12_0 isA1, by omega⟩) rm11
  refine lv_aload_n hx hb dL_law_1118 rfl (lv_at hl 2 rfl) ?_
  obtain ⟨_, hc12⟩ := hJ8.1.cell hJ8.2.2.1 (by decide) (ci := 11) rfl
  refine th_callv (va_runV (As := []) (rest := []) ⟨hx, hb, hml, hown, hts⟩ (j_forget l G y s.heap.size σ3 E hJ8.1 m0 hJ8.2.2.1  _ rfl _ rfl _ rfl _ rfl _ rfl _ rfl _ rfl _ rfl _ rfl _ rfl _ rfl hJ8.jw) (cwV 0 hts gv_X11_forget_164 rfl rfl rfl (by decide +kernel) ⟨Nat.le_of_ble_eq_true rfl, Nat.le_of_ble_eq_true rfl⟩) (th_PV hK hH rfl hc12) rfl rfl hl.1 rfl (lv_room (Nat.le_of_ble_eq_true rfl)) dL_law_1119 ⟨show _ + _ ≤ 601024 by omega, show _ + _ ≤ 7293034 by omega⟩) hS (fun σ14 H locs hw13 hH hS => ?_)
  obtain ⟨hO16, hF17, hM18, hq20, hw13⟩ := hw13
  have hJ19 := hJ8.ref hO16 hF17 hM18 hq20 (show gI σ14 m0 12 = (gI σ3 x0 1) by omega)
  have rx21 := fr.af hJ8.1 hF17 hJ8.2.1 (by decide) (by decide) k12_0 isA1
  have hchJ19 := fr.ki hJ8.1 hF17 hJ8.2.1 (by decide) (by decide) 1
  have hT22 := hT10.ref rx21 (hM18.a (by decide) (by decide)) hchJ19
  have hihJ19 := fr.ki hJ8.1 hF17 hJ8.2.1 (by decide) (by decide) 11
  have hmhJ19 := hM18.i (k := 58) (by decide)
  refine lv_goto (tgt := 1201) hx hb dL_law_1122 (by decide) ?_
  exact kk _ _ _ _ _ _ _ _ (gI σ14 x0 11) hJ19 ⟨rfl, by omega⟩ hT22 hH hS (lv_sub hl [0, 1, 2, 3, 4] rfl) (by omega) (by omega)

set_option maxHeartbeats 400000 in
set_option maxRecDepth 100000 in
theorem lc_25 {p : Program} {e : Env} {s : State} {m : MethodId} {below : List Frame} {meth : Method} {c : Code} {l : Launch} {b L : Nat} {xs : Nat → Int32} {G : va_G} {y : Nat → ClassId} (hl0 : l.stackTraces = false) (C0 : lw_At p s m meth c b L xs) (hK : nq_K G y s) (hXs : nq_X (th_A s.heap.size) s) {E : th_E} {σ : th_M} {x0 m0 ou : Nat} {t i : Int} (hL : L ≤ 3072) (hi0 : 0 ≤ i) (hi1 : i + 6 ≤ L) (hJ : LJ y E σ x0 m0 ou t t) {h : Int} (hI : gI σ x0 11 = h ∧ gI σ m0 58 = h) (hT : tp E σ x0 m0) {H : Heap} {locs : List Loc} {ls : Array Slot} {cells slots : Nat} (hH : th_H G s.heap.size σ H) (hS : va_S (th_A s.heap.size) s.heap H locs) (hl : lv_has ls 7 [(4, .int (I i)), (3, .ref ou), (2, .ref m0), (1, .ref x0), (0, .ref b)]) (hc0 : cells + 200 ≤ 601024) (hs0 : slots + 9800 ≤ 7293034) {Q : State → Prop} (kk : ∀ (E1 : th_E) (σ1 : th_M) (t1 : Int) (H1 : Heap) (locs1 : List Loc) (ls1 : Array Slot) (k1 n1 : Nat) (h1 : Int), LJ y E1 σ1 x0 m0 ou t1 t1 → (gI σ1 x0 11 = h1 ∧ gI σ1 m0 58 = h1) → tp E1 σ1 x0 m0 → th_H G s.heap.size σ1 H1 → va_S (th_A s.heap.size) s.heap H1 locs1 → lv_has ls1 7 [(4, .int (I i)), (3, .ref ou), (2, .ref m0), (1, .ref x0), (0, .ref b)] → k1 ≤ cells + 200 → n1 ≤ slots + 9800 → W p l e room_1 s m #[Value.ref b] below meth c H1 locs1 k1 n1 Q (F0 m 1201 ls1 [])) : W p l e room_1 s m #[Value.ref b] below meth c H locs cells slots Q (F0 m 1125 ls []) := by
  obtain ⟨hx, hb, hr, hml, hown, hts, hX, hbl, hlocks, hgv⟩ := C0
  have hbA : ¬ th_A s.heap.size b := Nat.not_le.mpr hbl
  obtain ⟨a1, ra1, ea1⟩ : ∃ z : Int, rng z ∧ xs (I (i + 1)).toNatClampNeg = I z := ⟨_, rng_toInt _, (I_of _).symm⟩
  obtain ⟨a2, ra2, ea2⟩ : ∃ z : Int, rng z ∧ xs (I (i + 2)).toNatClampNeg = I z := ⟨_, rng_toInt _, (I_of _).symm⟩
  obtain ⟨a3, ra3, ea3⟩ : ∃ z : Int, rng z ∧ xs (I (i + 3)).toNatClampNeg = I z := ⟨_, rng_toInt _, (I_of _).symm⟩
  refine lv_aload_n hx hb dL_law_1125 rfl (lv_at hl 3 rfl) ?_
  refine lv_aload_n hx hb dL_law_1126 rfl (lv_at hl 4 rfl) ?_
  refine lv_iload hx hb dL_law_1127 (lv_at hl 0 rfl) ?_
  refine lv_iconst (v := I 1) hx hb dL_law_1129 (by decide) ?_
  refine lv_iadd hx hb dL_law_1130 ?_
  refine nq_top (I_add _ _) ?_
  refine va_sld hx hb hX hbl hbA hS (i := I (i + 1)) (I_in ⟨by omega, by omega⟩ (by omega) (by omega)) dL_law_1131 ?_
  refine nq_top ea1 ?_
  refine lv_aload_n hx hb dL_law_1132 rfl (lv_at hl 4 rfl) ?_
  refine lv_iload hx hb dL_law_1133 (lv_at hl 0 rfl) ?_
  refine lv_iconst (v := I 2) hx hb dL_law_1135 (by decide) ?_
  refine lv_iadd hx hb dL_law_1136 ?_
  refine nq_top (I_add _ _) ?_
  refine va_sld hx hb hX hbl hbA hS (i := I (i + 2)) (I_in ⟨by omega, by omega⟩ (by omega) (by omega)) dL_law_1137 ?_
  refine nq_top ea2 ?_
  refine lv_aload_n hx hb dL_law_1138 rfl (lv_at hl 4 rfl) ?_
  refine lv_iload hx hb dL_law_1139 (lv_at hl 0 rfl) ?_
  refine lv_iconst (v := I 3) hx hb dL_law_1141 (by decide) ?_
  refine lv_iadd hx hb dL_law_1142 ?_
  refine nq_top (I_add _ _) ?_
  refine va_sld hx hb hX hbl hbA hS (i := I (i + 3)) (I_in ⟨by omega, by omega⟩ (by omega) (by omega)) dL_law_1143 ?_
  refine nq_top ea3 ?_
  refine lv_aload_n hx hb dL_law_1144 rfl (lv_at hl 1 rfl) ?_
  obtain ⟨fo1, hf2⟩ := hJ.2.2.2.2.1
  refine th_calli (vx_runSW (hh := [(0, 12, 15, 19), (0, 12, 19, 13)]) (As := [.ref x0, .int (I a1), .int (I a2), .int (I a3), .ref ou]) (rest := []) ⟨hx, hb, hml, hown, hts⟩ (w_years l hl0 G y s.heap.size σ E hJ.1 x0 hJ.2.1 m0 hJ.2.2.1 ou hJ.2.2.2.1 fo1 hf2 a1 ra1 a2 ra2 a3 ra3) (vx_cwSW 5 hts gv_L_years_165 rfl rfl rfl (by decide +kernel) ⟨Nat.le_of_ble_eq_true rfl, Nat.le_of_ble_eq_true rfl⟩) (th_PXS hK hXs hS hH) rfl rfl hl.1 rfl (lv_room (Nat.le_of_ble_eq_true rfl)) dL_law_1145 ⟨show _ + _ ≤ 601024 by omega, show _ + _ ≤ 7293034 by omega⟩) hS (fun z3 σ5 H locs rz3 hw4 hH hS => ?_)
  obtain ⟨E6, hX7, hO8, hF9, hf10, hw4⟩ := hw4
  have hJ11 := hJ.cls hX7 hO8 hF9 (by decide) hf10 rfl
  have hthJ11 := hJ11.tapm
  have huhJ11 := hJ.tapx
  have hvhJ11 := hJ.tapm
  have hmhJ11 := fx.m0 hJ hF9 (by decide) 58
  have rm12 := hJ.row6 hX7 hF9 (by decide)
  have hT13 := hT.cls hw4.2 rm12
  replace hw4 := hw4.1
  refine lv_istore (lv' := [(5, .int (I z3)), (4, .int (I i)), (3, .ref ou), (2, .ref m0), (1, .ref x0), (0, .ref b)]) hx hb dL_law_1148 hl (by decide) rfl (fun ls hl => ?_)
  refine lv_aload_n hx hb dL_law_1150 rfl (lv_at hl 3 rfl) ?_
  refine lv_aload_n hx hb dL_law_1151 rfl (lv_at hl 5 rfl) ?_
  refine lv_iload hx hb dL_law_1152 (lv_at hl 1 rfl) ?_
  refine lv_iconst (v := I 1) hx hb dL_law_1154 (by decide) ?_
  refine lv_iadd hx hb dL_law_1155 ?_
  refine nq_top (I_add _ _) ?_
  refine va_sld hx hb hX hbl hbA hS (i := I (i + 1)) (I_in ⟨by omega, by omega⟩ (by omega) (by omega)) dL_law_1156 ?_
  refine nq_top ea1 ?_
  refine lv_aload_n hx hb dL_law_1157 rfl (lv_at hl 5 rfl) ?_
  refine lv_iload hx hb dL_law_1158 (lv_at hl 1 rfl) ?_
  refine lv_iconst (v := I 2) hx hb dL_law_1160 (by decide) ?_
  refine lv_iadd hx hb dL_law_1161 ?_
  refine nq_top (I_add _ _) ?_
  refine va_sld hx hb hX hbl hbA hS (i := I (i + 2)) (I_in ⟨by omega, by omega⟩ (by omega) (by omega)) dL_law_1162 ?_
  refine nq_top ea2 ?_
  refine lv_aload_n hx hb dL_law_1163 rfl (lv_at hl 5 rfl) ?_
  refine lv_iload hx hb dL_law_1164 (lv_at hl 1 rfl) ?_
  refine lv_iconst (v := I 3) hx hb dL_law_1166 (by decide) ?_
  refine lv_iadd hx hb dL_law_1167 ?_
  refine nq_top (I_add _ _) ?_
  refine va_sld hx hb hX hbl hbA hS (i := I (i + 3)) (I_in ⟨by omega, by omega⟩ (by omega) (by omega)) dL_law_1168 ?_
  refine nq_top ea3 ?_
  obtain ⟨_, hc14⟩ := hJ11.1.cell hJ11.2.2.1 (by decide) (ci := 11) rfl
  refine th_calli (va_runV (As := [.int (I a1), .int (I a2), .int (I a3)]) (rest := []) ⟨hx, hb, hml, hown, hts⟩ (j_years l G y s.heap.size σ5 E6 hJ11.1 m0 hJ11.2.2.1 a1 ra1 a2 ra2 a3 ra3 _ rfl _ rfl _ rfl _ rfl _ rfl _ rfl _ rfl _ rfl _ rfl _ rfl _ rfl _ rfl _ rfl _ rfl hJ11.jw) (cwV 3 hts gv_X11_years_167 rfl rfl rfl (by decide +kernel) ⟨Nat.le_of_ble_eq_true rfl, Nat.le_of_ble_eq_true rfl⟩) (th_PV hK hH rfl hc14) rfl rfl hl.1 rfl (lv_room (Nat.le_of_ble_eq_true rfl)) dL_law_1169 ⟨show _ + _ ≤ 601024 by omega, show _ + _ ≤ 7293034 by omega⟩) hS (fun z17 σ16 H locs rz17 hw15 hH hS => ?_)
  obtain ⟨hO19, hF20, hM21, hq23, hw15⟩ := hw15
  have hJ22 := hJ11.ref hO19 hF20 hM21 hq23 (show gI σ16 m0 12 = (gI σ5 x0 1) by omega)
  have rx24 := fr.af hJ11.1 hF20 hJ11.2.1 (by decide) (by decide) k12_0 isA1
  have hchJ22 := fr.ki hJ11.1 hF20 hJ11.2.1 (by decide) (by decide) 1
  have hT25 := hT13.ref rx24 (hM21.a (by decide) (by decide)) hchJ22
  have hihJ22 := fr.ki hJ11.1 hF20 hJ11.2.1 (by decide) (by decide) 11
  have hmhJ22 := hM21.i (k := 58) (by decide)
  refine lv_istore (lv' := [(6, .int (I z17)), (5, .int (I z3)), (4, .int (I i)), (3, .ref ou), (2, .ref m0), (1, .ref x0), (0, .ref b)]) hx hb dL_law_1172 hl (by decide) rfl (fun ls hl => ?_)
  refine lv_goto (tgt := 1201) hx hb dL_law_1174 (by decide) ?_
  exact kk _ _ _ _ _ _ _ _ (gI σ16 x0 11) hJ22 ⟨rfl, by omega⟩ hT25 hH hS (lv_sub hl [2, 3, 4, 5, 6] rfl) (by omega) (by omega)

set_option maxHeartbeats 400000 in
set_option maxRecDepth 100000 in
theorem lc_26 {p : Program} {e : Env} {s : State} {m : MethodId} {below : List Frame} {meth : Method} {c : Code} {l : Launch} {b L : Nat} {xs : Nat → Int32} {G : va_G} {y : Nat → ClassId} (hl0 : l.stackTraces = false) (C0 : lw_At p s m meth c b L xs) (hK : nq_K G y s) (hXs : nq_X (th_A s.heap.size) s) {E : th_E} {σ : th_M} {x0 m0 ou : Nat} {t i : Int} (hL : L ≤ 3072) (hi0 : 0 ≤ i) (hi1 : i + 6 ≤ L) (hJ : LJ y E σ x0 m0 ou t t) {h : Int} (hI : gI σ x0 11 = h ∧ gI σ m0 58 = h) (hT : tp E σ x0 m0) {H : Heap} {locs : List Loc} {ls : Array Slot} {cells slots : Nat} (hH : th_H G s.heap.size σ H) (hS : va_S (th_A s.heap.size) s.heap H locs) (hl : lv_has ls 7 [(4, .int (I i)), (3, .ref ou), (2, .ref m0), (1, .ref x0), (0, .ref b)]) (hc0 : cells + 200 ≤ 601024) (hs0 : slots + 9800 ≤ 7293034) {Q : State → Prop} (kk : ∀ (E1 : th_E) (σ1 : th_M) (t1 : Int) (H1 : Heap) (locs1 : List Loc) (ls1 : Array Slot) (k1 n1 : Nat) (h1 : Int), LJ y E1 σ1 x0 m0 ou t1 t1 → (gI σ1 x0 11 = h1 ∧ gI σ1 m0 58 = h1) → tp E1 σ1 x0 m0 → th_H G s.heap.size σ1 H1 → va_S (th_A s.heap.size) s.heap H1 locs1 → lv_has ls1 7 [(4, .int (I i)), (3, .ref ou), (2, .ref m0), (1, .ref x0), (0, .ref b)] → k1 ≤ cells + 200 → n1 ≤ slots + 9800 → W p l e room_1 s m #[Value.ref b] below meth c H1 locs1 k1 n1 Q (F0 m 1201 ls1 [])) : W p l e room_1 s m #[Value.ref b] below meth c H locs cells slots Q (F0 m 1177 ls []) := by
  obtain ⟨hx, hb, hr, hml, hown, hts, hX, hbl, hlocks, hgv⟩ := C0
  have hbA : ¬ th_A s.heap.size b := Nat.not_le.mpr hbl
  refine lv_aload_n hx hb dL_law_1177 rfl (lv_at hl 3 rfl) ?_
  obtain ⟨_, hc1⟩ := hJ.1.cell hJ.2.1 (by decide) (ci := 10) rfl
  refine th_callv (va_runV (As := []) (rest := []) ⟨hx, hb, hml, hown, hts⟩ (q_image l G y s.heap.size σ E hJ.1 x0 hJ.2.1 ) (cwV 0 hts gv_X10_image_168 rfl rfl rfl (by decide +kernel) ⟨Nat.le_of_ble_eq_true rfl, Nat.le_of_ble_eq_true rfl⟩) (th_PV hK hH rfl hc1) rfl rfl hl.1 rfl (lv_room (Nat.le_of_ble_eq_true rfl)) dL_law_1178 ⟨show _ + _ ≤ 601024 by omega, show _ + _ ≤ 7293034 by omega⟩) hS (fun σ3 H locs hw2 hH hS => ?_)
  obtain ⟨E10, hX4, hO5, hF6, hw2⟩ := hw2
  have hJ8 := hJ.clr hX4 hO5 hF6 (by decide) rfl
  have hmhJ8 := fr.ki hJ.1 hF6 hJ.2.2.1 (by decide) (by decide) 58
  have hthJ8 := hJ8.tapm
  have huhJ8 := hJ.tapx
  have hvhJ8 := hJ.tapm
  have rm12 := hJ.row6 hX4 (fun x _ h0 hs => hF6 x h0 hs) (by decide)
  have hT11 := hT.cls (Or.inr ⟨by rw [hX4.ad2 hJ.2.1 (by decide) 0]; exact hw2.2, by omega⟩) rm12
  replace hw2 := hw2.1
  refine lv_aload_n hx hb dL_law_1181 rfl (lv_at hl 2 rfl) ?_
  obtain ⟨_, hc13⟩ := hJ8.1.cell hJ8.2.2.1 (by decide) (ci := 11) rfl
  refine th_callv (va_runV (As := []) (rest := []) ⟨hx, hb, hml, hown, hts⟩ (j_image l G y s.heap.size σ3 E10 hJ8.1 m0 hJ8.2.2.1  _ rfl _ rfl _ rfl _ rfl _ rfl _ rfl _ rfl _ rfl _ rfl _ rfl _ rfl _ rfl _ rfl _ rfl _ rfl _ rfl _ rfl hJ8.jw) (cwV 0 hts gv_X11_image_171 rfl rfl rfl (by decide +kernel) ⟨Nat.le_of_ble_eq_true rfl, Nat.le_of_ble_eq_true rfl⟩) (th_PV hK hH rfl hc13) rfl rfl hl.1 rfl (lv_room (Nat.le_of_ble_eq_true rfl)) dL_law_1182 ⟨show _ + _ ≤ 601024 by omega, show _ + _ ≤ 7293034 by omega⟩) hS (fun σ15 H locs hw14 hH hS => ?_)
  obtain ⟨hO17, hF18, hM19, hq21, hw14⟩ := hw14
  have hJ20 := hJ8.ref hO17 hF18 hM19 hq21 (show gI σ15 m0 12 = (gI σ3 x0 1) by omega)
  have rx22 := fr.af hJ8.1 hF18 hJ8.2.1 (by decide) (by decide) k12_0 isA1
  have hchJ20 := fr.ki hJ8.1 hF18 hJ8.2.1 (by decide) (by decide) 1
  have hT23 := hT11.ref rx22 (hM19.a (by decide) (by decide)) hchJ20
  have hihJ20 := fr.ki hJ8.1 hF18 hJ8.2.1 (by decide) (by decide) 11
  refine lv_goto (tgt := 1201) hx hb dL_law_1185 (by decide) ?_
  exact kk _ _ _ _ _ _ _ _ (gI σ15 x0 11) hJ20 ⟨rfl, by omega⟩ hT23 hH hS (lv_sub hl [0, 1, 2, 3, 4] rfl) (by omega) (by omega)

set_option maxHeartbeats 400000 in
set_option maxRecDepth 100000 in
theorem lc_27 {p : Program} {e : Env} {s : State} {m : MethodId} {below : List Frame} {meth : Method} {c : Code} {l : Launch} {b L : Nat} {xs : Nat → Int32} {G : va_G} {y : Nat → ClassId} (hl0 : l.stackTraces = false) (C0 : lw_At p s m meth c b L xs) (hK : nq_K G y s) (hXs : nq_X (th_A s.heap.size) s) {E : th_E} {σ : th_M} {x0 m0 ou : Nat} {t i : Int} (hL : L ≤ 3072) (hi0 : 0 ≤ i) (hi1 : i + 6 ≤ L) (hJ : LJ y E σ x0 m0 ou t t) {h : Int} (hI : gI σ x0 11 = h ∧ gI σ m0 58 = h) (hT : tp E σ x0 m0) {H : Heap} {locs : List Loc} {ls : Array Slot} {cells slots : Nat} (hH : th_H G s.heap.size σ H) (hS : va_S (th_A s.heap.size) s.heap H locs) (hl : lv_has ls 7 [(4, .int (I i)), (3, .ref ou), (2, .ref m0), (1, .ref x0), (0, .ref b)]) (hc0 : cells + 200 ≤ 601024) (hs0 : slots + 9800 ≤ 7293034) {Q : State → Prop} (kk : ∀ (E1 : th_E) (σ1 : th_M) (t1 : Int) (H1 : Heap) (locs1 : List Loc) (ls1 : Array Slot) (k1 n1 : Nat) (h1 : Int), LJ y E1 σ1 x0 m0 ou t1 t1 → (gI σ1 x0 11 = h1 ∧ gI σ1 m0 58 = h1) → tp E1 σ1 x0 m0 → th_H G s.heap.size σ1 H1 → va_S (th_A s.heap.size) s.heap H1 locs1 → lv_has ls1 7 [(4, .int (I i)), (3, .ref ou), (2, .ref m0), (1, .ref x0), (0, .ref b)] → k1 ≤ cells + 200 → n1 ≤ slots + 9800 → W p l e room_1 s m #[Value.ref b] below meth c H1 locs1 k1 n1 Q (F0 m 1201 ls1 [])) : W p l e room_1 s m #[Value.ref b] below meth c H locs cells slots Q (F0 m 1188 ls []) := by
  obtain ⟨hx, hb, hr, hml, hown, hts, hX, hbl, hlocks, hgv⟩ := C0
  have hbA : ¬ th_A s.heap.size b := Nat.not_le.mpr hbl
  refine lv_aload_n hx hb dL_law_1188 rfl (lv_at hl 3 rfl) ?_
  obtain ⟨_, hc1⟩ := hJ.1.cell hJ.2.1 (by decide) (ci := 10) rfl
  refine th_calli (va_runV (As := []) (rest := []) ⟨hx, hb, hml, hown, hts⟩ (q_restore l G y s.heap.size σ E hJ.1 x0 hJ.2.1 ) (cwV 0 hts gv_X10_restore_172 rfl rfl rfl (by decide +kernel) ⟨Nat.le_of_ble_eq_true rfl, Nat.le_of_ble_eq_true rfl⟩) (th_PV hK hH rfl hc1) rfl rfl hl.1 rfl (lv_room (Nat.le_of_ble_eq_true rfl)) dL_law_1189 ⟨show _ + _ ≤ 601024 by omega, show _ + _ ≤ 7293034 by omega⟩) hS (fun z4 σ3 H locs rz4 hw2 hH hS => ?_)
  obtain ⟨E11, hX5, hO6, hF7, _, hw2⟩ := hw2
  have hJ9 := hJ.clr hX5 hO6 hF7 (by decide) rfl
  have hkhJ9 := fr.ki hJ.1 hF7 hJ.2.1 (by decide) (by decide) 1
  have hmhJ9 := fr.ki hJ.1 hF7 hJ.2.2.1 (by decide) (by decide) 58
  have hihJ9 := fr.ki hJ.1 hF7 hJ.2.1 (by decide) (by decide) 11
  have hthJ9 := hJ9.tapm
  have huhJ9 := hJ.tapx
  have hvhJ9 := hJ.tapm
  have rm13 := hJ.row6 hX5 (fun x _ h0 hs => hF7 x h0 hs) (by decide)
  have hT12 := hT.cls (Or.inr ⟨by rw [hX5.ad2 hJ.2.1 (by decide) 0]; exact fr.af hJ.1 hF7 hJ.2.1 (by decide) (by decide) k12_0 isA1, by omega⟩) rm13
  refine lv_pop hx hb dL_law_1192 rfl ?_
  refine lv_aload_n hx hb dL_law_1193 rfl (lv_at hl 2 rfl) ?_
  obtain ⟨_, hc14⟩ := hJ9.1.cell hJ9.2.2.1 (by decide) (ci := 11) rfl
  refine th_calli (va_runV (As := []) (rest := []) ⟨hx, hb, hml, hown, hts⟩ (j_restore l G y s.heap.size σ3 E11 hJ9.1 m0 hJ9.2.2.1  _ rfl _ rfl _ rfl _ rfl _ rfl _ rfl _ rfl _ rfl _ rfl _ rfl _ rfl _ rfl _ rfl _ rfl _ rfl _ rfl _ rfl hJ9.jw) (cwV 0 hts gv_X11_restore_176 rfl rfl rfl (by decide +kernel) ⟨Nat.le_of_ble_eq_true rfl, Nat.le_of_ble_eq_true rfl⟩) (th_PV hK hH rfl hc14) rfl rfl hl.1 rfl (lv_room (Nat.le_of_ble_eq_true rfl)) dL_law_1194 ⟨show _ + _ ≤ 601024 by omega, show _ + _ ≤ 7293034 by omega⟩) hS (fun z17 σ16 H locs rz17 hw15 hH hS => ?_)
  obtain ⟨hO19, hF20, hM21, _, hq23, hw15⟩ := hw15
  have hJ22 := hJ9.ref hO19 hF20 hM21 hq23 (show gI σ16 m0 12 = (gI σ3 x0 1) by omega)
  have rx24 := fr.af hJ9.1 hF20 hJ9.2.1 (by decide) (by decide) k12_0 isA1
  have hchJ22 := fr.ki hJ9.1 hF20 hJ9.2.1 (by decide) (by decide) 1
  have hT25 := hT12.ref rx24 (hM21.a (by decide) (by decide)) hchJ22
  have hihJ22 := fr.ki hJ9.1 hF20 hJ9.2.1 (by decide) (by decide) 11
  have hmhJ22 := hM21.i (k := 58) (by decide)
  refine lv_pop hx hb dL_law_1197 rfl ?_
  refine lv_goto (tgt := 1201) hx hb dL_law_1198 (by decide) ?_
  exact kk _ _ _ _ _ _ _ _ (gI σ16 x0 11) hJ22 ⟨rfl, by omega⟩ hT25 hH hS (lv_sub hl [0, 1, 2, 3, 4] rfl) (by omega) (by omega)
