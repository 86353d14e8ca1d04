set_option maxHeartbeats 400000 in
set_option maxRecDepth 100000 in
theorem lc_14 {p : Program} {e : Env} {s : State} {m : MethodId} {below : List Frame} {meth : Method} {c : Code} {l : Launch} {b L : Nat} {xs : Nat → Int32} {G : va_G} {y : Nat → ClassId} (hl0 : l.stackTraces = false) (C0 : lw_At p s m meth c b L xs) (hK : nq_K G y s) (hXs : nq_X (th_A s.heap.size) s) {E : th_E} {σ : th_M} {x0 m0 ou : Nat} {t i : Int} (hL : L ≤ 3072) (hi0 : 0 ≤ i) (hi1 : i + 6 ≤ L) (hJ : LJ y E σ x0 m0 ou t t) (hI : F5 E σ x0 m0) (hT : tp E σ x0 m0) {H : Heap} {locs : List Loc} {ls : Array Slot} {cells slots : Nat} (hH : th_H G s.heap.size σ H) (hS : va_S (th_A s.heap.size) s.heap H locs) (hl : lv_has ls 7 [(4, .int (I i)), (3, .ref ou), (2, .ref m0), (1, .ref x0), (0, .ref b)]) (hc0 : cells + 200 ≤ 601024) (hs0 : slots + 9800 ≤ 7293034) {Q : State → Prop} (kk : ∀ (E1 : th_E) (σ1 : th_M) (t1 : Int) (H1 : Heap) (locs1 : List Loc) (ls1 : Array Slot) (k1 n1 : Nat), LJ y E1 σ1 x0 m0 ou t1 t1 → F5 E1 σ1 x0 m0 → tp E1 σ1 x0 m0 → th_H G s.heap.size σ1 H1 → va_S (th_A s.heap.size) s.heap H1 locs1 → lv_has ls1 7 [(4, .int (I i)), (3, .ref ou), (2, .ref m0), (1, .ref x0), (0, .ref b)] → k1 ≤ cells + 200 → n1 ≤ slots + 9800 → W p l e room_1 s m #[Value.ref b] below meth c H1 locs1 k1 n1 Q (F0 m 1173 ls1 [])) : W p l e room_1 s m #[Value.ref b] below meth c H locs cells slots Q (F0 m 738 ls []) := by
  obtain ⟨hx, hb, hr, hml, hown, hts, hX, hbl, hlocks, hgv⟩ := C0
  have hbA : ¬ th_A s.heap.size b := Nat.not_le.mpr hbl
  obtain ⟨a1, ra1, ea1⟩ : ∃ z : Int, rng z ∧ xs (I (i + 1)).toNatClampNeg = I z := ⟨_, rng_toInt _, (I_of _).symm⟩
  obtain ⟨a2, ra2, ea2⟩ : ∃ z : Int, rng z ∧ xs (I (i + 2)).toNatClampNeg = I z := ⟨_, rng_toInt _, (I_of _).symm⟩
  refine lv_aload_n hx hb dL_law_738 rfl (lv_at hl 3 rfl) ?_
  refine lv_aload_n hx hb dL_law_739 rfl (lv_at hl 4 rfl) ?_
  refine lv_iload hx hb dL_law_740 (lv_at hl 0 rfl) ?_
  refine lv_iconst (v := I 1) hx hb dL_law_742 (by decide) ?_
  refine lv_iadd hx hb dL_law_743 ?_
  refine nq_top (I_add _ _) ?_
  refine va_sld hx hb hX hbl hbA hS (i := I (i + 1)) (I_in ⟨by omega, by omega⟩ (by omega) (by omega)) dL_law_744 ?_
  refine nq_top ea1 ?_
  refine lv_aload_n hx hb dL_law_745 rfl (lv_at hl 4 rfl) ?_
  refine lv_iload hx hb dL_law_746 (lv_at hl 0 rfl) ?_
  refine lv_iconst (v := I 2) hx hb dL_law_748 (by decide) ?_
  refine lv_iadd hx hb dL_law_749 ?_
  refine nq_top (I_add _ _) ?_
  refine va_sld hx hb hX hbl hbA hS (i := I (i + 2)) (I_in ⟨by omega, by omega⟩ (by omega) (by omega)) dL_law_750 ?_
  refine nq_top ea2 ?_
  refine lv_aload_n hx hb dL_law_751 rfl (lv_at hl 1 rfl) ?_
  obtain ⟨fo1, hf2⟩ := hJ.2.2.2.2.1
  refine th_calli (vx_runSW (hh := [(0, 10, 13, 13)]) (As := [.ref x0, .int (I a1), .int (I a2), .ref ou]) (rest := []) ⟨hx, hb, hml, hown, hts⟩ (w_append l hl0 G y s.heap.size σ E hJ.1 x0 hJ.2.1 m0 hJ.2.2.1 ou hJ.2.2.2.1 fo1 hf2 a1 ra1 a2 ra2 hT.byt hI.2.2.2.1) (vx_cwSW 4 hts gv_L_append_117 rfl rfl rfl (by decide +kernel) ⟨Nat.le_of_ble_eq_true rfl, Nat.le_of_ble_eq_true rfl⟩) (th_PXS hK hXs hS hH) rfl rfl hl.1 rfl (lv_room (Nat.le_of_ble_eq_true rfl)) dL_law_752 ⟨show _ + _ ≤ 601024 by omega, show _ + _ ≤ 7293034 by omega⟩) hS (fun z3 σ5 H locs rz3 hw4 hH hS => ?_)
  obtain ⟨E6, hX7, hO8, hF9, hf10, hw4⟩ := hw4
  have hJ11 := hJ.cls hX7 hO8 hF9 (by decide) hf10 rfl
  have hthJ11 := hJ11.tapm
  have huhJ11 := hJ.tapx
  have hvhJ11 := hJ.tapm
  have m116 := fx.m0 hJ hF9 (by decide) 21
  have rm12 := hJ.row6 hX7 hF9 (by decide)
  have m814 := hJ.row8 hX7 hF9 (by decide)
  have hT13 := hT.cls hw4.rq rm12
  have hc7 := hw4.c
  have hps := hI.at (i := a1) m814
  rcases hw4.road with ⟨⟨h9p, h9s⟩, T, v7, p7, q71, q72, q73⟩ | ⟨h9p, q71, q72⟩
  · clear hw4
    refine lv_istore (lv' := [(5, .int (I z3)), (4, .int (I i)), (3, .ref ou), (2, .ref m0), (1, .ref x0), (0, .ref b)]) hx hb dL_law_755 hl (by decide) rfl (fun ls hl => ?_)
    refine lv_aload_n hx hb dL_law_757 rfl (lv_at hl 3 rfl) ?_
    refine lv_aload_n hx hb dL_law_758 rfl (lv_at hl 5 rfl) ?_
    refine lv_iload hx hb dL_law_759 (lv_at hl 1 rfl) ?_
    refine lv_iconst (v := I 1) hx hb dL_law_761 (by decide) ?_
    refine lv_iadd hx hb dL_law_762 ?_
    refine nq_top (I_add _ _) ?_
    refine va_sld hx hb hX hbl hbA hS (i := I (i + 1)) (I_in ⟨by omega, by omega⟩ (by omega) (by omega)) dL_law_763 ?_
    refine nq_top ea1 ?_
    refine lv_aload_n hx hb dL_law_764 rfl (lv_at hl 5 rfl) ?_
    refine lv_iload hx hb dL_law_765 (lv_at hl 1 rfl) ?_
    refine lv_iconst (v := I 2) hx hb dL_law_767 (by decide) ?_
    refine lv_iadd hx hb dL_law_768 ?_
    refine nq_top (I_add _ _) ?_
    refine va_sld hx hb hX hbl hbA hS (i := I (i + 2)) (I_in ⟨by omega, by omega⟩ (by omega) (by omega)) dL_law_769 ?_
    refine nq_top ea2 ?_
    obtain ⟨_, hc17⟩ := hJ11.1.cell hJ11.2.2.1 (by decide) (ci := 11) rfl
    refine th_calli (va_runV (As := [.int (I a1), .int (I a2)]) (rest := []) ⟨hx, hb, hml, hown, hts⟩ (j9_append l G y s.heap.size σ5 E6 hJ11.1 m0 hJ11.2.2.1 a1 ra1 a2 ra2 _ rfl _ rfl _ rfl _ rfl _ rfl _ rfl _ rfl _ rfl _ rfl _ rfl _ rfl _ rfl _ rfl _ rfl _ rfl _ rfl T (fun h9 => by rw [rm12, hT.byf (by omega)]; exact q71) hJ11.jw) (cwV 2 hts gv_X11_append_119 rfl rfl rfl (by decide +kernel) ⟨Nat.le_of_ble_eq_true rfl, Nat.le_of_ble_eq_true rfl⟩) (th_PV hK hH rfl hc17) rfl rfl hl.1 rfl (lv_room (Nat.le_of_ble_eq_true rfl)) dL_law_770 ⟨show _ + _ ≤ 601024 by omega, show _ + _ ≤ 7293034 by omega⟩) hS (fun z20 σ19 H locs rz20 hw18 hH hS => ?_)
    obtain ⟨hO22, hF23, hM24, ⟨hq26, hw18⟩, hw32⟩ := hw18
    replace hw32 := hid.mk hw32
    have hwhJ25 := hJ11.tapm
    have hJ25 := hJ11.ref hO22 hF23 hM24 hq26 (show gI σ19 m0 12 = (gI σ5 x0 1) by omega)
    have rx33 := fr.af hJ11.1 hF23 hJ11.2.1 (by decide) (by decide) k12_0 isA1
    have hchJ25 := fr.ki hJ11.1 hF23 hJ11.2.1 (by decide) (by decide) 1
    have hT34 := hT13.ref rx33 (hM24.a (by decide) (by decide)) hchJ25
    have x230 := fr.ki hJ11.1 hF23 hJ11.2.1 (by decide) (by decide) 2
    have xq31 := fr.aq hJ11.1 hF23 hJ11.2.1 (by decide) (by decide) k12_3
    have m829 : aF σ19 (ad E6 m0 8) = aF σ5 (ad E6 m0 8) := hM24.a (by decide) (by decide)
    obtain ⟨r8, q81⟩ := ((hid.out hw32).1 (by omega)).1 (hps.mp h9s)
    have q83 := (q81.det q72.1).2
    have m128 : gI σ19 x0 2 = gI σ19 m0 21 := by omega
    have hI27 : F5 E6 σ19 x0 m0 := hI.go hX7 hJ.2.1 m128 (by rw [xq31, m829, q72.2, m814]; exact hI.2.1)
    refine lv_istore (lv' := [(6, .int (I z20)), (5, .int (I z3)), (4, .int (I i)), (3, .ref ou), (2, .ref m0), (1, .ref x0), (0, .ref b)]) hx hb dL_law_773 hl (by decide) rfl (fun ls hl => ?_)
    refine lv_goto (tgt := 1173) hx hb dL_law_775 (by decide) ?_
    exact kk _ _ _ _ _ _ _ _ hJ25 hI27 hT34 hH hS (lv_sub hl [2, 3, 4, 5, 6] rfl) (by omega) (by omega)
  · clear hw4
    refine lv_istore (lv' := [(5, .int (I z3)), (4, .int (I i)), (3, .ref ou), (2, .ref m0), (1, .ref x0), (0, .ref b)]) hx hb dL_law_755 hl (by decide) rfl (fun ls hl => ?_)
    refine lv_aload_n hx hb dL_law_757 rfl (lv_at hl 3 rfl) ?_
    refine lv_aload_n hx hb dL_law_758 rfl (lv_at hl 5 rfl) ?_
    refine lv_iload hx hb dL_law_759 (lv_at hl 1 rfl) ?_
    refine lv_iconst (v := I 1) hx hb dL_law_761 (by decide) ?_
    refine lv_iadd hx hb dL_law_762 ?_
    refine nq_top (I_add _ _) ?_
    refine va_sld hx hb hX hbl hbA hS (i := I (i + 1)) (I_in ⟨by omega, by omega⟩ (by omega) (by omega)) dL_law_763 ?_
    refine nq_top ea1 ?_
    refine lv_aload_n hx hb dL_law_764 rfl (lv_at hl 5 rfl) ?_
    refine lv_iload hx hb dL_law_765 (lv_at hl 1 rfl) ?_
    refine lv_iconst (v := I 2) hx hb dL_law_767 (by decide) ?_
    refine lv_iadd hx hb dL_law_768 ?_
    refine nq_top (I_add _ _) ?_
    refine va_sld hx hb hX hbl hbA hS (i := I (i + 2)) (I_in ⟨by omega, by omega⟩ (by omega) (by omega)) dL_law_769 ?_
    refine nq_top ea2 ?_
    obtain ⟨_, hc35⟩ := hJ11.1.cell hJ11.2.2.1 (by decide) (ci := 11) rfl
    refine th_calli (va_runV (As := [.int (I a1), .int (I a2)]) (rest := []) ⟨hx, hb, hml, hown, hts⟩ (j9_append l G y s.heap.size σ5 E6 hJ11.1 m0 hJ11.2.2.1 a1 ra1 a2 ra2 _ rfl _ rfl _ rfl _ rfl _ rfl _ rfl _ rfl _ rfl _ rfl _ rfl _ rfl _ rfl _ rfl _ rfl _ rfl _ rfl ((fun _ => 0, fun _ => 0, fun _ => 0, fun _ => 0, 0) : tkT) (fun h9 => by have h8 := h9.1; exact absurd ⟨by omega, hps.mpr h9.2⟩ h9p) hJ11.jw) (cwV 2 hts gv_X11_append_119 rfl rfl rfl (by decide +kernel) ⟨Nat.le_of_ble_eq_true rfl, Nat.le_of_ble_eq_true rfl⟩) (th_PV hK hH rfl hc35) rfl rfl hl.1 rfl (lv_room (Nat.le_of_ble_eq_true rfl)) dL_law_770 ⟨show _ + _ ≤ 601024 by omega, show _ + _ ≤ 7293034 by omega⟩) hS (fun z38 σ37 H locs rz38 hw36 hH hS => ?_)
    obtain ⟨hO40, hF41, hM42, ⟨hq44, hw36⟩, hw50⟩ := hw36
    replace hw50 := hid.mk hw50
    have hwhJ43 := hJ11.tapm
    have hJ43 := hJ11.ref hO40 hF41 hM42 hq44 (show gI σ37 m0 12 = (gI σ5 x0 1) by omega)
    have rx51 := fr.af hJ11.1 hF41 hJ11.2.1 (by decide) (by decide) k12_0 isA1
    have hchJ43 := fr.ki hJ11.1 hF41 hJ11.2.1 (by decide) (by decide) 1
    have hT52 := hT13.ref rx51 (hM42.a (by decide) (by decide)) hchJ43
    have x248 := fr.ki hJ11.1 hF41 hJ11.2.1 (by decide) (by decide) 2
    have xq49 := fr.aq hJ11.1 hF41 hJ11.2.1 (by decide) (by decide) k12_3
    have m847 : aF σ37 (ad E6 m0 8) = aF σ5 (ad E6 m0 8) := hM42.a (by decide) (by decide)
    have q82 : gI σ37 m0 21 = gI σ5 m0 21 := by
      rcases Classical.em (0 ≤ a2 ∧ a2 ≤ gI σ5 m0 12) with h8 | h8
      · exact ((hid.out hw50).1 h8).2 (fun h7 => h9p ⟨by omega, hps.mpr h7⟩)
      · exact (hid.out hw50).2 h8
    have q89 := hI.1
    have m146 : gI σ37 x0 2 = gI σ37 m0 21 := by omega
    have hI45 : F5 E6 σ37 x0 m0 := hI.go hX7 hJ.2.1 m146 (by rw [xq49, m847, q72, m814]; exact hI.2.1)
    refine lv_istore (lv' := [(6, .int (I z38)), (5, .int (I z3)), (4, .int (I i)), (3, .ref ou), (2, .ref m0), (1, .ref x0), (0, .ref b)]) hx hb dL_law_773 hl (by decide) rfl (fun ls hl => ?_)
    refine lv_goto (tgt := 1173) hx hb dL_law_775 (by decide) ?_
    exact kk _ _ _ _ _ _ _ _ hJ43 hI45 hT52 hH hS (lv_sub hl [2, 3, 4, 5, 6] rfl) (by omega) (by omega)

set_option maxHeartbeats 400000 in
set_option maxRecDepth 100000 in
theorem lc_15 {p : Program} {e : Env} {s : State} {m : MethodId} {below : List Frame} {meth : Method} {c : Code} {l : Launch} {b L : Nat} {xs : Nat → Int32} {G : va_G} {y : Nat → ClassId} (hl0 : l.stackTraces = false) (C0 : lw_At p s m meth c b L xs) (hK : nq_K G y s) (hXs : nq_X (th_A s.heap.size) s) {E : th_E} {σ : th_M} {x0 m0 ou : Nat} {t i : Int} (hL : L ≤ 3072) (hi0 : 0 ≤ i) (hi1 : i + 6 ≤ L) (hJ : LJ y E σ x0 m0 ou t t) (hI : F5 E σ x0 m0) (hT : tp E σ x0 m0) {H : Heap} {locs : List Loc} {ls : Array Slot} {cells slots : Nat} (hH : th_H G s.heap.size σ H) (hS : va_S (th_A s.heap.size) s.heap H locs) (hl : lv_has ls 7 [(4, .int (I i)), (3, .ref ou), (2, .ref m0), (1, .ref x0), (0, .ref b)]) (hc0 : cells + 200 ≤ 601024) (hs0 : slots + 9800 ≤ 7293034) {Q : State → Prop} (kk : ∀ (E1 : th_E) (σ1 : th_M) (t1 : Int) (H1 : Heap) (locs1 : List Loc) (ls1 : Array Slot) (k1 n1 : Nat), LJ y E1 σ1 x0 m0 ou t1 t1 → F5 E1 σ1 x0 m0 → tp E1 σ1 x0 m0 → th_H G s.heap.size σ1 H1 → va_S (th_A s.heap.size) s.heap H1 locs1 → lv_has ls1 7 [(4, .int (I i)), (3, .ref ou), (2, .ref m0), (1, .ref x0), (0, .ref b)] → k1 ≤ cells + 200 → n1 ≤ slots + 9800 → W p l e room_1 s m #[Value.ref b] below meth c H1 locs1 k1 n1 Q (F0 m 1173 ls1 [])) : W p l e room_1 s m #[Value.ref b] below meth c H locs cells slots Q (F0 m 778 ls []) := by
  obtain ⟨hx, hb, hr, hml, hown, hts, hX, hbl, hlocks, hgv⟩ := C0
  have hbA : ¬ th_A s.heap.size b := Nat.not_le.mpr hbl
  obtain ⟨a1, ra1, ea1⟩ : ∃ z : Int, rng z ∧ xs (I (i + 1)).toNatClampNeg = I z := ⟨_, rng_toInt _, (I_of _).symm⟩
  obtain ⟨a2, ra2, ea2⟩ : ∃ z : Int, rng z ∧ xs (I (i + 2)).toNatClampNeg = I z := ⟨_, rng_toInt _, (I_of _).symm⟩
  obtain ⟨a3, ra3, ea3⟩ : ∃ z : Int, rng z ∧ xs (I (i + 3)).toNatClampNeg = I z := ⟨_, rng_toInt _, (I_of _).symm⟩
  refine lv_aload_n hx hb dL_law_778 rfl (lv_at hl 3 rfl) ?_
  refine lv_aload_n hx hb dL_law_779 rfl (lv_at hl 4 rfl) ?_
  refine lv_iload hx hb dL_law_780 (lv_at hl 0 rfl) ?_
  refine lv_iconst (v := I 1) hx hb dL_law_782 (by decide) ?_
  refine lv_iadd hx hb dL_law_783 ?_
  refine nq_top (I_add _ _) ?_
  refine va_sld hx hb hX hbl hbA hS (i := I (i + 1)) (I_in ⟨by omega, by omega⟩ (by omega) (by omega)) dL_law_784 ?_
  refine nq_top ea1 ?_
  refine lv_aload_n hx hb dL_law_785 rfl (lv_at hl 4 rfl) ?_
  refine lv_iload hx hb dL_law_786 (lv_at hl 0 rfl) ?_
  refine lv_iconst (v := I 2) hx hb dL_law_788 (by decide) ?_
  refine lv_iadd hx hb dL_law_789 ?_
  refine nq_top (I_add _ _) ?_
  refine va_sld hx hb hX hbl hbA hS (i := I (i + 2)) (I_in ⟨by omega, by omega⟩ (by omega) (by omega)) dL_law_790 ?_
  refine nq_top ea2 ?_
  refine lv_aload_n hx hb dL_law_791 rfl (lv_at hl 4 rfl) ?_
  refine lv_iload hx hb dL_law_792 (lv_at hl 0 rfl) ?_
  refine lv_iconst (v := I 3) hx hb dL_law_794 (by decide) ?_
  refine lv_iadd hx hb dL_law_795 ?_
  refine nq_top (I_add _ _) ?_
  refine va_sld hx hb hX hbl hbA hS (i := I (i + 3)) (I_in ⟨by omega, by omega⟩ (by omega) (by omega)) dL_law_796 ?_
  refine nq_top ea3 ?_
  refine lv_aload_n hx hb dL_law_797 rfl (lv_at hl 1 rfl) ?_
  obtain ⟨fo1, hf2⟩ := hJ.2.2.2.2.1
  refine th_calli (vx_runSW (hh := [(0, 12, 15, 13)]) (As := [.ref x0, .int (I a1), .int (I a2), .int (I a3), .ref ou]) (rest := []) ⟨hx, hb, hml, hown, hts⟩ (w_key l hl0 G y s.heap.size σ E hJ.1 x0 hJ.2.1 m0 hJ.2.2.1 ou hJ.2.2.2.1 fo1 hf2 a1 ra1 a2 ra2 a3 ra3 hT.byt hI.2.2.2.1) (vx_cwSW 5 hts gv_L_key_120 rfl rfl rfl (by decide +kernel) ⟨Nat.le_of_ble_eq_true rfl, Nat.le_of_ble_eq_true rfl⟩) (th_PXS hK hXs hS hH) rfl rfl hl.1 rfl (lv_room (Nat.le_of_ble_eq_true rfl)) dL_law_798 ⟨show _ + _ ≤ 601024 by omega, show _ + _ ≤ 7293034 by omega⟩) hS (fun z3 σ5 H locs rz3 hw4 hH hS => ?_)
  obtain ⟨E6, hX7, hO8, hF9, hf10, hw4⟩ := hw4
  have hJ11 := hJ.cls hX7 hO8 hF9 (by decide) hf10 rfl
  have hthJ11 := hJ11.tapm
  have huhJ11 := hJ.tapx
  have hvhJ11 := hJ.tapm
  have m116 := fx.m0 hJ hF9 (by decide) 21
  have rm12 := hJ.row6 hX7 hF9 (by decide)
  have m814 := hJ.row8 hX7 hF9 (by decide)
  have hT13 := hT.cls hw4.rq rm12
  have hc7 := hw4.c
  have hps := hI.at (i := a1) m814
  rcases hw4.road with ⟨⟨h9p, h9s⟩, T, v7, p7, q71, q72, q73⟩ | ⟨h9p, q71, q72⟩
  · clear hw4
    refine lv_istore (lv' := [(5, .int (I z3)), (4, .int (I i)), (3, .ref ou), (2, .ref m0), (1, .ref x0), (0, .ref b)]) hx hb dL_law_801 hl (by decide) rfl (fun ls hl => ?_)
    refine lv_aload_n hx hb dL_law_803 rfl (lv_at hl 3 rfl) ?_
    refine lv_aload_n hx hb dL_law_804 rfl (lv_at hl 5 rfl) ?_
    refine lv_iload hx hb dL_law_805 (lv_at hl 1 rfl) ?_
    refine lv_iconst (v := I 1) hx hb dL_law_807 (by decide) ?_
    refine lv_iadd hx hb dL_law_808 ?_
    refine nq_top (I_add _ _) ?_
    refine va_sld hx hb hX hbl hbA hS (i := I (i + 1)) (I_in ⟨by omega, by omega⟩ (by omega) (by omega)) dL_law_809 ?_
    refine nq_top ea1 ?_
    refine lv_aload_n hx hb dL_law_810 rfl (lv_at hl 5 rfl) ?_
    refine lv_iload hx hb dL_law_811 (lv_at hl 1 rfl) ?_
    refine lv_iconst (v := I 2) hx hb dL_law_813 (by decide) ?_
    refine lv_iadd hx hb dL_law_814 ?_
    refine nq_top (I_add _ _) ?_
    refine va_sld hx hb hX hbl hbA hS (i := I (i + 2)) (I_in ⟨by omega, by omega⟩ (by omega) (by omega)) dL_law_815 ?_
    refine nq_top ea2 ?_
    refine lv_aload_n hx hb dL_law_816 rfl (lv_at hl 5 rfl) ?_
    refine lv_iload hx hb dL_law_817 (lv_at hl 1 rfl) ?_
    refine lv_iconst (v := I 3) hx hb dL_law_819 (by decide) ?_
    refine lv_iadd hx hb dL_law_820 ?_
    refine nq_top (I_add _ _) ?_
    refine va_sld hx hb hX hbl hbA hS (i := I (i + 3)) (I_in ⟨by omega, by omega⟩ (by omega) (by omega)) dL_law_821 ?_
    refine nq_top ea3 ?_
    obtain ⟨_, hc17⟩ := hJ11.1.cell hJ11.2.2.1 (by decide) (ci := 11) rfl
    refine th_calli (va_runV (As := [.int (I a1), .int (I a2), .int (I a3)]) (rest := []) ⟨hx, hb, hml, hown, hts⟩ (j9_key l G y s.heap.size σ5 E6 hJ11.1 m0 hJ11.2.2.1 a1 ra1 a2 ra2 a3 ra3 _ rfl _ rfl _ rfl _ rfl _ rfl _ rfl _ rfl _ rfl _ rfl _ rfl _ rfl _ rfl _ rfl _ rfl _ rfl _ rfl T (fun h9 => by rw [rm12, hT.byf (by omega)]; exact q71) hJ11.jw) (cwV 3 hts gv_X11_key_123 rfl rfl rfl (by decide +kernel) ⟨Nat.le_of_ble_eq_true rfl, Nat.le_of_ble_eq_true rfl⟩) (th_PV hK hH rfl hc17) rfl rfl hl.1 rfl (lv_room (Nat.le_of_ble_eq_true rfl)) dL_law_822 ⟨show _ + _ ≤ 601024 by omega, show _ + _ ≤ 7293034 by omega⟩) hS (fun z20 σ19 H locs rz20 hw18 hH hS => ?_)
    obtain ⟨hO22, hF23, hM24, ⟨hq26, hw18⟩, hw32⟩ := hw18
    replace hw32 := hid.mk hw32
    have hwhJ25 := hJ11.tapm
    have hJ25 := hJ11.ref hO22 hF23 hM24 hq26 (show gI σ19 m0 12 = (gI σ5 x0 1) by omega)
    have rx33 := fr.af hJ11.1 hF23 hJ11.2.1 (by decide) (by decide) k12_0 isA1
    have hchJ25 := fr.ki hJ11.1 hF23 hJ11.2.1 (by decide) (by decide) 1
    have hT34 := hT13.ref rx33 (hM24.a (by decide) (by decide)) hchJ25
    have x230 := fr.ki hJ11.1 hF23 hJ11.2.1 (by decide) (by decide) 2
    have xq31 := fr.aq hJ11.1 hF23 hJ11.2.1 (by decide) (by decide) k12_3
    have m829 : aF σ19 (ad E6 m0 8) = aF σ5 (ad E6 m0 8) := hM24.a (by decide) (by decide)
    obtain ⟨r8, q81⟩ := ((hid.out hw32).1 (by omega)).1 ⟨hps.mp h9s.1, h9s.2⟩
    have q83 := (q81.det q72.1).2
    have m128 : gI σ19 x0 2 = gI σ19 m0 21 := by omega
    have hI27 : F5 E6 σ19 x0 m0 := hI.go hX7 hJ.2.1 m128 (by rw [xq31, m829, q72.2, m814]; exact hI.2.1)
    refine lv_istore (lv' := [(6, .int (I z20)), (5, .int (I z3)), (4, .int (I i)), (3, .ref ou), (2, .ref m0), (1, .ref x0), (0, .ref b)]) hx hb dL_law_825 hl (by decide) rfl (fun ls hl => ?_)
    refine lv_goto (tgt := 1173) hx hb dL_law_827 (by decide) ?_
    exact kk _ _ _ _ _ _ _ _ hJ25 hI27 hT34 hH hS (lv_sub hl [2, 3, 4, 5, 6] rfl) (by omega) (by omega)
  · clear hw4
    refine lv_istore (lv' := [(5, .int (I z3)), (4, .int (I i)), (3, .ref ou), (2, .ref m0), (1, .ref x0), (0, .ref b)]) hx hb dL_law_801 hl (by decide) rfl (fun ls hl => ?_)
    refine lv_aload_n hx hb dL_law_803 rfl (lv_at hl 3 rfl) ?_
    refine lv_aload_n hx hb dL_law_804 rfl (lv_at hl 5 rfl) ?_
    refine lv_iload hx hb dL_law_805 (lv_at hl 1 rfl) ?_
    refine lv_iconst (v := I 1) hx hb dL_law_807 (by decide) ?_
    refine lv_iadd hx hb dL_law_808 ?_
    refine nq_top (I_add _ _) ?_
    refine va_sld hx hb hX hbl hbA hS (i := I (i + 1)) (I_in ⟨by omega, by omega⟩ (by omega) (by omega)) dL_law_809 ?_
    refine nq_top ea1 ?_
    refine lv_aload_n hx hb dL_law_810 rfl (lv_at hl 5 rfl) ?_
    refine lv_iload hx hb dL_law_811 (lv_at hl 1 rfl) ?_
    refine lv_iconst (v := I 2) hx hb dL_law_813 (by decide) ?_
    refine lv_iadd hx hb dL_law_814 ?_
    refine nq_top (I_add _ _) ?_
    refine va_sld hx hb hX hbl hbA hS (i := I (i + 2)) (I_in ⟨by omega, by omega⟩ (by omega) (by omega)) dL_law_815 ?_
    refine nq_top ea2 ?_
    refine lv_aload_n hx hb dL_law_816 rfl (lv_at hl 5 rfl) ?_
    refine lv_iload hx hb dL_law_817 (lv_at hl 1 rfl) ?_
    refine lv_iconst (v := I 3) hx hb dL_law_819 (by decide) ?_
    refine lv_iadd hx hb dL_law_820 ?_
    refine nq_top (I_add _ _) ?_
    refine va_sld hx hb hX hbl hbA hS (i := I (i + 3)) (I_in ⟨by omega, by omega⟩ (by omega) (by omega)) dL_law_821 ?_
    refine nq_top ea3 ?_
    obtain ⟨_, hc35⟩ := hJ11.1.cell hJ11.2.2.1 (by decide) (ci := 11) rfl
    refine th_calli (va_runV (As := [.int (I a1), .int (I a2), .int (I a3)]) (rest := []) ⟨hx, hb, hml, hown, hts⟩ (j9_key l G y s.heap.size σ5 E6 hJ11.1 m0 hJ11.2.2.1 a1 ra1 a2 ra2 a3 ra3 _ rfl _ rfl _ rfl _ rfl _ rfl _ rfl _ rfl _ rfl _ rfl _ rfl _ rfl _ rfl _ rfl _ rfl _ rfl _ rfl ((fun _ => 0, fun _ => 0, fun _ => 0, fun _ => 0, 0) : tkT) (fun h9 => by have h8 := h9.1; exact absurd ⟨by omega, hps.mpr h9.2.1, h9.2.2⟩ h9p) hJ11.jw) (cwV 3 hts gv_X11_key_123 rfl rfl rfl (by decide +kernel) ⟨Nat.le_of_ble_eq_true rfl, Nat.le_of_ble_eq_true rfl⟩) (th_PV hK hH rfl hc35) rfl rfl hl.1 rfl (lv_room (Nat.le_of_ble_eq_true rfl)) dL_law_822 ⟨show _ + _ ≤ 601024 by omega, show _ + _ ≤ 7293034 by omega⟩) hS (fun z38 σ37 H locs rz38 hw36 hH hS => ?_)
    obtain ⟨hO40, hF41, hM42, ⟨hq44, hw36⟩, hw50⟩ := hw36
    replace hw50 := hid.mk hw50
    have hwhJ43 := hJ11.tapm
    have hJ43 := hJ11.ref hO40 hF41 hM42 hq44 (show gI σ37 m0 12 = (gI σ5 x0 1) by omega)
    have rx51 := fr.af hJ11.1 hF41 hJ11.2.1 (by decide) (by decide) k12_0 isA1
    have hchJ43 := fr.ki hJ11.1 hF41 hJ11.2.1 (by decide) (by decide) 1
    have hT52 := hT13.ref rx51 (hM42.a (by decide) (by decide)) hchJ43
    have x248 := fr.ki hJ11.1 hF41 hJ11.2.1 (by decide) (by decide) 2
    have xq49 := fr.aq hJ11.1 hF41 hJ11.2.1 (by decide) (by decide) k12_3
    have m847 : aF σ37 (ad E6 m0 8) = aF σ5 (ad E6 m0 8) := hM42.a (by decide) (by decide)
    have q82 : gI σ37 m0 21 = gI σ5 m0 21 := by
      rcases Classical.em (0 ≤ a3 ∧ a3 ≤ gI σ5 m0 12) with h8 | h8
      · exact ((hid.out hw50).1 h8).2 (fun h7 => h9p ⟨by omega, hps.mpr h7.1, h7.2⟩)
      · exact (hid.out hw50).2 h8
    have q89 := hI.1
    have m146 : gI σ37 x0 2 = gI σ37 m0 21 := by omega
    have hI45 : F5 E6 σ37 x0 m0 := hI.go hX7 hJ.2.1 m146 (by rw [xq49, m847, q72, m814]; exact hI.2.1)
    refine lv_istore (lv' := [(6, .int (I z38)), (5, .int (I z3)), (4, .int (I i)), (3, .ref ou), (2, .ref m0), (1, .ref x0), (0, .ref b)]) hx hb dL_law_825 hl (by decide) rfl (fun ls hl => ?_)
    refine lv_goto (tgt := 1173) hx hb dL_law_827 (by decide) ?_
    exact kk _ _ _ _ _ _ _ _ hJ43 hI45 hT52 hH hS (lv_sub hl [2, 3, 4, 5, 6] rfl) (by omega) (by omega)

set_option maxHeartbeats 400000 in
set_option maxRecDepth 100000 in
theorem lc_16 {p : Program} {e : Env} {s : State} {m : MethodId} {below : List Frame} {meth : Method} {c : Code} {l : Launch} {b L : Nat} {xs : Nat → Int32} {G : va_G} {y : Nat → ClassId} (hl0 : l.stackTraces = false) (C0 : lw_At p s m meth c b L xs) (hK : nq_K G y s) (hXs : nq_X (th_A s.heap.size) s) {E : th_E} {σ : th_M} {x0 m0 ou : Nat} {t i : Int} (hL : L ≤ 3072) (hi0 : 0 ≤ i) (hi1 : i + 6 ≤ L) (hJ : LJ y E σ x0 m0 ou t t) (hI : F5 E σ x0 m0) (hT : tp E σ x0 m0) {H : Heap} {locs : List Loc} {ls : Array Slot} {cells slots : Nat} (hH : th_H G s.heap.size σ H) (hS : va_S (th_A s.heap.size) s.heap H locs) (hl : lv_has ls 7 [(4, .int (I i)), (3, .ref ou), (2, .ref m0), (1, .ref x0), (0, .ref b)]) (hc0 : cells + 200 ≤ 601024) (hs0 : slots + 9800 ≤ 7293034) {Q : State → Prop} (kk : ∀ (E1 : th_E) (σ1 : th_M) (t1 : Int) (H1 : Heap) (locs1 : List Loc) (ls1 : Array Slot) (k1 n1 : Nat), LJ y E1 σ1 x0 m0 ou t1 t1 → F5 E1 σ1 x0 m0 → tp E1 σ1 x0 m0 → th_H G s.heap.size σ1 H1 → va_S (th_A s.heap.size) s.heap H1 locs1 → lv_has ls1 7 [(4, .int (I i)), (3, .ref ou), (2, .ref m0), (1, .ref x0), (0, .ref b)] → k1 ≤ cells + 200 → n1 ≤ slots + 9800 → W p l e room_1 s m #[Value.ref b] below meth c H1 locs1 k1 n1 Q (F0 m 1173 ls1 [])) : W p l e room_1 s m #[Value.ref b] below meth c H locs cells slots Q (F0 m 830 ls []) := by
  obtain ⟨hx, hb, hr, hml, hown, hts, hX, hbl, hlocks, hgv⟩ := C0
  have hbA : ¬ th_A s.heap.size b := Nat.not_le.mpr hbl
  obtain ⟨a1, ra1, ea1⟩ : ∃ z : Int, rng z ∧ xs (I (i + 1)).toNatClampNeg = I z := ⟨_, rng_toInt _, (I_of _).symm⟩
  obtain ⟨a2, ra2, ea2⟩ : ∃ z : Int, rng z ∧ xs (I (i + 2)).toNatClampNeg = I z := ⟨_, rng_toInt _, (I_of _).symm⟩
  refine lv_aload_n hx hb dL_law_830 rfl (lv_at hl 3 rfl) ?_
  refine lv_aload_n hx hb dL_law_831 rfl (lv_at hl 4 rfl) ?_
  refine lv_iload hx hb dL_law_832 (lv_at hl 0 rfl) ?_
  refine lv_iconst (v := I 1) hx hb dL_law_834 (by decide) ?_
  refine lv_iadd hx hb dL_law_835 ?_
  refine nq_top (I_add _ _) ?_
  refine va_sld hx hb hX hbl hbA hS (i := I (i + 1)) (I_in ⟨by omega, by omega⟩ (by omega) (by omega)) dL_law_836 ?_
  refine nq_top ea1 ?_
  refine lv_aload_n hx hb dL_law_837 rfl (lv_at hl 4 rfl) ?_
  refine lv_iload hx hb dL_law_838 (lv_at hl 0 rfl) ?_
  refine lv_iconst (v := I 2) hx hb dL_law_840 (by decide) ?_
  refine lv_iadd hx hb dL_law_841 ?_
  refine nq_top (I_add _ _) ?_
  refine va_sld hx hb hX hbl hbA hS (i := I (i + 2)) (I_in ⟨by omega, by omega⟩ (by omega) (by omega)) dL_law_842 ?_
  refine nq_top ea2 ?_
  obtain ⟨_, hc1⟩ := hJ.1.cell hJ.2.1 (by decide) (ci := 10) rfl
  refine th_calli (va_runV (As := [.int (I a1), .int (I a2)]) (rest := []) ⟨hx, hb, hml, hown, hts⟩ (q_add l G y s.heap.size σ E hJ.1 x0 hJ.2.1 a1 ra1 a2 ra2) (cwV 2 hts gv_X10_add_124 rfl rfl rfl (by decide +kernel) ⟨Nat.le_of_ble_eq_true rfl, Nat.le_of_ble_eq_true rfl⟩) (th_PV hK hH rfl hc1) rfl rfl hl.1 rfl (lv_room (Nat.le_of_ble_eq_true rfl)) dL_law_843 ⟨show _ + _ ≤ 601024 by omega, show _ + _ ≤ 7293034 by omega⟩) hS (fun z4 σ3 H locs rz4 hw2 hH hS => ?_)
  obtain ⟨E16, hX5, hO6, hF7, hw2⟩ := hw2
  have hJ9 := hJ.clr hX5 hO6 hF7 (by decide) rfl
  have hkhJ9 := fr.ki hJ.1 hF7 hJ.2.1 (by decide) (by decide) 1
  have x214 := fr.ki hJ.1 hF7 hJ.2.1 (by decide) (by decide) 2
  have xq15 := fr.aq hJ.1 hF7 hJ.2.1 (by decide) (by decide) k12_3
  have m112 := fr.ki hJ.1 hF7 hJ.2.2.1 (by decide) (by decide) 21
  have m813 := hJ.row8 hX5 (fun x _ h0 hs => hF7 x h0 hs) (by decide)
  have hthJ9 := hJ9.tapm
  have huhJ9 := hJ.tapx
  have hvhJ9 := hJ.tapm
  have rm18 := hJ.row6 hX5 (fun x _ h0 hs => hF7 x h0 hs) (by decide)
  have hT17 := hT.cls (Or.inr ⟨by rw [hX5.ad2 hJ.2.1 (by decide) 0]; exact fr.af hJ.1 hF7 hJ.2.1 (by decide) (by decide) k12_0 isA1, by omega⟩) rm18
  have hI11 := hI.keep hX5 hJ.2.1 x214 (by rw [hX5.ad2 hJ.2.1 (by decide) 3]; exact xq15) m112 m813
  refine lv_pop hx hb dL_law_846 rfl ?_
  refine lv_aload_n hx hb dL_law_847 rfl (lv_at hl 2 rfl) ?_
  refine lv_aload_n hx hb dL_law_848 rfl (lv_at hl 4 rfl) ?_
  refine lv_iload hx hb dL_law_849 (lv_at hl 0 rfl) ?_
  refine lv_iconst (v := I 1) hx hb dL_law_851 (by decide) ?_
  refine lv_iadd hx hb dL_law_852 ?_
  refine nq_top (I_add _ _) ?_
  refine va_sld hx hb hX hbl hbA hS (i := I (i + 1)) (I_in ⟨by omega, by omega⟩ (by omega) (by omega)) dL_law_853 ?_
  refine nq_top ea1 ?_
  refine lv_aload_n hx hb dL_law_854 rfl (lv_at hl 4 rfl) ?_
  refine lv_iload hx hb dL_law_855 (lv_at hl 0 rfl) ?_
  refine lv_iconst (v := I 2) hx hb dL_law_857 (by decide) ?_
  refine lv_iadd hx hb dL_law_858 ?_
  refine nq_top (I_add _ _) ?_
  refine va_sld hx hb hX hbl hbA hS (i := I (i + 2)) (I_in ⟨by omega, by omega⟩ (by omega) (by omega)) dL_law_859 ?_
  refine nq_top ea2 ?_
  obtain ⟨_, hc19⟩ := hJ9.1.cell hJ9.2.2.1 (by decide) (ci := 11) rfl
  refine th_calli (va_runV (As := [.int (I a1), .int (I a2)]) (rest := []) ⟨hx, hb, hml, hown, hts⟩ (j_add l G y s.heap.size σ3 E16 hJ9.1 m0 hJ9.2.2.1 a1 ra1 a2 ra2 _ rfl _ rfl _ rfl _ rfl _ rfl _ rfl _ rfl _ rfl _ rfl _ rfl _ rfl _ rfl _ rfl _ rfl _ rfl hJ9.jw) (cwV 2 hts gv_X11_add_127 rfl rfl rfl (by decide +kernel) ⟨Nat.le_of_ble_eq_true rfl, Nat.le_of_ble_eq_true rfl⟩) (th_PV hK hH rfl hc19) rfl rfl hl.1 rfl (lv_room (Nat.le_of_ble_eq_true rfl)) dL_law_860 ⟨show _ + _ ≤ 601024 by omega, show _ + _ ≤ 7293034 by omega⟩) hS (fun z22 σ21 H locs rz22 hw20 hH hS => ?_)
  obtain ⟨hO24, hF25, hM26, hq28, hw20⟩ := hw20
  have hwhJ27 := hJ9.tapm
  have hJ27 := hJ9.ref hO24 hF25 hM26 hq28 (show gI σ21 m0 12 = (gI σ3 x0 1) by omega)
  have rx34 := fr.af hJ9.1 hF25 hJ9.2.1 (by decide) (by decide) k12_0 isA1
  have hchJ27 := fr.ki hJ9.1 hF25 hJ9.2.1 (by decide) (by decide) 1
  have hT35 := hT17.ref rx34 (hM26.a (by decide) (by decide)) hchJ27
  have x232 := fr.ki hJ9.1 hF25 hJ9.2.1 (by decide) (by decide) 2
  have xq33 := fr.aq hJ9.1 hF25 hJ9.2.1 (by decide) (by decide) k12_3
  have m831 : aF σ21 (ad E16 m0 8) = aF σ3 (ad E16 m0 8) := hM26.a (by decide) (by decide)
  have m130 := hM26.i (k := 21) (by decide)
  have hI29 := hI11.keep ext.rf hJ9.2.1 x232 xq33 m130 m831
  refine lv_pop hx hb dL_law_863 rfl ?_
  refine lv_goto (tgt := 1173) hx hb dL_law_864 (by decide) ?_
  exact kk _ _ _ _ _ _ _ _ hJ27 hI29 hT35 hH hS (lv_sub hl [0, 1, 2, 3, 4] rfl) (by omega) (by omega)

set_option maxHeartbeats 400000 in
set_option maxRecDepth 100000 in
theorem lc_17 {p : Program} {e : Env} {s : State} {m : MethodId} {below : List Frame} {meth : Method} {c : Code} {l : Launch} {b L : Nat} {xs : Nat → Int32} {G : va_G} {y : Nat → ClassId} (hl0 : l.stackTraces = false) (C0 : lw_At p s m meth c b L xs) (hK : nq_K G y s) (hXs : nq_X (th_A s.heap.size) s) {E : th_E} {σ : th_M} {x0 m0 ou : Nat} {t i : Int} (hL : L ≤ 3072) (hi0 : 0 ≤ i) (hi1 : i + 6 ≤ L) (hJ : LJ y E σ x0 m0 ou t t) (hI : F5 E σ x0 m0) (hT : tp E σ x0 m0) {H : Heap} {locs : List Loc} {ls : Array Slot} {cells slots : Nat} (hH : th_H G s.heap.size σ H) (hS : va_S (th_A s.heap.size) s.heap H locs) (hl : lv_has ls 7 [(4, .int (I i)), (3, .ref ou), (2, .ref m0), (1, .ref x0), (0, .ref b)]) (hc0 : cells + 200 ≤ 601024) (hs0 : slots + 9800 ≤ 7293034) {Q : State → Prop} (kk : ∀ (E1 : th_E) (σ1 : th_M) (t1 : Int) (H1 : Heap) (locs1 : List Loc) (ls1 : Array Slot) (k1 n1 : Nat), LJ y E1 σ1 x0 m0 ou t1 t1 → F5 E1 σ1 x0 m0 → tp E1 σ1 x0 m0 → th_H G s.heap.size σ1 H1 → va_S (th_A s.heap.size) s.heap H1 locs1 → lv_has ls1 7 [(4, .int (I i)), (3, .ref ou), (2, .ref m0), (1, .ref x0), (0, .ref b)] → k1 ≤ cells + 200 → n1 ≤ slots + 9800 → W p l e room_1 s m #[Value.ref b] below meth c H1 locs1 k1 n1 Q (F0 m 1173 ls1 [])) : W p l e room_1 s m #[Value.ref b] below meth c H locs cells slots Q (F0 m 867 ls []) := by
  obtain ⟨hx, hb, hr, hml, hown, hts, hX, hbl, hlocks, hgv⟩ := C0
  have hbA : ¬ th_A s.heap.size b := Nat.not_le.mpr hbl
  obtain ⟨a1, ra1, ea1⟩ : ∃ z : Int, rng z ∧ xs (I (i + 1)).toNatClampNeg = I z := ⟨_, rng_toInt _, (I_of _).symm⟩
  obtain ⟨a2, ra2, ea2⟩ : ∃ z : Int, rng z ∧ xs (I (i + 2)).toNatClampNeg = I z := ⟨_, rng_toInt _, (I_of _).symm⟩
  refine lv_aload_n hx hb dL_law_867 rfl (lv_at hl 3 rfl) ?_
  refine lv_aload_n hx hb dL_law_868 rfl (lv_at hl 4 rfl) ?_
  refine lv_iload hx hb dL_law_869 (lv_at hl 0 rfl) ?_
  refine lv_iconst (v := I 1) hx hb dL_law_871 (by decide) ?_
  refine lv_iadd hx hb dL_law_872 ?_
  refine nq_top (I_add _ _) ?_
  refine va_sld hx hb hX hbl hbA hS (i := I (i + 1)) (I_in ⟨by omega, by omega⟩ (by omega) (by omega)) dL_law_873 ?_
  refine nq_top ea1 ?_
  refine lv_aload_n hx hb dL_law_874 rfl (lv_at hl 4 rfl) ?_
  refine lv_iload hx hb dL_law_875 (lv_at hl 0 rfl) ?_
  refine lv_iconst (v := I 2) hx hb dL_law_877 (by decide) ?_
  refine lv_iadd hx hb dL_law_878 ?_
  refine nq_top (I_add _ _) ?_
  refine va_sld hx hb hX hbl hbA hS (i := I (i + 2)) (I_in ⟨by omega, by omega⟩ (by omega) (by omega)) dL_law_879 ?_
  refine nq_top ea2 ?_
  obtain ⟨_, hc1⟩ := hJ.1.cell hJ.2.1 (by decide) (ci := 10) rfl
  refine th_calli (va_runV (As := [.int (I a1), .int (I a2)]) (rest := []) ⟨hx, hb, hml, hown, hts⟩ (q_change l G y s.heap.size σ E hJ.1 x0 hJ.2.1 a1 ra1 a2 ra2) (cwV 2 hts gv_X10_change_128 rfl rfl rfl (by decide +kernel) ⟨Nat.le_of_ble_eq_true rfl, Nat.le_of_ble_eq_true rfl⟩) (th_PV hK hH rfl hc1) rfl rfl hl.1 rfl (lv_room (Nat.le_of_ble_eq_true rfl)) dL_law_880 ⟨show _ + _ ≤ 601024 by omega, show _ + _ ≤ 7293034 by omega⟩) hS (fun z4 σ3 H locs rz4 hw2 hH hS => ?_)
  obtain ⟨E16, hX5, hO6, hF7, hw2⟩ := hw2
  have hJ9 := hJ.clr hX5 hO6 hF7 (by decide) rfl
  have hkhJ9 := fr.ki hJ.1 hF7 hJ.2.1 (by decide) (by decide) 1
  have x214 := fr.ki hJ.1 hF7 hJ.2.1 (by decide) (by decide) 2
  have xq15 := fr.aq hJ.1 hF7 hJ.2.1 (by decide) (by decide) k12_3
  have m112 := fr.ki hJ.1 hF7 hJ.2.2.1 (by decide) (by decide) 21
  have m813 := hJ.row8 hX5 (fun x _ h0 hs => hF7 x h0 hs) (by decide)
  have hthJ9 := hJ9.tapm
  have huhJ9 := hJ.tapx
  have hvhJ9 := hJ.tapm
  have rm18 := hJ.row6 hX5 (fun x _ h0 hs => hF7 x h0 hs) (by decide)
  have hT17 := hT.cls (Or.inr ⟨by rw [hX5.ad2 hJ.2.1 (by decide) 0]; exact fr.af hJ.1 hF7 hJ.2.1 (by decide) (by decide) k12_0 isA1, by omega⟩) rm18
  have hI11 := hI.keep hX5 hJ.2.1 x214 (by rw [hX5.ad2 hJ.2.1 (by decide) 3]; exact xq15) m112 m813
  refine lv_pop hx hb dL_law_883 rfl ?_
  refine lv_aload_n hx hb dL_law_884 rfl (lv_at hl 2 rfl) ?_
  refine lv_aload_n hx hb dL_law_885 rfl (lv_at hl 4 rfl) ?_
  refine lv_iload hx hb dL_law_886 (lv_at hl 0 rfl) ?_
  refine lv_iconst (v := I 1) hx hb dL_law_888 (by decide) ?_
  refine lv_iadd hx hb dL_law_889 ?_
  refine nq_top (I_add _ _) ?_
  refine va_sld hx hb hX hbl hbA hS (i := I (i + 1)) (I_in ⟨by omega, by omega⟩ (by omega) (by omega)) dL_law_890 ?_
  refine nq_top ea1 ?_
  refine lv_aload_n hx hb dL_law_891 rfl (lv_at hl 4 rfl) ?_
  refine lv_iload hx hb dL_law_892 (lv_at hl 0 rfl) ?_
  refine lv_iconst (v := I 2) hx hb dL_law_894 (by decide) ?_
  refine lv_iadd hx hb dL_law_895 ?_
  refine nq_top (I_add _ _) ?_
  refine va_sld hx hb hX hbl hbA hS (i := I (i + 2)) (I_in ⟨by omega, by omega⟩ (by omega) (by omega)) dL_law_896 ?_
  refine nq_top ea2 ?_
  obtain ⟨_, hc19⟩ := hJ9.1.cell hJ9.2.2.1 (by decide) (ci := 11) rfl
  refine th_calli (va_runV (As := [.int (I a1), .int (I a2)]) (rest := []) ⟨hx, hb, hml, hown, hts⟩ (j_change l G y s.heap.size σ3 E16 hJ9.1 m0 hJ9.2.2.1 a1 ra1 a2 ra2 _ rfl _ rfl _ rfl _ rfl _ rfl _ rfl _ rfl _ rfl _ rfl _ rfl _ rfl _ rfl _ rfl _ rfl _ rfl hJ9.jw) (cwV 2 hts gv_X11_change_131 rfl rfl rfl (by decide +kernel) ⟨Nat.le_of_ble_eq_true rfl, Nat.le_of_ble_eq_true rfl⟩) (th_PV hK hH rfl hc19) rfl rfl hl.1 rfl (lv_room (Nat.le_of_ble_eq_true rfl)) dL_law_897 ⟨show _ + _ ≤ 601024 by omega, show _ + _ ≤ 7293034 by omega⟩) hS (fun z22 σ21 H locs rz22 hw20 hH hS => ?_)
  obtain ⟨hO24, hF25, hM26, hq28, hw20⟩ := hw20
  have hwhJ27 := hJ9.tapm
  have hJ27 := hJ9.ref hO24 hF25 hM26 hq28 (show gI σ21 m0 12 = (gI σ3 x0 1) by omega)
  have rx34 := fr.af hJ9.1 hF25 hJ9.2.1 (by decide) (by decide) k12_0 isA1
  have hchJ27 := fr.ki hJ9.1 hF25 hJ9.2.1 (by decide) (by decide) 1
  have hT35 := hT17.ref rx34 (hM26.a (by decide) (by decide)) hchJ27
  have x232 := fr.ki hJ9.1 hF25 hJ9.2.1 (by decide) (by decide) 2
  have xq33 := fr.aq hJ9.1 hF25 hJ9.2.1 (by decide) (by decide) k12_3
  have m831 : aF σ21 (ad E16 m0 8) = aF σ3 (ad E16 m0 8) := hM26.a (by decide) (by decide)
  have m130 := hM26.i (k := 21) (by decide)
  have hI29 := hI11.keep ext.rf hJ9.2.1 x232 xq33 m130 m831
  refine lv_pop hx hb dL_law_900 rfl ?_
  refine lv_goto (tgt := 1173) hx hb dL_law_901 (by decide) ?_
  exact kk _ _ _ _ _ _ _ _ hJ27 hI29 hT35 hH hS (lv_sub hl [0, 1, 2, 3, 4] rfl) (by omega) (by omega)

set_option maxHeartbeats 400000 in
set_option maxRecDepth 100000 in
theorem lc_18 {p : Program} {e : Env} {s : State} {m : MethodId} {below : List Frame} {meth : Method} {c : Code} {l : Launch} {b L : Nat} {xs : Nat → Int32} {G : va_G} {y : Nat → ClassId} (hl0 : l.stackTraces = false) (C0 : lw_At p s m meth c b L xs) (hK : nq_K G y s) (hXs : nq_X (th_A s.heap.size) s) {E : th_E} {σ : th_M} {x0 m0 ou : Nat} {t i : Int} (hL : L ≤ 3072) (hi0 : 0 ≤ i) (hi1 : i + 6 ≤ L) (hJ : LJ y E σ x0 m0 ou t t) (hI : F5 E σ x0 m0) (hT : tp E σ x0 m0) {H : Heap} {locs : List Loc} {ls : Array Slot} {cells slots : Nat} (hH : th_H G s.heap.size σ H) (hS : va_S (th_A s.heap.size) s.heap H locs) (hl : lv_has ls 7 [(4, .int (I i)), (3, .ref ou), (2, .ref m0), (1, .ref x0), (0, .ref b)]) (hc0 : cells + 200 ≤ 601024) (hs0 : slots + 9800 ≤ 7293034) {Q : State → Prop} (kk : ∀ (E1 : th_E) (σ1 : th_M) (t1 : Int) (H1 : Heap) (locs1 : List Loc) (ls1 : Array Slot) (k1 n1 : Nat), LJ y E1 σ1 x0 m0 ou t1 t1 → F5 E1 σ1 x0 m0 → tp E1 σ1 x0 m0 → th_H G s.heap.size σ1 H1 → va_S (th_A s.heap.size) s.heap H1 locs1 → lv_has ls1 7 [(4, .int (I i)), (3, .ref ou), (2, .ref m0), (1, .ref x0), (0, .ref b)] → k1 ≤ cells + 200 → n1 ≤ slots + 9800 → W p l e room_1 s m #[Value.ref b] below meth c H1 locs1 k1 n1 Q (F0 m 1173 ls1 [])) : W p l e room_1 s m #[Value.ref b] below meth c H locs cells slots Q (F0 m 904 ls []) := by
  obtain ⟨hx, hb, hr, hml, hown, hts, hX, hbl, hlocks, hgv⟩ := C0
  have hbA : ¬ th_A s.heap.size b := Nat.not_le.mpr hbl
  obtain ⟨a1, ra1, ea1⟩ : ∃ z : Int, rng z ∧ xs (I (i + 1)).toNatClampNeg = I z := ⟨_, rng_toInt _, (I_of _).symm⟩
  obtain ⟨a2, ra2, ea2⟩ : ∃ z : Int, rng z ∧ xs (I (i + 2)).toNatClampNeg = I z := ⟨_, rng_toInt _, (I_of _).symm⟩
  obtain ⟨a3, ra3, ea3⟩ : ∃ z : Int, rng z ∧ xs (I (i + 3)).toNatClampNeg = I z := ⟨_, rng_toInt _, (I_of _).symm⟩
  refine lv_aload_n hx hb dL_law_904 rfl (lv_at hl 3 rfl) ?_
  refine lv_aload_n hx hb dL_law_905 rfl (lv_at hl 4 rfl) ?_
  refine lv_iload hx hb dL_law_906 (lv_at hl 0 rfl) ?_
  refine lv_iconst (v := I 1) hx hb dL_law_908 (by decide) ?_
  refine lv_iadd hx hb dL_law_909 ?_
  refine nq_top (I_add _ _) ?_
  refine va_sld hx hb hX hbl hbA hS (i := I (i + 1)) (I_in ⟨by omega, by omega⟩ (by omega) (by omega)) dL_law_910 ?_
  refine nq_top ea1 ?_
  refine lv_aload_n hx hb dL_law_911 rfl (lv_at hl 4 rfl) ?_
  refine lv_iload hx hb dL_law_912 (lv_at hl 0 rfl) ?_
  refine lv_iconst (v := I 2) hx hb dL_law_914 (by decide) ?_
  refine lv_iadd hx hb dL_law_915 ?_
  refine nq_top (I_add _ _) ?_
  refine va_sld hx hb hX hbl hbA hS (i := I (i + 2)) (I_in ⟨by omega, by omega⟩ (by omega) (by omega)) dL_law_916 ?_
  refine nq_top ea2 ?_
  refine lv_aload_n hx hb dL_law_917 rfl (lv_at hl 4 rfl) ?_
  refine lv_iload hx hb dL_law_918 (lv_at hl 0 rfl) ?_
  refine lv_iconst (v := I 3) hx hb dL_law_920 (by decide) ?_
  refine lv_iadd hx hb dL_law_921 ?_
  refine nq_top (I_add _ _) ?_
  refine va_sld hx hb hX hbl hbA hS (i := I (i + 3)) (I_in ⟨by omega, by omega⟩ (by omega) (by omega)) dL_law_922 ?_
  refine nq_top ea3 ?_
  obtain ⟨_, hc1⟩ := hJ.1.cell hJ.2.1 (by decide) (ci := 10) rfl
  refine th_calli (va_runV (As := [.int (I a1), .int (I a2), .int (I a3)]) (rest := []) ⟨hx, hb, hml, hown, hts⟩ (q_move l G y s.heap.size σ E hJ.1 x0 hJ.2.1 a1 ra1 a2 ra2 a3 ra3) (cwV 3 hts gv_X10_move_132 rfl rfl rfl (by decide +kernel) ⟨Nat.le_of_ble_eq_true rfl, Nat.le_of_ble_eq_true rfl⟩) (th_PV hK hH rfl hc1) rfl rfl hl.1 rfl (lv_room (Nat.le_of_ble_eq_true rfl)) dL_law_923 ⟨show _ + _ ≤ 601024 by omega, show _ + _ ≤ 7293034 by omega⟩) hS (fun z4 σ3 H locs rz4 hw2 hH hS => ?_)
  obtain ⟨E16, hX5, hO6, hF7, hw2⟩ := hw2
  have hJ9 := hJ.clr hX5 hO6 hF7 (by decide) rfl
  have hkhJ9 := fr.ki hJ.1 hF7 hJ.2.1 (by decide) (by decide) 1
  have x214 := fr.ki hJ.1 hF7 hJ.2.1 (by decide) (by decide) 2
  have xq15 := fr.aq hJ.1 hF7 hJ.2.1 (by decide) (by decide) k12_3
  have m112 := fr.ki hJ.1 hF7 hJ.2.2.1 (by decide) (by decide) 21
  have m813 := hJ.row8 hX5 (fun x _ h0 hs => hF7 x h0 hs) (by decide)
  have hthJ9 := hJ9.tapm
  have huhJ9 := hJ.tapx
  have hvhJ9 := hJ.tapm
  have rm18 := hJ.row6 hX5 (fun x _ h0 hs => hF7 x h0 hs) (by decide)
  have hT17 := hT.cls (Or.inr ⟨by rw [hX5.ad2 hJ.2.1 (by decide) 0]; exact fr.af hJ.1 hF7 hJ.2.1 (by decide) (by decide) k12_0 isA1, by omega⟩) rm18
  have hI11 := hI.keep hX5 hJ.2.1 x214 (by rw [hX5.ad2 hJ.2.1 (by decide) 3]; exact xq15) m112 m813
  refine lv_pop hx hb dL_law_926 rfl ?_
  refine lv_aload_n hx hb dL_law_927 rfl (lv_at hl 2 rfl) ?_
  refine lv_aload_n hx hb dL_law_928 rfl (lv_at hl 4 rfl) ?_
  refine lv_iload hx hb dL_law_929 (lv_at hl 0 rfl) ?_
  refine lv_iconst (v := I 1) hx hb dL_law_931 (by decide) ?_
  refine lv_iadd hx hb dL_law_932 ?_
  refine nq_top (I_add _ _) ?_
  refine va_sld hx hb hX hbl hbA hS (i := I (i + 1)) (I_in ⟨by omega, by omega⟩ (by omega) (by omega)) dL_law_933 ?_
  refine nq_top ea1 ?_
  refine lv_aload_n hx hb dL_law_934 rfl (lv_at hl 4 rfl) ?_
  refine lv_iload hx hb dL_law_935 (lv_at hl 0 rfl) ?_
  refine lv_iconst (v := I 2) hx hb dL_law_937 (by decide) ?_
  refine lv_iadd hx hb dL_law_938 ?_
  refine nq_top (I_add _ _) ?_
  refine va_sld hx hb hX hbl hbA hS (i := I (i + 2)) (I_in ⟨by omega, by omega⟩ (by omega) (by omega)) dL_law_939 ?_
  refine nq_top ea2 ?_
  refine lv_aload_n hx hb dL_law_940 rfl (lv_at hl 4 rfl) ?_
  refine lv_iload hx hb dL_law_941 (lv_at hl 0 rfl) ?_
  refine lv_iconst (v := I 3) hx hb dL_law_943 (by decide) ?_
  refine lv_iadd hx hb dL_law_944 ?_
  refine nq_top (I_add _ _) ?_
  refine va_sld hx hb hX hbl hbA hS (i := I (i + 3)) (I_in ⟨by omega, by omega⟩ (by omega) (by omega)) dL_law_945 ?_
  refine nq_top ea3 ?_
  obtain ⟨_, hc19⟩ := hJ9.1.cell hJ9.2.2.1 (by decide) (ci := 11) rfl
  refine th_calli (va_runV (As := [.int (I a1), .int (I a2), .int (I a3)]) (rest := []) ⟨hx, hb, hml, hown, hts⟩ (j_move l G y s.heap.size σ3 E16 hJ9.1 m0 hJ9.2.2.1 a1 ra1 a2 ra2 a3 ra3 _ rfl _ rfl _ rfl _ rfl _ rfl _ rfl _ rfl _ rfl _ rfl _ rfl _ rfl hJ9.jw) (cwV 3 hts gv_X11_move_135 rfl rfl rfl (by decide +kernel) ⟨Nat.le_of_ble_eq_true rfl, Nat.le_of_ble_eq_true rfl⟩) (th_PV hK hH rfl hc19) rfl rfl hl.1 rfl (lv_room (Nat.le_of_ble_eq_true rfl)) dL_law_946 ⟨show _ + _ ≤ 601024 by omega, show _ + _ ≤ 7293034 by omega⟩) hS (fun z22 σ21 H locs rz22 hw20 hH hS => ?_)
  obtain ⟨hO24, hF25, hM26, hq28, hw20⟩ := hw20
  have hwhJ27 := hJ9.tapm
  have hJ27 := hJ9.ref hO24 hF25 hM26 hq28 (show gI σ21 m0 12 = (gI σ3 x0 1) by omega)
  have rx34 := fr.af hJ9.1 hF25 hJ9.2.1 (by decide) (by decide) k12_0 isA1
  have hchJ27 := fr.ki hJ9.1 hF25 hJ9.2.1 (by decide) (by decide) 1
  have hT35 := hT17.ref rx34 (hM26.a (by decide) (by decide)) hchJ27
  have x232 := fr.ki hJ9.1 hF25 hJ9.2.1 (by decide) (by decide) 2
  have xq33 := fr.aq hJ9.1 hF25 hJ9.2.1 (by decide) (by decide) k12_3
  have m831 : aF σ21 (ad E16 m0 8) = aF σ3 (ad E16 m0 8) := hM26.a (by decide) (by decide)
  have m130 := hM26.i (k := 21) (by decide)
  have hI29 := hI11.keep ext.rf hJ9.2.1 x232 xq33 m130 m831
  refine lv_pop hx hb dL_law_949 rfl ?_
  refine lv_goto (tgt := 1173) hx hb dL_law_950 (by decide) ?_
  exact kk _ _ _ _ _ _ _ _ hJ27 hI29 hT35 hH hS (lv_sub hl [0, 1, 2, 3, 4] rfl) (by omega) (by omega)

set_option maxHeartbeats 400000 in
set_option maxRecDepth 100000 in
theorem lc_19 {p : Program} {e : Env} {s : State} {m : MethodId} {below : List Frame} {meth : Method} {c : Code} {l : Launch} {b L : Nat} {xs : Nat → Int32} {G : va_G} {y : Nat → ClassId} (hl0 : l.stackTraces = false) (C0 : lw_At p s m meth c b L xs) (hK : nq_K G y s) (hXs : nq_X (th_A s.heap.size) s) {E : th_E} {σ : th_M} {x0 m0 ou : Nat} {t i : Int} (hL : L ≤ 3072) (hi0 : 0 ≤ i) (hi1 : i + 6 ≤ L) (hJ : LJ y E σ x0 m0 ou t t) (hI : F5 E σ x0 m0) (hT : tp E σ x0 m0) {H : Heap} {locs : List Loc} {ls : Array Slot} {cells slots : Nat} (hH : th_H G s.heap.size σ H) (hS : va_S (th_A s.heap.size) s.heap H locs) (hl : lv_has ls 7 [(4, .int (I i)), (3, .ref ou), (2, .ref m0), (1, .ref x0), (0, .ref b)]) (hc0 : cells + 200 ≤ 601024) (hs0 : slots + 9800 ≤ 7293034) {Q : State → Prop} (kk : ∀ (E1 : th_E) (σ1 : th_M) (t1 : Int) (H1 : Heap) (locs1 : List Loc) (ls1 : Array Slot) (k1 n1 : Nat), LJ y E1 σ1 x0 m0 ou t1 t1 → F5 E1 σ1 x0 m0 → tp E1 σ1 x0 m0 → th_H G s.heap.size σ1 H1 → va_S (th_A s.heap.size) s.heap H1 locs1 → lv_has ls1 7 [(4, .int (I i)), (3, .ref ou), (2, .ref m0), (1, .ref x0), (0, .ref b)] → k1 ≤ cells + 200 → n1 ≤ slots + 9800 → W p l e room_1 s m #[Value.ref b] below meth c H1 locs1 k1 n1 Q (F0 m 1173 ls1 [])) : W p l e room_1 s m #[Value.ref b] below meth c H locs cells slots Q (F0 m 953 ls []) := by
  obtain ⟨hx, hb, hr, hml, hown, hts, hX, hbl, hlocks, hgv⟩ := C0
  have hbA : ¬ th_A s.heap.size b := Nat.not_le.mpr hbl
  refine lv_aload_n hx hb dL_law_953 rfl (lv_at hl 3 rfl) ?_
  obtain ⟨_, hc1⟩ := hJ.1.cell hJ.2.1 (by decide) (ci := 10) rfl
  refine th_calli (va_runV (As := []) (rest := []) ⟨hx, hb, hml, hown, hts⟩ (q_keep l G y s.heap.size σ E hJ.1 x0 hJ.2.1 ) (cwV 0 hts gv_X10_keep_136 rfl rfl rfl (by decide +kernel) ⟨Nat.le_of_ble_eq_true rfl, Nat.le_of_ble_eq_true rfl⟩) (th_PV hK hH rfl hc1) rfl rfl hl.1 rfl (lv_room (Nat.le_of_ble_eq_true rfl)) dL_law_954 ⟨show _ + _ ≤ 601024 by omega, show _ + _ ≤ 7293034 by omega⟩) hS (fun z4 σ3 H locs rz4 hw2 hH hS => ?_)
  obtain ⟨hO6, hF7, hw2⟩ := hw2
  have hJ9 := hJ.clr (ext.rf (E := E)) hO6 hF7 (by decide) rfl
  have hkhJ9 := fr.ki hJ.1 hF7 hJ.2.1 (by decide) (by decide) 1
  have x214 := fr.ki hJ.1 hF7 hJ.2.1 (by decide) (by decide) 2
  have xq15 := fr.aq hJ.1 hF7 hJ.2.1 (by decide) (by decide) k12_3
  have m112 := fr.ki hJ.1 hF7 hJ.2.2.1 (by decide) (by decide) 21
  have m813 := hJ.row8 (ext.rf (E := E)) (fun x _ h0 hs => hF7 x h0 hs) (by decide)
  have hthJ9 := hJ9.tapm
  have huhJ9 := hJ.tapx
  have hvhJ9 := hJ.tapm
  have rm17 := hJ.row6 (ext.rf (E := E)) (fun x _ h0 hs => hF7 x h0 hs) (by decide)
  have hT16 := hT.cls (Or.inr ⟨by rw [(ext.rf (E := E)).ad2 hJ.2.1 (by decide) 0]; exact fr.af hJ.1 hF7 hJ.2.1 (by decide) (by decide) k12_0 isA1, by omega⟩) rm17
  have hI11 := hI.keep (ext.rf (E := E)) hJ.2.1 x214 (by rw [(ext.rf (E := E)).ad2 hJ.2.1 (by decide) 3]; exact xq15) m112 m813
  refine lv_pop hx hb dL_law_957 rfl ?_
  refine lv_aload_n hx hb dL_law_958 rfl (lv_at hl 2 rfl) ?_
  obtain ⟨_, hc18⟩ := hJ9.1.cell hJ9.2.2.1 (by decide) (ci := 11) rfl
  refine th_calli (va_runV (As := []) (rest := []) ⟨hx, hb, hml, hown, hts⟩ (j_keep l G y s.heap.size σ3 E hJ9.1 m0 hJ9.2.2.1  _ rfl _ rfl _ rfl _ rfl _ rfl _ rfl _ rfl _ rfl _ rfl _ rfl _ rfl hJ9.jw) (cwV 0 hts gv_X11_keep_139 rfl rfl rfl (by decide +kernel) ⟨Nat.le_of_ble_eq_true rfl, Nat.le_of_ble_eq_true rfl⟩) (th_PV hK hH rfl hc18) rfl rfl hl.1 rfl (lv_room (Nat.le_of_ble_eq_true rfl)) dL_law_959 ⟨show _ + _ ≤ 601024 by omega, show _ + _ ≤ 7293034 by omega⟩) hS (fun z21 σ20 H locs rz21 hw19 hH hS => ?_)
  obtain ⟨hO23, hF24, hM25, hq27, hw19⟩ := hw19
  have hwhJ26 := hJ9.tapm
  have hJ26 := hJ9.ref hO23 hF24 hM25 hq27 (show gI σ20 m0 12 = (gI σ3 x0 1) by omega)
  have rx33 := fr.af hJ9.1 hF24 hJ9.2.1 (by decide) (by decide) k12_0 isA1
  have hchJ26 := fr.ki hJ9.1 hF24 hJ9.2.1 (by decide) (by decide) 1
  have hT34 := hT16.ref rx33 (hM25.a (by decide) (by decide)) hchJ26
  have x231 := fr.ki hJ9.1 hF24 hJ9.2.1 (by decide) (by decide) 2
  have xq32 := fr.aq hJ9.1 hF24 hJ9.2.1 (by decide) (by decide) k12_3
  have m830 : aF σ20 (ad E m0 8) = aF σ3 (ad E m0 8) := hM25.a (by decide) (by decide)
  have m129 := hM25.i (k := 21) (by decide)
  have hI28 := hI11.keep ext.rf hJ9.2.1 x231 xq32 m129 m830
  refine lv_pop hx hb dL_law_962 rfl ?_
  refine lv_goto (tgt := 1173) hx hb dL_law_963 (by decide) ?_
  exact kk _ _ _ _ _ _ _ _ hJ26 hI28 hT34 hH hS (lv_sub hl [0, 1, 2, 3, 4] rfl) (by omega) (by omega)

set_option maxHeartbeats 400000 in
set_option maxRecDepth 100000 in
theorem lc_20 {p : Program} {e : Env} {s : State} {m : MethodId} {below : List Frame} {meth : Method} {c : Code} {l : Launch} {b L : Nat} {xs : Nat → Int32} {G : va_G} {y : Nat → ClassId} (hl0 : l.stackTraces = false) (C0 : lw_At p s m meth c b L xs) (hK : nq_K G y s) (hXs : nq_X (th_A s.heap.size) s) {E : th_E} {σ : th_M} {x0 m0 ou : Nat} {t i : Int} (hL : L ≤ 3072) (hi0 : 0 ≤ i) (hi1 : i + 6 ≤ L) (hJ : LJ y E σ x0 m0 ou t t) (hI : F5 E σ x0 m0) (hT : tp E σ x0 m0) {H : Heap} {locs : List Loc} {ls : Array Slot} {cells slots : Nat} (hH : th_H G s.heap.size σ H) (hS : va_S (th_A s.heap.size) s.heap H locs) (hl : lv_has ls 7 [(4, .int (I i)), (3, .ref ou), (2, .ref m0), (1, .ref x0), (0, .ref b)]) (hc0 : cells + 200 ≤ 601024) (hs0 : slots + 9800 ≤ 7293034) {Q : State → Prop} (kk : ∀ (E1 : th_E) (σ1 : th_M) (t1 : Int) (H1 : Heap) (locs1 : List Loc) (ls1 : Array Slot) (k1 n1 : Nat), LJ y E1 σ1 x0 m0 ou t1 t1 → F5 E1 σ1 x0 m0 → tp E1 σ1 x0 m0 → th_H G s.heap.size σ1 H1 → va_S (th_A s.heap.size) s.heap H1 locs1 → lv_has ls1 7 [(4, .int (I i)), (3, .ref ou), (2, .ref m0), (1, .ref x0), (0, .ref b)] → k1 ≤ cells + 200 → n1 ≤ slots + 9800 → W p l e room_1 s m #[Value.ref b] below meth c H1 locs1 k1 n1 Q (F0 m 1173 ls1 [])) : W p l e room_1 s m #[Value.ref b] below meth c H locs cells slots Q (F0 m 966 ls []) := by
  obtain ⟨hx, hb, hr, hml, hown, hts, hX, hbl, hlocks, hgv⟩ := C0
  have hbA : ¬ th_A s.heap.size b := Nat.not_le.mpr hbl
  obtain ⟨a1, ra1, ea1⟩ : ∃ z : Int, rng z ∧ xs (I (i + 1)).toNatClampNeg = I z := ⟨_, rng_toInt _, (I_of _).symm⟩
  refine lv_aload_n hx hb dL_law_966 rfl (lv_at hl 3 rfl) ?_
  refine lv_aload_n hx hb dL_law_967 rfl (lv_at hl 4 rfl) ?_
  refine lv_iload hx hb dL_law_968 (lv_at hl 0 rfl) ?_
  refine lv_iconst (v := I 1) hx hb dL_law_970 (by decide) ?_
  refine lv_iadd hx hb dL_law_971 ?_
  refine nq_top (I_add _ _) ?_
  refine va_sld hx hb hX hbl hbA hS (i := I (i + 1)) (I_in ⟨by omega, by omega⟩ (by omega) (by omega)) dL_law_972 ?_
  refine nq_top ea1 ?_
  refine lv_if_eq (tgt := 980) hx hb dL_law_973 (by decide) (fun c1 => ?_) (fun c1 => ?_)
  · refine lv_iconst (v := I 0) hx hb dL_law_980 (by decide) ?_
    obtain ⟨_, hc2⟩ := hJ.1.cell hJ.2.1 (by decide) (ci := 10) rfl
    refine th_calli (va_runV (As := [.int (I 0)]) (rest := []) ⟨hx, hb, hml, hown, hts⟩ (q_apply l G y s.heap.size σ E hJ.1 x0 hJ.2.1 0 (show rng 0 from ⟨by decide, by decide⟩) (by decide) (by decide)) (cwV 1 hts gv_X10_apply_140 rfl rfl rfl (by decide +kernel) ⟨Nat.le_of_ble_eq_true rfl, Nat.le_of_ble_eq_true rfl⟩) (th_PV hK hH rfl hc2) rfl rfl hl.1 rfl (lv_room (Nat.le_of_ble_eq_true rfl)) dL_law_981 ⟨show _ + _ ≤ 601024 by omega, show _ + _ ≤ 7293034 by omega⟩) hS (fun z5 σ4 H locs rz5 hw3 hH hS => ?_)
    obtain ⟨E17, hX6, hO7, hF8, hw3⟩ := hw3
    have hJ10 := hJ.clr hX6 hO7 hF8 (by decide) rfl
    have hkhJ10 := fr.ki hJ.1 hF8 hJ.2.1 (by decide) (by decide) 1
    have x215 := fr.ki hJ.1 hF8 hJ.2.1 (by decide) (by decide) 2
    have xq16 := fr.aq hJ.1 hF8 hJ.2.1 (by decide) (by decide) k12_3
    have m113 := fr.ki hJ.1 hF8 hJ.2.2.1 (by decide) (by decide) 21
    have m814 := hJ.row8 hX6 (fun x _ h0 hs => hF8 x h0 hs) (by decide)
    have hthJ10 := hJ10.tapm
    have huhJ10 := hJ.tapx
    have hvhJ10 := hJ.tapm
    have rm19 := hJ.row6 hX6 (fun x _ h0 hs => hF8 x h0 hs) (by decide)
    have hT18 := hT.cls (Or.inr ⟨by rw [hX6.ad2 hJ.2.1 (by decide) 0]; exact fr.af hJ.1 hF8 hJ.2.1 (by decide) (by decide) k12_0 isA1, by omega⟩) rm19
    have hI12 := hI.keep hX6 hJ.2.1 x215 (by rw [hX6.ad2 hJ.2.1 (by decide) 3]; exact xq16) m113 m814
    refine lv_pop hx hb dL_law_984 rfl ?_
    refine lv_aload_n hx hb dL_law_985 rfl (lv_at hl 2 rfl) ?_
    refine lv_aload_n hx hb dL_law_986 rfl (lv_at hl 4 rfl) ?_
    refine lv_iload hx hb dL_law_987 (lv_at hl 0 rfl) ?_
    refine lv_iconst (v := I 1) hx hb dL_law_989 (by decide) ?_
    refine lv_iadd hx hb dL_law_990 ?_
    refine nq_top (I_add _ _) ?_
    refine va_sld hx hb hX hbl hbA hS (i := I (i + 1)) (I_in ⟨by omega, by omega⟩ (by omega) (by omega)) dL_law_991 ?_
    refine nq_top ea1 ?_
    refine lv_if_eq (tgt := 999) hx hb dL_law_992 (by decide) (fun c20 => ?_) (fun c20 => ?_)
    · refine lv_iconst (v := I 0) hx hb dL_law_999 (by decide) ?_
      obtain ⟨_, hc21⟩ := hJ10.1.cell hJ10.2.2.1 (by decide) (ci := 11) rfl
      refine th_calli (va_runV (As := [.int (I 0)]) (rest := []) ⟨hx, hb, hml, hown, hts⟩ (j_apply l G y s.heap.size σ4 E17 hJ10.1 m0 hJ10.2.2.1 0 (show rng 0 from ⟨by decide, by decide⟩) (by decide) (by decide) _ rfl _ rfl _ rfl _ rfl _ rfl _ rfl _ rfl _ rfl _ rfl _ rfl _ rfl _ rfl _ rfl hJ10.jw) (cwV 1 hts gv_X11_apply_144 rfl rfl rfl (by decide +kernel) ⟨Nat.le_of_ble_eq_true rfl, Nat.le_of_ble_eq_true rfl⟩) (th_PV hK hH rfl hc21) rfl rfl hl.1 rfl (lv_room (Nat.le_of_ble_eq_true rfl)) dL_law_1000 ⟨show _ + _ ≤ 601024 by omega, show _ + _ ≤ 7293034 by omega⟩) hS (fun z24 σ23 H locs rz24 hw22 hH hS => ?_)
      obtain ⟨hO26, hF27, hM28, hq30, hw22⟩ := hw22
      have hwhJ29 := hJ10.tapm
      have hJ29 := hJ10.ref hO26 hF27 hM28 hq30 (show gI σ23 m0 12 = (gI σ4 x0 1) by omega)
      have rx36 := fr.af hJ10.1 hF27 hJ10.2.1 (by decide) (by decide) k12_0 isA1
      have hchJ29 := fr.ki hJ10.1 hF27 hJ10.2.1 (by decide) (by decide) 1
      have hT37 := hT18.ref rx36 (hM28.a (by decide) (by decide)) hchJ29
      have x234 := fr.ki hJ10.1 hF27 hJ10.2.1 (by decide) (by decide) 2
      have xq35 := fr.aq hJ10.1 hF27 hJ10.2.1 (by decide) (by decide) k12_3
      have m833 : aF σ23 (ad E17 m0 8) = aF σ4 (ad E17 m0 8) := hM28.a (by decide) (by decide)
      have m132 := hM28.i (k := 21) (by decide)
      have hI31 := hI12.keep ext.rf hJ10.2.1 x234 xq35 m132 m833
      refine lv_pop hx hb dL_law_1003 rfl ?_
      refine lv_goto (tgt := 1173) hx hb dL_law_1004 (by decide) ?_
      exact kk _ _ _ _ _ _ _ _ hJ29 hI31 hT37 hH hS (lv_sub hl [0, 1, 2, 3, 4] rfl) (by omega) (by omega)
    · refine lv_iconst (v := I 1) hx hb dL_law_995 (by decide) ?_
      refine lv_goto (tgt := 1000) hx hb dL_law_996 (by decide) ?_
      obtain ⟨_, hc38⟩ := hJ10.1.cell hJ10.2.2.1 (by decide) (ci := 11) rfl
      refine th_calli (va_runV (As := [.int (I 1)]) (rest := []) ⟨hx, hb, hml, hown, hts⟩ (j_apply l G y s.heap.size σ4 E17 hJ10.1 m0 hJ10.2.2.1 1 (show rng 1 from ⟨by decide, by decide⟩) (by decide) (by decide) _ rfl _ rfl _ rfl _ rfl _ rfl _ rfl _ rfl _ rfl _ rfl _ rfl _ rfl _ rfl _ rfl hJ10.jw) (cwV 1 hts gv_X11_apply_144 rfl rfl rfl (by decide +kernel) ⟨Nat.le_of_ble_eq_true rfl, Nat.le_of_ble_eq_true rfl⟩) (th_PV hK hH rfl hc38) rfl rfl hl.1 rfl (lv_room (Nat.le_of_ble_eq_true rfl)) dL_law_1000 ⟨show _ + _ ≤ 601024 by omega, show _ + _ ≤ 7293034 by omega⟩) hS (fun z41 σ40 H locs rz41 hw39 hH hS => ?_)
      obtain ⟨hO43, hF44, hM45, hq47, hw39⟩ := hw39
      have hwhJ46 := hJ10.tapm
      have hJ46 := hJ10.ref hO43 hF44 hM45 hq47 (show gI σ40 m0 12 = (gI σ4 x0 1) by omega)
      have rx53 := fr.af hJ10.1 hF44 hJ10.2.1 (by decide) (by decide) k12_0 isA1
      have hchJ46 := fr.ki hJ10.1 hF44 hJ10.2.1 (by decide) (by decide) 1
      have hT54 := hT18.ref rx53 (hM45.a (by decide) (by decide)) hchJ46
      have x251 := fr.ki hJ10.1 hF44 hJ10.2.1 (by decide) (by decide) 2
      have xq52 := fr.aq hJ10.1 hF44 hJ10.2.1 (by decide) (by decide) k12_3
      have m850 : aF σ40 (ad E17 m0 8) = aF σ4 (ad E17 m0 8) := hM45.a (by decide) (by decide)
      have m149 := hM45.i (k := 21) (by decide)
      have hI48 := hI12.keep ext.rf hJ10.2.1 x251 xq52 m149 m850
      refine lv_pop hx hb dL_law_1003 rfl ?_
      refine lv_goto (tgt := 1173) hx hb dL_law_1004 (by decide) ?_
      exact kk _ _ _ _ _ _ _ _ hJ46 hI48 hT54 hH hS (lv_sub hl [0, 1, 2, 3, 4] rfl) (by omega) (by omega)
  · refine lv_iconst (v := I 1) hx hb dL_law_976 (by decide) ?_
    refine lv_goto (tgt := 981) hx hb dL_law_977 (by decide) ?_
    obtain ⟨_, hc55⟩ := hJ.1.cell hJ.2.1 (by decide) (ci := 10) rfl
    refine th_calli (va_runV (As := [.int (I 1)]) (rest := []) ⟨hx, hb, hml, hown, hts⟩ (q_apply l G y s.heap.size σ E hJ.1 x0 hJ.2.1 1 (show rng 1 from ⟨by decide, by decide⟩) (by decide) (by decide)) (cwV 1 hts gv_X10_apply_140 rfl rfl rfl (by decide +kernel) ⟨Nat.le_of_ble_eq_true rfl, Nat.le_of_ble_eq_true rfl⟩) (th_PV hK hH rfl hc55) rfl rfl hl.1 rfl (lv_room (Nat.le_of_ble_eq_true rfl)) dL_law_981 ⟨show _ + _ ≤ 601024 by omega, show _ + _ ≤ 7293034 by omega⟩) hS (fun z58 σ57 H locs rz58 hw56 hH hS => ?_)
    obtain ⟨E70, hX59, hO60, hF61, hw56⟩ := hw56
    have hJ63 := hJ.clr hX59 hO60 hF61 (by decide) rfl
    have hkhJ63 := fr.ki hJ.1 hF61 hJ.2.1 (by decide) (by decide) 1
    have x268 := fr.ki hJ.1 hF61 hJ.2.1 (by decide) (by decide) 2
    have xq69 := fr.aq hJ.1 hF61 hJ.2.1 (by decide) (by decide) k12_3
    have m166 := fr.ki hJ.1 hF61 hJ.2.2.1 (by decide) (by decide) 21
    have m867 := hJ.row8 hX59 (fun x _ h0 hs => hF61 x h0 hs) (by decide)
    have hthJ63 := hJ63.tapm
    have huhJ63 := hJ.tapx
    have hvhJ63 := hJ.tapm
    have rm72 := hJ.row6 hX59 (fun x _ h0 hs => hF61 x h0 hs) (by decide)
    have hT71 := hT.cls (Or.inr ⟨by rw [hX59.ad2 hJ.2.1 (by decide) 0]; exact fr.af hJ.1 hF61 hJ.2.1 (by decide) (by decide) k12_0 isA1, by omega⟩) rm72
    have hI65 := hI.keep hX59 hJ.2.1 x268 (by rw [hX59.ad2 hJ.2.1 (by decide) 3]; exact xq69) m166 m867
    refine lv_pop hx hb dL_law_984 rfl ?_
    refine lv_aload_n hx hb dL_law_985 rfl (lv_at hl 2 rfl) ?_
    refine lv_aload_n hx hb dL_law_986 rfl (lv_at hl 4 rfl) ?_
    refine lv_iload hx hb dL_law_987 (lv_at hl 0 rfl) ?_
    refine lv_iconst (v := I 1) hx hb dL_law_989 (by decide) ?_
    refine lv_iadd hx hb dL_law_990 ?_
    refine nq_top (I_add _ _) ?_
    refine va_sld hx hb hX hbl hbA hS (i := I (i + 1)) (I_in ⟨by omega, by omega⟩ (by omega) (by omega)) dL_law_991 ?_
    refine nq_top ea1 ?_
    refine lv_if_eq (tgt := 999) hx hb dL_law_992 (by decide) (fun c73 => ?_) (fun c73 => ?_)
    · refine lv_iconst (v := I 0) hx hb dL_law_999 (by decide) ?_
      obtain ⟨_, hc74⟩ := hJ63.1.cell hJ63.2.2.1 (by decide) (ci := 11) rfl
      refine th_calli (va_runV (As := [.int (I 0)]) (rest := []) ⟨hx, hb, hml, hown, hts⟩ (j_apply l G y s.heap.size σ57 E70 hJ63.1 m0 hJ63.2.2.1 0 (show rng 0 from ⟨by decide, by decide⟩) (by decide) (by decide) _ rfl _ rfl _ rfl _ rfl _ rfl _ rfl _ rfl _ rfl _ rfl _ rfl _ rfl _ rfl _ rfl hJ63.jw) (cwV 1 hts gv_X11_apply_144 rfl rfl rfl (by decide +kernel) ⟨Nat.le_of_ble_eq_true rfl, Nat.le_of_ble_eq_true rfl⟩) (th_PV hK hH rfl hc74) rfl rfl hl.1 rfl (lv_room (Nat.le_of_ble_eq_true rfl)) dL_law_1000 ⟨show _ + _ ≤ 601024 by omega, show _ + _ ≤ 7293034 by omega⟩) hS (fun z77 σ76 H locs rz77 hw75 hH hS => ?_)
      obtain ⟨hO79, hF80, hM81, hq83, hw75⟩ := hw75
      have hwhJ82 := hJ63.tapm
      have hJ82 := hJ63.ref hO79 hF80 hM81 hq83 (show gI σ76 m0 12 = (gI σ57 x0 1) by omega)
      have rx89 := fr.af hJ63.1 hF80 hJ63.2.1 (by decide) (by decide) k12_0 isA1
      have hchJ82 := fr.ki hJ63.1 hF80 hJ63.2.1 (by decide) (by decide) 1
      have hT90 := hT71.ref rx89 (hM81.a (by decide) (by decide)) hchJ82
      have x287 := fr.ki hJ63.1 hF80 hJ63.2.1 (by decide) (by decide) 2
      have xq88 := fr.aq hJ63.1 hF80 hJ63.2.1 (by decide) (by decide) k12_3
      have m886 : aF σ76 (ad E70 m0 8) = aF σ57 (ad E70 m0 8) := hM81.a (by decide) (by decide)
      have m185 := hM81.i (k := 21) (by decide)
      have hI84 := hI65.keep ext.rf hJ63.2.1 x287 xq88 m185 m886
      refine lv_pop hx hb dL_law_1003 rfl ?_
      refine lv_goto (tgt := 1173) hx hb dL_law_1004 (by decide) ?_
      exact kk _ _ _ _ _ _ _ _ hJ82 hI84 hT90 hH hS (lv_sub hl [0, 1, 2, 3, 4] rfl) (by omega) (by omega)
    · refine lv_iconst (v := I 1) hx hb dL_law_995 (by decide) ?_
      refine lv_goto (tgt := 1000) hx hb dL_law_996 (by decide) ?_
      obtain ⟨_, hc91⟩ := hJ63.1.cell hJ63.2.2.1 (by decide) (ci := 11) rfl
      refine th_calli (va_runV (As := [.int (I 1)]) (rest := []) ⟨hx, hb, hml, hown, hts⟩ (j_apply l G y s.heap.size σ57 E70 hJ63.1 m0 hJ63.2.2.1 1 (show rng 1 from ⟨by decide, by decide⟩) (by decide) (by decide) _ rfl _ rfl _ rfl _ rfl _ rfl _ rfl _ rfl _ rfl _ rfl _ rfl _ rfl _ rfl _ rfl hJ63.jw) (cwV 1 hts gv_X11_apply_144 rfl rfl rfl (by decide +kernel) ⟨Nat.le_of_ble_eq_true rfl, Nat.le_of_ble_eq_true rfl⟩) (th_PV hK hH rfl hc91) rfl rfl hl.1 rfl (lv_room (Nat.le_of_ble_eq_true rfl)) dL_law_1000 ⟨show _ + _ ≤ 601024 by omega, show _ + _ ≤ 7293034 by omega⟩) hS (fun z94 σ93 H locs rz94 hw92 hH hS => ?_)
      obtain ⟨hO96, hF97, hM98, hq100, hw92⟩ := hw92
      have hwhJ99 := hJ63.tapm
      have hJ99 := hJ63.ref hO96 hF97 hM98 hq100 (show gI σ93 m0 12 = (gI σ57 x0 1) by omega)
      have rx106 := fr.af hJ63.1 hF97 hJ63.2.1 (by decide) (by decide) k12_0 isA1
      have hchJ99 := fr.ki hJ63.1 hF97 hJ63.2.1 (by decide) (by decide) 1
      have hT107 := hT71.ref rx106 (hM98.a (by decide) (by decide)) hchJ99
      have x2104 := fr.ki hJ63.1 hF97 hJ63.2.1 (by decide) (by decide) 2
      have xq105 := fr.aq hJ63.1 hF97 hJ63.2.1 (by decide) (by decide) k12_3
      have m8103 : aF σ93 (ad E70 m0 8) = aF σ57 (ad E70 m0 8) := hM98.a (by decide) (by decide)
      have m1102 := hM98.i (k := 21) (by decide)
      have hI101 := hI65.keep ext.rf hJ63.2.1 x2104 xq105 m1102 m8103
      refine lv_pop hx hb dL_law_1003 rfl ?_
      refine lv_goto (tgt := 1173) hx hb dL_law_1004 (by decide) ?_
      exact kk _ _ _ _ _ _ _ _ hJ99 hI101 hT107 hH hS (lv_sub hl [0, 1, 2, 3, 4] rfl) (by omega) (by omega)
