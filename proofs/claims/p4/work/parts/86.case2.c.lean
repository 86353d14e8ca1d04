set_option maxHeartbeats 400000 in
set_option maxRecDepth 100000 in
theorem lc_14 {p : Program} {e : Env} {s : State} {m : MethodId} {below : List Frame} {meth : Method} {c : Code} {l : Launch} {b L : Nat} {xs : Nat → Int32} {G : va_G} {y : Nat → ClassId} (hl0 : l.stackTraces = false) (C0 : lw_At p s m meth c b L xs) (hK : nq_K G y s) (hXs : nq_X (th_A s.heap.size) s) {E : th_E} {σ : th_M} {x0 m0 ou : Nat} {t i : Int} (hL : L ≤ 3072) (hi0 : 0 ≤ i) (hi1 : i + 6 ≤ L) (hJ : LJ y E σ x0 m0 ou t t) {h : Int} (hI : gI σ x0 11 = h ∧ gI σ m0 58 = h) (hT : tp E σ x0 m0) {H : Heap} {locs : List Loc} {ls : Array Slot} {cells slots : Nat} (hH : th_H G s.heap.size σ H) (hS : va_S (th_A s.heap.size) s.heap H locs) (hl : lv_has ls 7 [(4, .int (I i)), (3, .ref ou), (2, .ref m0), (1, .ref x0), (0, .ref b)]) (hc0 : cells + 200 ≤ 601024) (hs0 : slots + 9800 ≤ 7293034) {Q : State → Prop} (kk : ∀ (E1 : th_E) (σ1 : th_M) (t1 : Int) (H1 : Heap) (locs1 : List Loc) (ls1 : Array Slot) (k1 n1 : Nat) (h1 : Int), LJ y E1 σ1 x0 m0 ou t1 t1 → (gI σ1 x0 11 = h1 ∧ gI σ1 m0 58 = h1) → tp E1 σ1 x0 m0 → th_H G s.heap.size σ1 H1 → va_S (th_A s.heap.size) s.heap H1 locs1 → lv_has ls1 7 [(4, .int (I i)), (3, .ref ou), (2, .ref m0), (1, .ref x0), (0, .ref b)] → k1 ≤ cells + 200 → n1 ≤ slots + 9800 → W p l e room_1 s m #[Value.ref b] below meth c H1 locs1 k1 n1 Q (F0 m 1201 ls1 [])) : W p l e room_1 s m #[Value.ref b] below meth c H locs cells slots Q (F0 m 766 ls []) := by
  obtain ⟨hx, hb, hr, hml, hown, hts, hX, hbl, hlocks, hgv⟩ := C0
  have hbA : ¬ th_A s.heap.size b := Nat.not_le.mpr hbl
  obtain ⟨a1, ra1, ea1⟩ : ∃ z : Int, rng z ∧ xs (I (i + 1)).toNatClampNeg = I z := ⟨_, rng_toInt _, (I_of _).symm⟩
  obtain ⟨a2, ra2, ea2⟩ : ∃ z : Int, rng z ∧ xs (I (i + 2)).toNatClampNeg = I z := ⟨_, rng_toInt _, (I_of _).symm⟩
  refine lv_aload_n hx hb dL_law_766 rfl (lv_at hl 3 rfl) ?_
  refine lv_aload_n hx hb dL_law_767 rfl (lv_at hl 4 rfl) ?_
  refine lv_iload hx hb dL_law_768 (lv_at hl 0 rfl) ?_
  refine lv_iconst (v := I 1) hx hb dL_law_770 (by decide) ?_
  refine lv_iadd hx hb dL_law_771 ?_
  refine nq_top (I_add _ _) ?_
  refine va_sld hx hb hX hbl hbA hS (i := I (i + 1)) (I_in ⟨by omega, by omega⟩ (by omega) (by omega)) dL_law_772 ?_
  refine nq_top ea1 ?_
  refine lv_aload_n hx hb dL_law_773 rfl (lv_at hl 4 rfl) ?_
  refine lv_iload hx hb dL_law_774 (lv_at hl 0 rfl) ?_
  refine lv_iconst (v := I 2) hx hb dL_law_776 (by decide) ?_
  refine lv_iadd hx hb dL_law_777 ?_
  refine nq_top (I_add _ _) ?_
  refine va_sld hx hb hX hbl hbA hS (i := I (i + 2)) (I_in ⟨by omega, by omega⟩ (by omega) (by omega)) dL_law_778 ?_
  refine nq_top ea2 ?_
  refine lv_aload_n hx hb dL_law_779 rfl (lv_at hl 1 rfl) ?_
  obtain ⟨fo1, hf2⟩ := hJ.2.2.2.2.1
  refine th_calli (vx_runSW (hh := [(0, 10, 13, 13)]) (As := [.ref x0, .int (I a1), .int (I a2), .ref ou]) (rest := []) ⟨hx, hb, hml, hown, hts⟩ (w_append l hl0 G y s.heap.size σ E hJ.1 x0 hJ.2.1 m0 hJ.2.2.1 ou hJ.2.2.2.1 fo1 hf2 a1 ra1 a2 ra2) (vx_cwSW 4 hts gv_L_append_120 rfl rfl rfl (by decide +kernel) ⟨Nat.le_of_ble_eq_true rfl, Nat.le_of_ble_eq_true rfl⟩) (th_PXS hK hXs hS hH) rfl rfl hl.1 rfl (lv_room (Nat.le_of_ble_eq_true rfl)) dL_law_780 ⟨show _ + _ ≤ 601024 by omega, show _ + _ ≤ 7293034 by omega⟩) hS (fun z3 σ5 H locs rz3 hw4 hH hS => ?_)
  obtain ⟨E6, hX7, hO8, hF9, hf10, hw4⟩ := hw4
  have hJ11 := hJ.cls hX7 hO8 hF9 (by decide) hf10 rfl
  have hthJ11 := hJ11.tapm
  have huhJ11 := hJ.tapx
  have hvhJ11 := hJ.tapm
  have hmhJ11 := fx.m0 hJ hF9 (by decide) 58
  have rm12 := hJ.row6 hX7 hF9 (by decide)
  have hT13 := hT.cls hw4.2 rm12
  replace hw4 := hw4.1
  refine lv_istore (lv' := [(5, .int (I z3)), (4, .int (I i)), (3, .ref ou), (2, .ref m0), (1, .ref x0), (0, .ref b)]) hx hb dL_law_783 hl (by decide) rfl (fun ls hl => ?_)
  refine lv_aload_n hx hb dL_law_785 rfl (lv_at hl 3 rfl) ?_
  refine lv_aload_n hx hb dL_law_786 rfl (lv_at hl 5 rfl) ?_
  refine lv_iload hx hb dL_law_787 (lv_at hl 1 rfl) ?_
  refine lv_iconst (v := I 1) hx hb dL_law_789 (by decide) ?_
  refine lv_iadd hx hb dL_law_790 ?_
  refine nq_top (I_add _ _) ?_
  refine va_sld hx hb hX hbl hbA hS (i := I (i + 1)) (I_in ⟨by omega, by omega⟩ (by omega) (by omega)) dL_law_791 ?_
  refine nq_top ea1 ?_
  refine lv_aload_n hx hb dL_law_792 rfl (lv_at hl 5 rfl) ?_
  refine lv_iload hx hb dL_law_793 (lv_at hl 1 rfl) ?_
  refine lv_iconst (v := I 2) hx hb dL_law_795 (by decide) ?_
  refine lv_iadd hx hb dL_law_796 ?_
  refine nq_top (I_add _ _) ?_
  refine va_sld hx hb hX hbl hbA hS (i := I (i + 2)) (I_in ⟨by omega, by omega⟩ (by omega) (by omega)) dL_law_797 ?_
  refine nq_top ea2 ?_
  obtain ⟨_, hc14⟩ := hJ11.1.cell hJ11.2.2.1 (by decide) (ci := 11) rfl
  refine th_calli (va_runV (As := [.int (I a1), .int (I a2)]) (rest := []) ⟨hx, hb, hml, hown, hts⟩ (j_append l G y s.heap.size σ5 E6 hJ11.1 m0 hJ11.2.2.1 a1 ra1 a2 ra2 _ rfl _ rfl _ rfl _ rfl _ rfl _ rfl _ rfl _ rfl _ rfl _ rfl _ rfl _ rfl _ rfl _ rfl _ rfl hJ11.jw) (cwV 2 hts gv_X11_append_122 rfl rfl rfl (by decide +kernel) ⟨Nat.le_of_ble_eq_true rfl, Nat.le_of_ble_eq_true rfl⟩) (th_PV hK hH rfl hc14) rfl rfl hl.1 rfl (lv_room (Nat.le_of_ble_eq_true rfl)) dL_law_798 ⟨show _ + _ ≤ 601024 by omega, show _ + _ ≤ 7293034 by omega⟩) hS (fun z17 σ16 H locs rz17 hw15 hH hS => ?_)
  obtain ⟨hO19, hF20, hM21, hq23, hw15⟩ := hw15
  have hJ22 := hJ11.ref hO19 hF20 hM21 hq23 (show gI σ16 m0 12 = (gI σ5 x0 1) by omega)
  have rx24 := fr.af hJ11.1 hF20 hJ11.2.1 (by decide) (by decide) k12_0 isA1
  have hchJ22 := fr.ki hJ11.1 hF20 hJ11.2.1 (by decide) (by decide) 1
  have hT25 := hT13.ref rx24 (hM21.a (by decide) (by decide)) hchJ22
  have hihJ22 := fr.ki hJ11.1 hF20 hJ11.2.1 (by decide) (by decide) 11
  have hmhJ22 := hM21.i (k := 58) (by decide)
  refine lv_istore (lv' := [(6, .int (I z17)), (5, .int (I z3)), (4, .int (I i)), (3, .ref ou), (2, .ref m0), (1, .ref x0), (0, .ref b)]) hx hb dL_law_801 hl (by decide) rfl (fun ls hl => ?_)
  refine lv_goto (tgt := 1201) hx hb dL_law_803 (by decide) ?_
  exact kk _ _ _ _ _ _ _ _ (gI σ16 x0 11) hJ22 ⟨rfl, by omega⟩ hT25 hH hS (lv_sub hl [2, 3, 4, 5, 6] rfl) (by omega) (by omega)

set_option maxHeartbeats 400000 in
set_option maxRecDepth 100000 in
theorem lc_15 {p : Program} {e : Env} {s : State} {m : MethodId} {below : List Frame} {meth : Method} {c : Code} {l : Launch} {b L : Nat} {xs : Nat → Int32} {G : va_G} {y : Nat → ClassId} (hl0 : l.stackTraces = false) (C0 : lw_At p s m meth c b L xs) (hK : nq_K G y s) (hXs : nq_X (th_A s.heap.size) s) {E : th_E} {σ : th_M} {x0 m0 ou : Nat} {t i : Int} (hL : L ≤ 3072) (hi0 : 0 ≤ i) (hi1 : i + 6 ≤ L) (hJ : LJ y E σ x0 m0 ou t t) {h : Int} (hI : gI σ x0 11 = h ∧ gI σ m0 58 = h) (hT : tp E σ x0 m0) {H : Heap} {locs : List Loc} {ls : Array Slot} {cells slots : Nat} (hH : th_H G s.heap.size σ H) (hS : va_S (th_A s.heap.size) s.heap H locs) (hl : lv_has ls 7 [(4, .int (I i)), (3, .ref ou), (2, .ref m0), (1, .ref x0), (0, .ref b)]) (hc0 : cells + 200 ≤ 601024) (hs0 : slots + 9800 ≤ 7293034) {Q : State → Prop} (kk : ∀ (E1 : th_E) (σ1 : th_M) (t1 : Int) (H1 : Heap) (locs1 : List Loc) (ls1 : Array Slot) (k1 n1 : Nat) (h1 : Int), LJ y E1 σ1 x0 m0 ou t1 t1 → (gI σ1 x0 11 = h1 ∧ gI σ1 m0 58 = h1) → tp E1 σ1 x0 m0 → th_H G s.heap.size σ1 H1 → va_S (th_A s.heap.size) s.heap H1 locs1 → lv_has ls1 7 [(4, .int (I i)), (3, .ref ou), (2, .ref m0), (1, .ref x0), (0, .ref b)] → k1 ≤ cells + 200 → n1 ≤ slots + 9800 → W p l e room_1 s m #[Value.ref b] below meth c H1 locs1 k1 n1 Q (F0 m 1201 ls1 [])) : W p l e room_1 s m #[Value.ref b] below meth c H locs cells slots Q (F0 m 806 ls []) := by
  obtain ⟨hx, hb, hr, hml, hown, hts, hX, hbl, hlocks, hgv⟩ := C0
  have hbA : ¬ th_A s.heap.size b := Nat.not_le.mpr hbl
  obtain ⟨a1, ra1, ea1⟩ : ∃ z : Int, rng z ∧ xs (I (i + 1)).toNatClampNeg = I z := ⟨_, rng_toInt _, (I_of _).symm⟩
  obtain ⟨a2, ra2, ea2⟩ : ∃ z : Int, rng z ∧ xs (I (i + 2)).toNatClampNeg = I z := ⟨_, rng_toInt _, (I_of _).symm⟩
  obtain ⟨a3, ra3, ea3⟩ : ∃ z : Int, rng z ∧ xs (I (i + 3)).toNatClampNeg = I z := ⟨_, rng_toInt _, (I_of _).symm⟩
  refine lv_aload_n hx hb dL_law_806 rfl (lv_at hl 3 rfl) ?_
  refine lv_aload_n hx hb dL_law_807 rfl (lv_at hl 4 rfl) ?_
  refine lv_iload hx hb dL_law_808 (lv_at hl 0 rfl) ?_
  refine lv_iconst (v := I 1) hx hb dL_law_810 (by decide) ?_
  refine lv_iadd hx hb dL_law_811 ?_
  refine nq_top (I_add _ _) ?_
  refine va_sld hx hb hX hbl hbA hS (i := I (i + 1)) (I_in ⟨by omega, by omega⟩ (by omega) (by omega)) dL_law_812 ?_
  refine nq_top ea1 ?_
  refine lv_aload_n hx hb dL_law_813 rfl (lv_at hl 4 rfl) ?_
  refine lv_iload hx hb dL_law_814 (lv_at hl 0 rfl) ?_
  refine lv_iconst (v := I 2) hx hb dL_law_816 (by decide) ?_
  refine lv_iadd hx hb dL_law_817 ?_
  refine nq_top (I_add _ _) ?_
  refine va_sld hx hb hX hbl hbA hS (i := I (i + 2)) (I_in ⟨by omega, by omega⟩ (by omega) (by omega)) dL_law_818 ?_
  refine nq_top ea2 ?_
  refine lv_aload_n hx hb dL_law_819 rfl (lv_at hl 4 rfl) ?_
  refine lv_iload hx hb dL_law_820 (lv_at hl 0 rfl) ?_
  refine lv_iconst (v := I 3) hx hb dL_law_822 (by decide) ?_
  refine lv_iadd hx hb dL_law_823 ?_
  refine nq_top (I_add _ _) ?_
  refine va_sld hx hb hX hbl hbA hS (i := I (i + 3)) (I_in ⟨by omega, by omega⟩ (by omega) (by omega)) dL_law_824 ?_
  refine nq_top ea3 ?_
  refine lv_aload_n hx hb dL_law_825 rfl (lv_at hl 1 rfl) ?_
  obtain ⟨fo1, hf2⟩ := hJ.2.2.2.2.1
  refine th_calli (vx_runSW (hh := [(0, 12, 15, 13)]) (As := [.ref x0, .int (I a1), .int (I a2), .int (I a3), .ref ou]) (rest := []) ⟨hx, hb, hml, hown, hts⟩ (w_key l hl0 G y s.heap.size σ E hJ.1 x0 hJ.2.1 m0 hJ.2.2.1 ou hJ.2.2.2.1 fo1 hf2 a1 ra1 a2 ra2 a3 ra3) (vx_cwSW 5 hts gv_L_key_123 rfl rfl rfl (by decide +kernel) ⟨Nat.le_of_ble_eq_true rfl, Nat.le_of_ble_eq_true rfl⟩) (th_PXS hK hXs hS hH) rfl rfl hl.1 rfl (lv_room (Nat.le_of_ble_eq_true rfl)) dL_law_826 ⟨show _ + _ ≤ 601024 by omega, show _ + _ ≤ 7293034 by omega⟩) hS (fun z3 σ5 H locs rz3 hw4 hH hS => ?_)
  obtain ⟨E6, hX7, hO8, hF9, hf10, hw4⟩ := hw4
  have hJ11 := hJ.cls hX7 hO8 hF9 (by decide) hf10 rfl
  have hthJ11 := hJ11.tapm
  have huhJ11 := hJ.tapx
  have hvhJ11 := hJ.tapm
  have hmhJ11 := fx.m0 hJ hF9 (by decide) 58
  have rm12 := hJ.row6 hX7 hF9 (by decide)
  have hT13 := hT.cls hw4.2 rm12
  replace hw4 := hw4.1
  refine lv_istore (lv' := [(5, .int (I z3)), (4, .int (I i)), (3, .ref ou), (2, .ref m0), (1, .ref x0), (0, .ref b)]) hx hb dL_law_829 hl (by decide) rfl (fun ls hl => ?_)
  refine lv_aload_n hx hb dL_law_831 rfl (lv_at hl 3 rfl) ?_
  refine lv_aload_n hx hb dL_law_832 rfl (lv_at hl 5 rfl) ?_
  refine lv_iload hx hb dL_law_833 (lv_at hl 1 rfl) ?_
  refine lv_iconst (v := I 1) hx hb dL_law_835 (by decide) ?_
  refine lv_iadd hx hb dL_law_836 ?_
  refine nq_top (I_add _ _) ?_
  refine va_sld hx hb hX hbl hbA hS (i := I (i + 1)) (I_in ⟨by omega, by omega⟩ (by omega) (by omega)) dL_law_837 ?_
  refine nq_top ea1 ?_
  refine lv_aload_n hx hb dL_law_838 rfl (lv_at hl 5 rfl) ?_
  refine lv_iload hx hb dL_law_839 (lv_at hl 1 rfl) ?_
  refine lv_iconst (v := I 2) hx hb dL_law_841 (by decide) ?_
  refine lv_iadd hx hb dL_law_842 ?_
  refine nq_top (I_add _ _) ?_
  refine va_sld hx hb hX hbl hbA hS (i := I (i + 2)) (I_in ⟨by omega, by omega⟩ (by omega) (by omega)) dL_law_843 ?_
  refine nq_top ea2 ?_
  refine lv_aload_n hx hb dL_law_844 rfl (lv_at hl 5 rfl) ?_
  refine lv_iload hx hb dL_law_845 (lv_at hl 1 rfl) ?_
  refine lv_iconst (v := I 3) hx hb dL_law_847 (by decide) ?_
  refine lv_iadd hx hb dL_law_848 ?_
  refine nq_top (I_add _ _) ?_
  refine va_sld hx hb hX hbl hbA hS (i := I (i + 3)) (I_in ⟨by omega, by omega⟩ (by omega) (by omega)) dL_law_849 ?_
  refine nq_top ea3 ?_
  obtain ⟨_, hc14⟩ := hJ11.1.cell hJ11.2.2.1 (by decide) (ci := 11) rfl
  refine th_calli (va_runV (As := [.int (I a1), .int (I a2), .int (I a3)]) (rest := []) ⟨hx, hb, hml, hown, hts⟩ (j_key l G y s.heap.size σ5 E6 hJ11.1 m0 hJ11.2.2.1 a1 ra1 a2 ra2 a3 ra3 _ rfl _ rfl _ rfl _ rfl _ rfl _ rfl _ rfl _ rfl _ rfl _ rfl _ rfl _ rfl _ rfl _ rfl _ rfl hJ11.jw) (cwV 3 hts gv_X11_key_126 rfl rfl rfl (by decide +kernel) ⟨Nat.le_of_ble_eq_true rfl, Nat.le_of_ble_eq_true rfl⟩) (th_PV hK hH rfl hc14) rfl rfl hl.1 rfl (lv_room (Nat.le_of_ble_eq_true rfl)) dL_law_850 ⟨show _ + _ ≤ 601024 by omega, show _ + _ ≤ 7293034 by omega⟩) hS (fun z17 σ16 H locs rz17 hw15 hH hS => ?_)
  obtain ⟨hO19, hF20, hM21, hq23, hw15⟩ := hw15
  have hJ22 := hJ11.ref hO19 hF20 hM21 hq23 (show gI σ16 m0 12 = (gI σ5 x0 1) by omega)
  have rx24 := fr.af hJ11.1 hF20 hJ11.2.1 (by decide) (by decide) k12_0 isA1
  have hchJ22 := fr.ki hJ11.1 hF20 hJ11.2.1 (by decide) (by decide) 1
  have hT25 := hT13.ref rx24 (hM21.a (by decide) (by decide)) hchJ22
  have hihJ22 := fr.ki hJ11.1 hF20 hJ11.2.1 (by decide) (by decide) 11
  have hmhJ22 := hM21.i (k := 58) (by decide)
  refine lv_istore (lv' := [(6, .int (I z17)), (5, .int (I z3)), (4, .int (I i)), (3, .ref ou), (2, .ref m0), (1, .ref x0), (0, .ref b)]) hx hb dL_law_853 hl (by decide) rfl (fun ls hl => ?_)
  refine lv_goto (tgt := 1201) hx hb dL_law_855 (by decide) ?_
  exact kk _ _ _ _ _ _ _ _ (gI σ16 x0 11) hJ22 ⟨rfl, by omega⟩ hT25 hH hS (lv_sub hl [2, 3, 4, 5, 6] rfl) (by omega) (by omega)

set_option maxHeartbeats 400000 in
set_option maxRecDepth 100000 in
theorem lc_16 {p : Program} {e : Env} {s : State} {m : MethodId} {below : List Frame} {meth : Method} {c : Code} {l : Launch} {b L : Nat} {xs : Nat → Int32} {G : va_G} {y : Nat → ClassId} (hl0 : l.stackTraces = false) (C0 : lw_At p s m meth c b L xs) (hK : nq_K G y s) (hXs : nq_X (th_A s.heap.size) s) {E : th_E} {σ : th_M} {x0 m0 ou : Nat} {t i : Int} (hL : L ≤ 3072) (hi0 : 0 ≤ i) (hi1 : i + 6 ≤ L) (hJ : LJ y E σ x0 m0 ou t t) {h : Int} (hI : gI σ x0 11 = h ∧ gI σ m0 58 = h) (hT : tp E σ x0 m0) {H : Heap} {locs : List Loc} {ls : Array Slot} {cells slots : Nat} (hH : th_H G s.heap.size σ H) (hS : va_S (th_A s.heap.size) s.heap H locs) (hl : lv_has ls 7 [(4, .int (I i)), (3, .ref ou), (2, .ref m0), (1, .ref x0), (0, .ref b)]) (hc0 : cells + 200 ≤ 601024) (hs0 : slots + 9800 ≤ 7293034) {Q : State → Prop} (kk : ∀ (E1 : th_E) (σ1 : th_M) (t1 : Int) (H1 : Heap) (locs1 : List Loc) (ls1 : Array Slot) (k1 n1 : Nat) (h1 : Int), LJ y E1 σ1 x0 m0 ou t1 t1 → (gI σ1 x0 11 = h1 ∧ gI σ1 m0 58 = h1) → tp E1 σ1 x0 m0 → th_H G s.heap.size σ1 H1 → va_S (th_A s.heap.size) s.heap H1 locs1 → lv_has ls1 7 [(4, .int (I i)), (3, .ref ou), (2, .ref m0), (1, .ref x0), (0, .ref b)] → k1 ≤ cells + 200 → n1 ≤ slots + 9800 → W p l e room_1 s m #[Value.ref b] below meth c H1 locs1 k1 n1 Q (F0 m 1201 ls1 [])) : W p l e room_1 s m #[Value.ref b] below meth c H locs cells slots Q (F0 m 858 ls []) := by
  obtain ⟨hx, hb, hr, hml, hown, hts, hX, hbl, hlocks, hgv⟩ := C0
  have hbA : ¬ th_A s.heap.size b := Nat.not_le.mpr hbl
  obtain ⟨a1, ra1, ea1⟩ : ∃ z : Int, rng z ∧ xs (I (i + 1)).toNatClampNeg = I z := ⟨_, rng_toInt _, (I_of _).symm⟩
  obtain ⟨a2, ra2, ea2⟩ : ∃ z : Int, rng z ∧ xs (I (i + 2)).toNatClampNeg = I z := ⟨_, rng_toInt _, (I_of _).symm⟩
  refine lv_aload_n hx hb dL_law_858 rfl (lv_at hl 3 rfl) ?_
  refine lv_aload_n hx hb dL_law_859 rfl (lv_at hl 4 rfl) ?_
  refine lv_iload hx hb dL_law_860 (lv_at hl 0 rfl) ?_
  refine lv_iconst (v := I 1) hx hb dL_law_862 (by decide) ?_
  refine lv_iadd hx hb dL_law_863 ?_
  refine nq_top (I_add _ _) ?_
  refine va_sld hx hb hX hbl hbA hS (i := I (i + 1)) (I_in ⟨by omega, by omega⟩ (by omega) (by omega)) dL_law_864 ?_
  refine nq_top ea1 ?_
  refine lv_aload_n hx hb dL_law_865 rfl (lv_at hl 4 rfl) ?_
  refine lv_iload hx hb dL_law_866 (lv_at hl 0 rfl) ?_
  refine lv_iconst (v := I 2) hx hb dL_law_868 (by decide) ?_
  refine lv_iadd hx hb dL_law_869 ?_
  refine nq_top (I_add _ _) ?_
  refine va_sld hx hb hX hbl hbA hS (i := I (i + 2)) (I_in ⟨by omega, by omega⟩ (by omega) (by omega)) dL_law_870 ?_
  refine nq_top ea2 ?_
  obtain ⟨_, hc1⟩ := hJ.1.cell hJ.2.1 (by decide) (ci := 10) rfl
  refine th_calli (va_runV (As := [.int (I a1), .int (I a2)]) (rest := []) ⟨hx, hb, hml, hown, hts⟩ (q_add l G y s.heap.size σ E hJ.1 x0 hJ.2.1 a1 ra1 a2 ra2) (cwV 2 hts gv_X10_add_127 rfl rfl rfl (by decide +kernel) ⟨Nat.le_of_ble_eq_true rfl, Nat.le_of_ble_eq_true rfl⟩) (th_PV hK hH rfl hc1) rfl rfl hl.1 rfl (lv_room (Nat.le_of_ble_eq_true rfl)) dL_law_871 ⟨show _ + _ ≤ 601024 by omega, show _ + _ ≤ 7293034 by omega⟩) hS (fun z4 σ3 H locs rz4 hw2 hH hS => ?_)
  obtain ⟨E11, hX5, hO6, hF7, hw2⟩ := hw2
  have hJ9 := hJ.clr hX5 hO6 hF7 (by decide) rfl
  have hkhJ9 := fr.ki hJ.1 hF7 hJ.2.1 (by decide) (by decide) 1
  have hmhJ9 := fr.ki hJ.1 hF7 hJ.2.2.1 (by decide) (by decide) 58
  have hihJ9 := fr.ki hJ.1 hF7 hJ.2.1 (by decide) (by decide) 11
  have hthJ9 := hJ9.tapm
  have huhJ9 := hJ.tapx
  have hvhJ9 := hJ.tapm
  have rm13 := hJ.row6 hX5 (fun x _ h0 hs => hF7 x h0 hs) (by decide)
  have hT12 := hT.cls (Or.inr ⟨by rw [hX5.ad2 hJ.2.1 (by decide) 0]; exact fr.af hJ.1 hF7 hJ.2.1 (by decide) (by decide) k12_0 isA1, by omega⟩) rm13
  refine lv_pop hx hb dL_law_874 rfl ?_
  refine lv_aload_n hx hb dL_law_875 rfl (lv_at hl 2 rfl) ?_
  refine lv_aload_n hx hb dL_law_876 rfl (lv_at hl 4 rfl) ?_
  refine lv_iload hx hb dL_law_877 (lv_at hl 0 rfl) ?_
  refine lv_iconst (v := I 1) hx hb dL_law_879 (by decide) ?_
  refine lv_iadd hx hb dL_law_880 ?_
  refine nq_top (I_add _ _) ?_
  refine va_sld hx hb hX hbl hbA hS (i := I (i + 1)) (I_in ⟨by omega, by omega⟩ (by omega) (by omega)) dL_law_881 ?_
  refine nq_top ea1 ?_
  refine lv_aload_n hx hb dL_law_882 rfl (lv_at hl 4 rfl) ?_
  refine lv_iload hx hb dL_law_883 (lv_at hl 0 rfl) ?_
  refine lv_iconst (v := I 2) hx hb dL_law_885 (by decide) ?_
  refine lv_iadd hx hb dL_law_886 ?_
  refine nq_top (I_add _ _) ?_
  refine va_sld hx hb hX hbl hbA hS (i := I (i + 2)) (I_in ⟨by omega, by omega⟩ (by omega) (by omega)) dL_law_887 ?_
  refine nq_top ea2 ?_
  obtain ⟨_, hc14⟩ := hJ9.1.cell hJ9.2.2.1 (by decide) (ci := 11) rfl
  refine th_calli (va_runV (As := [.int (I a1), .int (I a2)]) (rest := []) ⟨hx, hb, hml, hown, hts⟩ (j_add l G y s.heap.size σ3 E11 hJ9.1 m0 hJ9.2.2.1 a1 ra1 a2 ra2 _ rfl _ rfl _ rfl _ rfl _ rfl _ rfl _ rfl _ rfl _ rfl _ rfl _ rfl _ rfl _ rfl _ rfl _ rfl hJ9.jw) (cwV 2 hts gv_X11_add_130 rfl rfl rfl (by decide +kernel) ⟨Nat.le_of_ble_eq_true rfl, Nat.le_of_ble_eq_true rfl⟩) (th_PV hK hH rfl hc14) rfl rfl hl.1 rfl (lv_room (Nat.le_of_ble_eq_true rfl)) dL_law_888 ⟨show _ + _ ≤ 601024 by omega, show _ + _ ≤ 7293034 by omega⟩) hS (fun z17 σ16 H locs rz17 hw15 hH hS => ?_)
  obtain ⟨hO19, hF20, hM21, hq23, hw15⟩ := hw15
  have hJ22 := hJ9.ref hO19 hF20 hM21 hq23 (show gI σ16 m0 12 = (gI σ3 x0 1) by omega)
  have rx24 := fr.af hJ9.1 hF20 hJ9.2.1 (by decide) (by decide) k12_0 isA1
  have hchJ22 := fr.ki hJ9.1 hF20 hJ9.2.1 (by decide) (by decide) 1
  have hT25 := hT12.ref rx24 (hM21.a (by decide) (by decide)) hchJ22
  have hihJ22 := fr.ki hJ9.1 hF20 hJ9.2.1 (by decide) (by decide) 11
  have hmhJ22 := hM21.i (k := 58) (by decide)
  refine lv_pop hx hb dL_law_891 rfl ?_
  refine lv_goto (tgt := 1201) hx hb dL_law_892 (by decide) ?_
  exact kk _ _ _ _ _ _ _ _ (gI σ16 x0 11) hJ22 ⟨rfl, by omega⟩ hT25 hH hS (lv_sub hl [0, 1, 2, 3, 4] rfl) (by omega) (by omega)

set_option maxHeartbeats 400000 in
set_option maxRecDepth 100000 in
theorem lc_17 {p : Program} {e : Env} {s : State} {m : MethodId} {below : List Frame} {meth : Method} {c : Code} {l : Launch} {b L : Nat} {xs : Nat → Int32} {G : va_G} {y : Nat → ClassId} (hl0 : l.stackTraces = false) (C0 : lw_At p s m meth c b L xs) (hK : nq_K G y s) (hXs : nq_X (th_A s.heap.size) s) {E : th_E} {σ : th_M} {x0 m0 ou : Nat} {t i : Int} (hL : L ≤ 3072) (hi0 : 0 ≤ i) (hi1 : i + 6 ≤ L) (hJ : LJ y E σ x0 m0 ou t t) {h : Int} (hI : gI σ x0 11 = h ∧ gI σ m0 58 = h) (hT : tp E σ x0 m0) {H : Heap} {locs : List Loc} {ls : Array Slot} {cells slots : Nat} (hH : th_H G s.heap.size σ H) (hS : va_S (th_A s.heap.size) s.heap H locs) (hl : lv_has ls 7 [(4, .int (I i)), (3, .ref ou), (2, .ref m0), (1, .ref x0), (0, .ref b)]) (hc0 : cells + 200 ≤ 601024) (hs0 : slots + 9800 ≤ 7293034) {Q : State → Prop} (kk : ∀ (E1 : th_E) (σ1 : th_M) (t1 : Int) (H1 : Heap) (locs1 : List Loc) (ls1 : Array Slot) (k1 n1 : Nat) (h1 : Int), LJ y E1 σ1 x0 m0 ou t1 t1 → (gI σ1 x0 11 = h1 ∧ gI σ1 m0 58 = h1) → tp E1 σ1 x0 m0 → th_H G s.heap.size σ1 H1 → va_S (th_A s.heap.size) s.heap H1 locs1 → lv_has ls1 7 [(4, .int (I i)), (3, .ref ou), (2, .ref m0), (1, .ref x0), (0, .ref b)] → k1 ≤ cells + 200 → n1 ≤ slots + 9800 → W p l e room_1 s m #[Value.ref b] below meth c H1 locs1 k1 n1 Q (F0 m 1201 ls1 [])) : W p l e room_1 s m #[Value.ref b] below meth c H locs cells slots Q (F0 m 895 ls []) := by
  obtain ⟨hx, hb, hr, hml, hown, hts, hX, hbl, hlocks, hgv⟩ := C0
  have hbA : ¬ th_A s.heap.size b := Nat.not_le.mpr hbl
  obtain ⟨a1, ra1, ea1⟩ : ∃ z : Int, rng z ∧ xs (I (i + 1)).toNatClampNeg = I z := ⟨_, rng_toInt _, (I_of _).symm⟩
  obtain ⟨a2, ra2, ea2⟩ : ∃ z : Int, rng z ∧ xs (I (i + 2)).toNatClampNeg = I z := ⟨_, rng_toInt _, (I_of _).symm⟩
  refine lv_aload_n hx hb dL_law_895 rfl (lv_at hl 3 rfl) ?_
  refine lv_aload_n hx hb dL_law_896 rfl (lv_at hl 4 rfl) ?_
  refine lv_iload hx hb dL_law_897 (lv_at hl 0 rfl) ?_
  refine lv_iconst (v := I 1) hx hb dL_law_899 (by decide) ?_
  refine lv_iadd hx hb dL_law_900 ?_
  refine nq_top (I_add _ _) ?_
  refine va_sld hx hb hX hbl hbA hS (i := I (i + 1)) (I_in ⟨by omega, by omega⟩ (by omega) (by omega)) dL_law_901 ?_
  refine nq_top ea1 ?_
  refine lv_aload_n hx hb dL_law_902 rfl (lv_at hl 4 rfl) ?_
  refine lv_iload hx hb dL_law_903 (lv_at hl 0 rfl) ?_
  refine lv_iconst (v := I 2) hx hb dL_law_905 (by decide) ?_
  refine lv_iadd hx hb dL_law_906 ?_
  refine nq_top (I_add _ _) ?_
  refine va_sld hx hb hX hbl hbA hS (i := I (i + 2)) (I_in ⟨by omega, by omega⟩ (by omega) (by omega)) dL_law_907 ?_
  refine nq_top ea2 ?_
  obtain ⟨_, hc1⟩ := hJ.1.cell hJ.2.1 (by decide) (ci := 10) rfl
  refine th_calli (va_runV (As := [.int (I a1), .int (I a2)]) (rest := []) ⟨hx, hb, hml, hown, hts⟩ (q_change l G y s.heap.size σ E hJ.1 x0 hJ.2.1 a1 ra1 a2 ra2) (cwV 2 hts gv_X10_change_131 rfl rfl rfl (by decide +kernel) ⟨Nat.le_of_ble_eq_true rfl, Nat.le_of_ble_eq_true rfl⟩) (th_PV hK hH rfl hc1) rfl rfl hl.1 rfl (lv_room (Nat.le_of_ble_eq_true rfl)) dL_law_908 ⟨show _ + _ ≤ 601024 by omega, show _ + _ ≤ 7293034 by omega⟩) hS (fun z4 σ3 H locs rz4 hw2 hH hS => ?_)
  obtain ⟨E11, hX5, hO6, hF7, hw2⟩ := hw2
  have hJ9 := hJ.clr hX5 hO6 hF7 (by decide) rfl
  have hkhJ9 := fr.ki hJ.1 hF7 hJ.2.1 (by decide) (by decide) 1
  have hmhJ9 := fr.ki hJ.1 hF7 hJ.2.2.1 (by decide) (by decide) 58
  have hihJ9 := fr.ki hJ.1 hF7 hJ.2.1 (by decide) (by decide) 11
  have hthJ9 := hJ9.tapm
  have huhJ9 := hJ.tapx
  have hvhJ9 := hJ.tapm
  have rm13 := hJ.row6 hX5 (fun x _ h0 hs => hF7 x h0 hs) (by decide)
  have hT12 := hT.cls (Or.inr ⟨by rw [hX5.ad2 hJ.2.1 (by decide) 0]; exact fr.af hJ.1 hF7 hJ.2.1 (by decide) (by decide) k12_0 isA1, by omega⟩) rm13
  refine lv_pop hx hb dL_law_911 rfl ?_
  refine lv_aload_n hx hb dL_law_912 rfl (lv_at hl 2 rfl) ?_
  refine lv_aload_n hx hb dL_law_913 rfl (lv_at hl 4 rfl) ?_
  refine lv_iload hx hb dL_law_914 (lv_at hl 0 rfl) ?_
  refine lv_iconst (v := I 1) hx hb dL_law_916 (by decide) ?_
  refine lv_iadd hx hb dL_law_917 ?_
  refine nq_top (I_add _ _) ?_
  refine va_sld hx hb hX hbl hbA hS (i := I (i + 1)) (I_in ⟨by omega, by omega⟩ (by omega) (by omega)) dL_law_918 ?_
  refine nq_top ea1 ?_
  refine lv_aload_n hx hb dL_law_919 rfl (lv_at hl 4 rfl) ?_
  refine lv_iload hx hb dL_law_920 (lv_at hl 0 rfl) ?_
  refine lv_iconst (v := I 2) hx hb dL_law_922 (by decide) ?_
  refine lv_iadd hx hb dL_law_923 ?_
  refine nq_top (I_add _ _) ?_
  refine va_sld hx hb hX hbl hbA hS (i := I (i + 2)) (I_in ⟨by omega, by omega⟩ (by omega) (by omega)) dL_law_924 ?_
  refine nq_top ea2 ?_
  obtain ⟨_, hc14⟩ := hJ9.1.cell hJ9.2.2.1 (by decide) (ci := 11) rfl
  refine th_calli (va_runV (As := [.int (I a1), .int (I a2)]) (rest := []) ⟨hx, hb, hml, hown, hts⟩ (j_change l G y s.heap.size σ3 E11 hJ9.1 m0 hJ9.2.2.1 a1 ra1 a2 ra2 _ rfl _ rfl _ rfl _ rfl _ rfl _ rfl _ rfl _ rfl _ rfl _ rfl _ rfl _ rfl _ rfl _ rfl _ rfl hJ9.jw) (cwV 2 hts gv_X11_change_134 rfl rfl rfl (by decide +kernel) ⟨Nat.le_of_ble_eq_true rfl, Nat.le_of_ble_eq_true rfl⟩) (th_PV hK hH rfl hc14) rfl rfl hl.1 rfl (lv_room (Nat.le_of_ble_eq_true rfl)) dL_law_925 ⟨show _ + _ ≤ 601024 by omega, show _ + _ ≤ 7293034 by omega⟩) hS (fun z17 σ16 H locs rz17 hw15 hH hS => ?_)
  obtain ⟨hO19, hF20, hM21, hq23, hw15⟩ := hw15
  have hJ22 := hJ9.ref hO19 hF20 hM21 hq23 (show gI σ16 m0 12 = (gI σ3 x0 1) by omega)
  have rx24 := fr.af hJ9.1 hF20 hJ9.2.1 (by decide) (by decide) k12_0 isA1
  have hchJ22 := fr.ki hJ9.1 hF20 hJ9.2.1 (by decide) (by decide) 1
  have hT25 := hT12.ref rx24 (hM21.a (by decide) (by decide)) hchJ22
  have hihJ22 := fr.ki hJ9.1 hF20 hJ9.2.1 (by decide) (by decide) 11
  have hmhJ22 := hM21.i (k := 58) (by decide)
  refine lv_pop hx hb dL_law_928 rfl ?_
  refine lv_goto (tgt := 1201) hx hb dL_law_929 (by decide) ?_
  exact kk _ _ _ _ _ _ _ _ (gI σ16 x0 11) hJ22 ⟨rfl, by omega⟩ hT25 hH hS (lv_sub hl [0, 1, 2, 3, 4] rfl) (by omega) (by omega)

set_option maxHeartbeats 400000 in
set_option maxRecDepth 100000 in
theorem lc_18 {p : Program} {e : Env} {s : State} {m : MethodId} {below : List Frame} {meth : Method} {c : Code} {l : Launch} {b L : Nat} {xs : Nat → Int32} {G : va_G} {y : Nat → ClassId} (hl0 : l.stackTraces = false) (C0 : lw_At p s m meth c b L xs) (hK : nq_K G y s) (hXs : nq_X (th_A s.heap.size) s) {E : th_E} {σ : th_M} {x0 m0 ou : Nat} {t i : Int} (hL : L ≤ 3072) (hi0 : 0 ≤ i) (hi1 : i + 6 ≤ L) (hJ : LJ y E σ x0 m0 ou t t) {h : Int} (hI : gI σ x0 11 = h ∧ gI σ m0 58 = h) (hT : tp E σ x0 m0) {H : Heap} {locs : List Loc} {ls : Array Slot} {cells slots : Nat} (hH : th_H G s.heap.size σ H) (hS : va_S (th_A s.heap.size) s.heap H locs) (hl : lv_has ls 7 [(4, .int (I i)), (3, .ref ou), (2, .ref m0), (1, .ref x0), (0, .ref b)]) (hc0 : cells + 200 ≤ 601024) (hs0 : slots + 9800 ≤ 7293034) {Q : State → Prop} (kk : ∀ (E1 : th_E) (σ1 : th_M) (t1 : Int) (H1 : Heap) (locs1 : List Loc) (ls1 : Array Slot) (k1 n1 : Nat) (h1 : Int), LJ y E1 σ1 x0 m0 ou t1 t1 → (gI σ1 x0 11 = h1 ∧ gI σ1 m0 58 = h1) → tp E1 σ1 x0 m0 → th_H G s.heap.size σ1 H1 → va_S (th_A s.heap.size) s.heap H1 locs1 → lv_has ls1 7 [(4, .int (I i)), (3, .ref ou), (2, .ref m0), (1, .ref x0), (0, .ref b)] → k1 ≤ cells + 200 → n1 ≤ slots + 9800 → W p l e room_1 s m #[Value.ref b] below meth c H1 locs1 k1 n1 Q (F0 m 1201 ls1 [])) : W p l e room_1 s m #[Value.ref b] below meth c H locs cells slots Q (F0 m 932 ls []) := by
  obtain ⟨hx, hb, hr, hml, hown, hts, hX, hbl, hlocks, hgv⟩ := C0
  have hbA : ¬ th_A s.heap.size b := Nat.not_le.mpr hbl
  obtain ⟨a1, ra1, ea1⟩ : ∃ z : Int, rng z ∧ xs (I (i + 1)).toNatClampNeg = I z := ⟨_, rng_toInt _, (I_of _).symm⟩
  obtain ⟨a2, ra2, ea2⟩ : ∃ z : Int, rng z ∧ xs (I (i + 2)).toNatClampNeg = I z := ⟨_, rng_toInt _, (I_of _).symm⟩
  obtain ⟨a3, ra3, ea3⟩ : ∃ z : Int, rng z ∧ xs (I (i + 3)).toNatClampNeg = I z := ⟨_, rng_toInt _, (I_of _).symm⟩
  refine lv_aload_n hx hb dL_law_932 rfl (lv_at hl 3 rfl) ?_
  refine lv_aload_n hx hb dL_law_933 rfl (lv_at hl 4 rfl) ?_
  refine lv_iload hx hb dL_law_934 (lv_at hl 0 rfl) ?_
  refine lv_iconst (v := I 1) hx hb dL_law_936 (by decide) ?_
  refine lv_iadd hx hb dL_law_937 ?_
  refine nq_top (I_add _ _) ?_
  refine va_sld hx hb hX hbl hbA hS (i := I (i + 1)) (I_in ⟨by omega, by omega⟩ (by omega) (by omega)) dL_law_938 ?_
  refine nq_top ea1 ?_
  refine lv_aload_n hx hb dL_law_939 rfl (lv_at hl 4 rfl) ?_
  refine lv_iload hx hb dL_law_940 (lv_at hl 0 rfl) ?_
  refine lv_iconst (v := I 2) hx hb dL_law_942 (by decide) ?_
  refine lv_iadd hx hb dL_law_943 ?_
  refine nq_top (I_add _ _) ?_
  refine va_sld hx hb hX hbl hbA hS (i := I (i + 2)) (I_in ⟨by omega, by omega⟩ (by omega) (by omega)) dL_law_944 ?_
  refine nq_top ea2 ?_
  refine lv_aload_n hx hb dL_law_945 rfl (lv_at hl 4 rfl) ?_
  refine lv_iload hx hb dL_law_946 (lv_at hl 0 rfl) ?_
  refine lv_iconst (v := I 3) hx hb dL_law_948 (by decide) ?_
  refine lv_iadd hx hb dL_law_949 ?_
  refine nq_top (I_add _ _) ?_
  refine va_sld hx hb hX hbl hbA hS (i := I (i + 3)) (I_in ⟨by omega, by omega⟩ (by omega) (by omega)) dL_law_950 ?_
  refine nq_top ea3 ?_
  obtain ⟨_, hc1⟩ := hJ.1.cell hJ.2.1 (by decide) (ci := 10) rfl
  refine th_calli (va_runV (As := [.int (I a1), .int (I a2), .int (I a3)]) (rest := []) ⟨hx, hb, hml, hown, hts⟩ (q_move l G y s.heap.size σ E hJ.1 x0 hJ.2.1 a1 ra1 a2 ra2 a3 ra3) (cwV 3 hts gv_X10_move_135 rfl rfl rfl (by decide +kernel) ⟨Nat.le_of_ble_eq_true rfl, Nat.le_of_ble_eq_true rfl⟩) (th_PV hK hH rfl hc1) rfl rfl hl.1 rfl (lv_room (Nat.le_of_ble_eq_true rfl)) dL_law_951 ⟨show _ + _ ≤ 601024 by omega, show _ + _ ≤ 7293034 by omega⟩) hS (fun z4 σ3 H locs rz4 hw2 hH hS => ?_)
  obtain ⟨E11, hX5, hO6, hF7, hw2⟩ := hw2
  have hJ9 := hJ.clr hX5 hO6 hF7 (by decide) rfl
  have hkhJ9 := fr.ki hJ.1 hF7 hJ.2.1 (by decide) (by decide) 1
  have hmhJ9 := fr.ki hJ.1 hF7 hJ.2.2.1 (by decide) (by decide) 58
  have hihJ9 := fr.ki hJ.1 hF7 hJ.2.1 (by decide) (by decide) 11
  have hthJ9 := hJ9.tapm
  have huhJ9 := hJ.tapx
  have hvhJ9 := hJ.tapm
  have rm13 := hJ.row6 hX5 (fun x _ h0 hs => hF7 x h0 hs) (by decide)
  have hT12 := hT.cls (Or.inr ⟨by rw [hX5.ad2 hJ.2.1 (by decide) 0]; exact fr.af hJ.1 hF7 hJ.2.1 (by decide) (by decide) k12_0 isA1, by omega⟩) rm13
  refine lv_pop hx hb dL_law_954 rfl ?_
  refine lv_aload_n hx hb dL_law_955 rfl (lv_at hl 2 rfl) ?_
  refine lv_aload_n hx hb dL_law_956 rfl (lv_at hl 4 rfl) ?_
  refine lv_iload hx hb dL_law_957 (lv_at hl 0 rfl) ?_
  refine lv_iconst (v := I 1) hx hb dL_law_959 (by decide) ?_
  refine lv_iadd hx hb dL_law_960 ?_
  refine nq_top (I_add _ _) ?_
  refine va_sld hx hb hX hbl hbA hS (i := I (i + 1)) (I_in ⟨by omega, by omega⟩ (by omega) (by omega)) dL_law_961 ?_
  refine nq_top ea1 ?_
  refine lv_aload_n hx hb dL_law_962 rfl (lv_at hl 4 rfl) ?_
  refine lv_iload hx hb dL_law_963 (lv_at hl 0 rfl) ?_
  refine lv_iconst (v := I 2) hx hb dL_law_965 (by decide) ?_
  refine lv_iadd hx hb dL_law_966 ?_
  refine nq_top (I_add _ _) ?_
  refine va_sld hx hb hX hbl hbA hS (i := I (i + 2)) (I_in ⟨by omega, by omega⟩ (by omega) (by omega)) dL_law_967 ?_
  refine nq_top ea2 ?_
  refine lv_aload_n hx hb dL_law_968 rfl (lv_at hl 4 rfl) ?_
  refine lv_iload hx hb dL_law_969 (lv_at hl 0 rfl) ?_
  refine lv_iconst (v := I 3) hx hb dL_law_971 (by decide) ?_
  refine lv_iadd hx hb dL_law_972 ?_
  refine nq_top (I_add _ _) ?_
  refine va_sld hx hb hX hbl hbA hS (i := I (i + 3)) (I_in ⟨by omega, by omega⟩ (by omega) (by omega)) dL_law_973 ?_
  refine nq_top ea3 ?_
  obtain ⟨_, hc14⟩ := hJ9.1.cell hJ9.2.2.1 (by decide) (ci := 11) rfl
  refine th_calli (va_runV (As := [.int (I a1), .int (I a2), .int (I a3)]) (rest := []) ⟨hx, hb, hml, hown, hts⟩ (j_move l G y s.heap.size σ3 E11 hJ9.1 m0 hJ9.2.2.1 a1 ra1 a2 ra2 a3 ra3 _ rfl _ rfl _ rfl _ rfl _ rfl _ rfl _ rfl _ rfl _ rfl _ rfl _ rfl hJ9.jw) (cwV 3 hts gv_X11_move_138 rfl rfl rfl (by decide +kernel) ⟨Nat.le_of_ble_eq_true rfl, Nat.le_of_ble_eq_true rfl⟩) (th_PV hK hH rfl hc14) rfl rfl hl.1 rfl (lv_room (Nat.le_of_ble_eq_true rfl)) dL_law_974 ⟨show _ + _ ≤ 601024 by omega, show _ + _ ≤ 7293034 by omega⟩) hS (fun z17 σ16 H locs rz17 hw15 hH hS => ?_)
  obtain ⟨hO19, hF20, hM21, hq23, hw15⟩ := hw15
  have hJ22 := hJ9.ref hO19 hF20 hM21 hq23 (show gI σ16 m0 12 = (gI σ3 x0 1) by omega)
  have rx24 := fr.af hJ9.1 hF20 hJ9.2.1 (by decide) (by decide) k12_0 isA1
  have hchJ22 := fr.ki hJ9.1 hF20 hJ9.2.1 (by decide) (by decide) 1
  have hT25 := hT12.ref rx24 (hM21.a (by decide) (by decide)) hchJ22
  have hihJ22 := fr.ki hJ9.1 hF20 hJ9.2.1 (by decide) (by decide) 11
  have hmhJ22 := hM21.i (k := 58) (by decide)
  refine lv_pop hx hb dL_law_977 rfl ?_
  refine lv_goto (tgt := 1201) hx hb dL_law_978 (by decide) ?_
  exact kk _ _ _ _ _ _ _ _ (gI σ16 x0 11) hJ22 ⟨rfl, by omega⟩ hT25 hH hS (lv_sub hl [0, 1, 2, 3, 4] rfl) (by omega) (by omega)

set_option maxHeartbeats 400000 in
set_option maxRecDepth 100000 in
theorem lc_19 {p : Program} {e : Env} {s : State} {m : MethodId} {below : List Frame} {meth : Method} {c : Code} {l : Launch} {b L : Nat} {xs : Nat → Int32} {G : va_G} {y : Nat → ClassId} (hl0 : l.stackTraces = false) (C0 : lw_At p s m meth c b L xs) (hK : nq_K G y s) (hXs : nq_X (th_A s.heap.size) s) {E : th_E} {σ : th_M} {x0 m0 ou : Nat} {t i : Int} (hL : L ≤ 3072) (hi0 : 0 ≤ i) (hi1 : i + 6 ≤ L) (hJ : LJ y E σ x0 m0 ou t t) {h : Int} (hI : gI σ x0 11 = h ∧ gI σ m0 58 = h) (hT : tp E σ x0 m0) {H : Heap} {locs : List Loc} {ls : Array Slot} {cells slots : Nat} (hH : th_H G s.heap.size σ H) (hS : va_S (th_A s.heap.size) s.heap H locs) (hl : lv_has ls 7 [(4, .int (I i)), (3, .ref ou), (2, .ref m0), (1, .ref x0), (0, .ref b)]) (hc0 : cells + 200 ≤ 601024) (hs0 : slots + 9800 ≤ 7293034) {Q : State → Prop} (kk : ∀ (E1 : th_E) (σ1 : th_M) (t1 : Int) (H1 : Heap) (locs1 : List Loc) (ls1 : Array Slot) (k1 n1 : Nat) (h1 : Int), LJ y E1 σ1 x0 m0 ou t1 t1 → (gI σ1 x0 11 = h1 ∧ gI σ1 m0 58 = h1) → tp E1 σ1 x0 m0 → th_H G s.heap.size σ1 H1 → va_S (th_A s.heap.size) s.heap H1 locs1 → lv_has ls1 7 [(4, .int (I i)), (3, .ref ou), (2, .ref m0), (1, .ref x0), (0, .ref b)] → k1 ≤ cells + 200 → n1 ≤ slots + 9800 → W p l e room_1 s m #[Value.ref b] below meth c H1 locs1 k1 n1 Q (F0 m 1201 ls1 [])) : W p l e room_1 s m #[Value.ref b] below meth c H locs cells slots Q (F0 m 981 ls []) := by
  obtain ⟨hx, hb, hr, hml, hown, hts, hX, hbl, hlocks, hgv⟩ := C0
  have hbA : ¬ th_A s.heap.size b := Nat.not_le.mpr hbl
  refine lv_aload_n hx hb dL_law_981 rfl (lv_at hl 3 rfl) ?_
  obtain ⟨_, hc1⟩ := hJ.1.cell hJ.2.1 (by decide) (ci := 10) rfl
  refine th_calli (va_runV (As := []) (rest := []) ⟨hx, hb, hml, hown, hts⟩ (q_keep l G y s.heap.size σ E hJ.1 x0 hJ.2.1 ) (cwV 0 hts gv_X10_keep_139 rfl rfl rfl (by decide +kernel) ⟨Nat.le_of_ble_eq_true rfl, Nat.le_of_ble_eq_true rfl⟩) (th_PV hK hH rfl hc1) rfl rfl hl.1 rfl (lv_room (Nat.le_of_ble_eq_true rfl)) dL_law_982 ⟨show _ + _ ≤ 601024 by omega, show _ + _ ≤ 7293034 by omega⟩) hS (fun z4 σ3 H locs rz4 hw2 hH hS => ?_)
  obtain ⟨hO6, hF7, hw2⟩ := hw2
  have hJ9 := hJ.clr (ext.rf (E := E)) hO6 hF7 (by decide) rfl
  have hkhJ9 := fr.ki hJ.1 hF7 hJ.2.1 (by decide) (by decide) 1
  have hmhJ9 := fr.ki hJ.1 hF7 hJ.2.2.1 (by decide) (by decide) 58
  have hihJ9 := fr.ki hJ.1 hF7 hJ.2.1 (by decide) (by decide) 11
  have hthJ9 := hJ9.tapm
  have huhJ9 := hJ.tapx
  have hvhJ9 := hJ.tapm
  have rm12 := hJ.row6 (ext.rf (E := E)) (fun x _ h0 hs => hF7 x h0 hs) (by decide)
  have hT11 := hT.cls (Or.inr ⟨by rw [(ext.rf (E := E)).ad2 hJ.2.1 (by decide) 0]; exact fr.af hJ.1 hF7 hJ.2.1 (by decide) (by decide) k12_0 isA1, by omega⟩) rm12
  refine lv_pop hx hb dL_law_985 rfl ?_
  refine lv_aload_n hx hb dL_law_986 rfl (lv_at hl 2 rfl) ?_
  obtain ⟨_, hc13⟩ := hJ9.1.cell hJ9.2.2.1 (by decide) (ci := 11) rfl
  refine th_calli (va_runV (As := []) (rest := []) ⟨hx, hb, hml, hown, hts⟩ (j_keep l G y s.heap.size σ3 E hJ9.1 m0 hJ9.2.2.1  _ rfl _ rfl _ rfl _ rfl _ rfl _ rfl _ rfl _ rfl _ rfl _ rfl _ rfl hJ9.jw) (cwV 0 hts gv_X11_keep_142 rfl rfl rfl (by decide +kernel) ⟨Nat.le_of_ble_eq_true rfl, Nat.le_of_ble_eq_true rfl⟩) (th_PV hK hH rfl hc13) rfl rfl hl.1 rfl (lv_room (Nat.le_of_ble_eq_true rfl)) dL_law_987 ⟨show _ + _ ≤ 601024 by omega, show _ + _ ≤ 7293034 by omega⟩) hS (fun z16 σ15 H locs rz16 hw14 hH hS => ?_)
  obtain ⟨hO18, hF19, hM20, hq22, hw14⟩ := hw14
  have hJ21 := hJ9.ref hO18 hF19 hM20 hq22 (show gI σ15 m0 12 = (gI σ3 x0 1) by omega)
  have rx23 := fr.af hJ9.1 hF19 hJ9.2.1 (by decide) (by decide) k12_0 isA1
  have hchJ21 := fr.ki hJ9.1 hF19 hJ9.2.1 (by decide) (by decide) 1
  have hT24 := hT11.ref rx23 (hM20.a (by decide) (by decide)) hchJ21
  have hihJ21 := fr.ki hJ9.1 hF19 hJ9.2.1 (by decide) (by decide) 11
  have hmhJ21 := hM20.i (k := 58) (by decide)
  refine lv_pop hx hb dL_law_990 rfl ?_
  refine lv_goto (tgt := 1201) hx hb dL_law_991 (by decide) ?_
  exact kk _ _ _ _ _ _ _ _ (gI σ15 x0 11) hJ21 ⟨rfl, by omega⟩ hT24 hH hS (lv_sub hl [0, 1, 2, 3, 4] rfl) (by omega) (by omega)

set_option maxHeartbeats 400000 in
set_option maxRecDepth 100000 in
theorem lc_20 {p : Program} {e : Env} {s : State} {m : MethodId} {below : List Frame} {meth : Method} {c : Code} {l : Launch} {b L : Nat} {xs : Nat → Int32} {G : va_G} {y : Nat → ClassId} (hl0 : l.stackTraces = false) (C0 : lw_At p s m meth c b L xs) (hK : nq_K G y s) (hXs : nq_X (th_A s.heap.size) s) {E : th_E} {σ : th_M} {x0 m0 ou : Nat} {t i : Int} (hL : L ≤ 3072) (hi0 : 0 ≤ i) (hi1 : i + 6 ≤ L) (hJ : LJ y E σ x0 m0 ou t t) {h : Int} (hI : gI σ x0 11 = h ∧ gI σ m0 58 = h) (hT : tp E σ x0 m0) {H : Heap} {locs : List Loc} {ls : Array Slot} {cells slots : Nat} (hH : th_H G s.heap.size σ H) (hS : va_S (th_A s.heap.size) s.heap H locs) (hl : lv_has ls 7 [(4, .int (I i)), (3, .ref ou), (2, .ref m0), (1, .ref x0), (0, .ref b)]) (hc0 : cells + 200 ≤ 601024) (hs0 : slots + 9800 ≤ 7293034) {Q : State → Prop} (kk : ∀ (E1 : th_E) (σ1 : th_M) (t1 : Int) (H1 : Heap) (locs1 : List Loc) (ls1 : Array Slot) (k1 n1 : Nat) (h1 : Int), LJ y E1 σ1 x0 m0 ou t1 t1 → (gI σ1 x0 11 = h1 ∧ gI σ1 m0 58 = h1) → tp E1 σ1 x0 m0 → th_H G s.heap.size σ1 H1 → va_S (th_A s.heap.size) s.heap H1 locs1 → lv_has ls1 7 [(4, .int (I i)), (3, .ref ou), (2, .ref m0), (1, .ref x0), (0, .ref b)] → k1 ≤ cells + 200 → n1 ≤ slots + 9800 → W p l e room_1 s m #[Value.ref b] below meth c H1 locs1 k1 n1 Q (F0 m 1201 ls1 [])) : W p l e room_1 s m #[Value.ref b] below meth c H locs cells slots Q (F0 m 994 ls []) := by
  obtain ⟨hx, hb, hr, hml, hown, hts, hX, hbl, hlocks, hgv⟩ := C0
  have hbA : ¬ th_A s.heap.size b := Nat.not_le.mpr hbl
  obtain ⟨a1, ra1, ea1⟩ : ∃ z : Int, rng z ∧ xs (I (i + 1)).toNatClampNeg = I z := ⟨_, rng_toInt _, (I_of _).symm⟩
  refine lv_aload_n hx hb dL_law_994 rfl (lv_at hl 3 rfl) ?_
  refine lv_aload_n hx hb dL_law_995 rfl (lv_at hl 4 rfl) ?_
  refine lv_iload hx hb dL_law_996 (lv_at hl 0 rfl) ?_
  refine lv_iconst (v := I 1) hx hb dL_law_998 (by decide) ?_
  refine lv_iadd hx hb dL_law_999 ?_
  refine nq_top (I_add _ _) ?_
  refine va_sld hx hb hX hbl hbA hS (i := I (i + 1)) (I_in ⟨by omega, by omega⟩ (by omega) (by omega)) dL_law_1000 ?_
  refine nq_top ea1 ?_
  refine lv_if_eq (tgt := 1008) hx hb dL_law_1001 (by decide) (fun c1 => ?_) (fun c1 => ?_)
  · refine lv_iconst (v := I 0) hx hb dL_law_1008 (by decide) ?_
    obtain ⟨_, hc2⟩ := hJ.1.cell hJ.2.1 (by decide) (ci := 10) rfl
    refine th_calli (va_runV (As := [.int (I 0)]) (rest := []) ⟨hx, hb, hml, hown, hts⟩ (q_apply l G y s.heap.size σ E hJ.1 x0 hJ.2.1 0 (show rng 0 from ⟨by decide, by decide⟩) (by decide) (by decide)) (cwV 1 hts gv_X10_apply_143 rfl rfl rfl (by decide +kernel) ⟨Nat.le_of_ble_eq_true rfl, Nat.le_of_ble_eq_true rfl⟩) (th_PV hK hH rfl hc2) rfl rfl hl.1 rfl (lv_room (Nat.le_of_ble_eq_true rfl)) dL_law_1009 ⟨show _ + _ ≤ 601024 by omega, show _ + _ ≤ 7293034 by omega⟩) hS (fun z5 σ4 H locs rz5 hw3 hH hS => ?_)
    obtain ⟨E12, hX6, hO7, hF8, hw3⟩ := hw3
    have hJ10 := hJ.clr hX6 hO7 hF8 (by decide) rfl
    have hkhJ10 := fr.ki hJ.1 hF8 hJ.2.1 (by decide) (by decide) 1
    have hmhJ10 := fr.ki hJ.1 hF8 hJ.2.2.1 (by decide) (by decide) 58
    have hihJ10 := fr.ki hJ.1 hF8 hJ.2.1 (by decide) (by decide) 11
    have hthJ10 := hJ10.tapm
    have huhJ10 := hJ.tapx
    have hvhJ10 := hJ.tapm
    have rm14 := hJ.row6 hX6 (fun x _ h0 hs => hF8 x h0 hs) (by decide)
    have hT13 := hT.cls (Or.inr ⟨by rw [hX6.ad2 hJ.2.1 (by decide) 0]; exact fr.af hJ.1 hF8 hJ.2.1 (by decide) (by decide) k12_0 isA1, by omega⟩) rm14
    refine lv_pop hx hb dL_law_1012 rfl ?_
    refine lv_aload_n hx hb dL_law_1013 rfl (lv_at hl 2 rfl) ?_
    refine lv_aload_n hx hb dL_law_1014 rfl (lv_at hl 4 rfl) ?_
    refine lv_iload hx hb dL_law_1015 (lv_at hl 0 rfl) ?_
    refine lv_iconst (v := I 1) hx hb dL_law_1017 (by decide) ?_
    refine lv_iadd hx hb dL_law_1018 ?_
    refine nq_top (I_add _ _) ?_
    refine va_sld hx hb hX hbl hbA hS (i := I (i + 1)) (I_in ⟨by omega, by omega⟩ (by omega) (by omega)) dL_law_1019 ?_
    refine nq_top ea1 ?_
    refine lv_if_eq (tgt := 1027) hx hb dL_law_1020 (by decide) (fun c15 => ?_) (fun c15 => ?_)
    · refine lv_iconst (v := I 0) hx hb dL_law_1027 (by decide) ?_
      obtain ⟨_, hc16⟩ := hJ10.1.cell hJ10.2.2.1 (by decide) (ci := 11) rfl
      refine th_calli (va_runV (As := [.int (I 0)]) (rest := []) ⟨hx, hb, hml, hown, hts⟩ (j_apply l G y s.heap.size σ4 E12 hJ10.1 m0 hJ10.2.2.1 0 (show rng 0 from ⟨by decide, by decide⟩) (by decide) (by decide) _ rfl _ rfl _ rfl _ rfl _ rfl _ rfl _ rfl _ rfl _ rfl _ rfl _ rfl _ rfl _ rfl hJ10.jw) (cwV 1 hts gv_X11_apply_147 rfl rfl rfl (by decide +kernel) ⟨Nat.le_of_ble_eq_true rfl, Nat.le_of_ble_eq_true rfl⟩) (th_PV hK hH rfl hc16) rfl rfl hl.1 rfl (lv_room (Nat.le_of_ble_eq_true rfl)) dL_law_1028 ⟨show _ + _ ≤ 601024 by omega, show _ + _ ≤ 7293034 by omega⟩) hS (fun z19 σ18 H locs rz19 hw17 hH hS => ?_)
      obtain ⟨hO21, hF22, hM23, hq25, hw17⟩ := hw17
      have hJ24 := hJ10.ref hO21 hF22 hM23 hq25 (show gI σ18 m0 12 = (gI σ4 x0 1) by omega)
      have rx26 := fr.af hJ10.1 hF22 hJ10.2.1 (by decide) (by decide) k12_0 isA1
      have hchJ24 := fr.ki hJ10.1 hF22 hJ10.2.1 (by decide) (by decide) 1
      have hT27 := hT13.ref rx26 (hM23.a (by decide) (by decide)) hchJ24
      have hihJ24 := fr.ki hJ10.1 hF22 hJ10.2.1 (by decide) (by decide) 11
      have hmhJ24 := hM23.i (k := 58) (by decide)
      refine lv_pop hx hb dL_law_1031 rfl ?_
      refine lv_goto (tgt := 1201) hx hb dL_law_1032 (by decide) ?_
      exact kk _ _ _ _ _ _ _ _ (gI σ18 x0 11) hJ24 ⟨rfl, by omega⟩ hT27 hH hS (lv_sub hl [0, 1, 2, 3, 4] rfl) (by omega) (by omega)
    · refine lv_iconst (v := I 1) hx hb dL_law_1023 (by decide) ?_
      refine lv_goto (tgt := 1028) hx hb dL_law_1024 (by decide) ?_
      obtain ⟨_, hc28⟩ := hJ10.1.cell hJ10.2.2.1 (by decide) (ci := 11) rfl
      refine th_calli (va_runV (As := [.int (I 1)]) (rest := []) ⟨hx, hb, hml, hown, hts⟩ (j_apply l G y s.heap.size σ4 E12 hJ10.1 m0 hJ10.2.2.1 1 (show rng 1 from ⟨by decide, by decide⟩) (by decide) (by decide) _ rfl _ rfl _ rfl _ rfl _ rfl _ rfl _ rfl _ rfl _ rfl _ rfl _ rfl _ rfl _ rfl hJ10.jw) (cwV 1 hts gv_X11_apply_147 rfl rfl rfl (by decide +kernel) ⟨Nat.le_of_ble_eq_true rfl, Nat.le_of_ble_eq_true rfl⟩) (th_PV hK hH rfl hc28) rfl rfl hl.1 rfl (lv_room (Nat.le_of_ble_eq_true rfl)) dL_law_1028 ⟨show _ + _ ≤ 601024 by omega, show _ + _ ≤ 7293034 by omega⟩) hS (fun z31 σ30 H locs rz31 hw29 hH hS => ?_)
      obtain ⟨hO33, hF34, hM35, hq37, hw29⟩ := hw29
      have hJ36 := hJ10.ref hO33 hF34 hM35 hq37 (show gI σ30 m0 12 = (gI σ4 x0 1) by omega)
      have rx38 := fr.af hJ10.1 hF34 hJ10.2.1 (by decide) (by decide) k12_0 isA1
      have hchJ36 := fr.ki hJ10.1 hF34 hJ10.2.1 (by decide) (by decide) 1
      have hT39 := hT13.ref rx38 (hM35.a (by decide) (by decide)) hchJ36
      have hihJ36 := fr.ki hJ10.1 hF34 hJ10.2.1 (by decide) (by decide) 11
      have hmhJ36 := hM35.i (k := 58) (by decide)
      refine lv_pop hx hb dL_law_1031 rfl ?_
      refine lv_goto (tgt := 1201) hx hb dL_law_1032 (by decide) ?_
      exact kk _ _ _ _ _ _ _ _ (gI σ30 x0 11) hJ36 ⟨rfl, by omega⟩ hT39 hH hS (lv_sub hl [0, 1, 2, 3, 4] rfl) (by omega) (by omega)
  · refine lv_iconst (v := I 1) hx hb dL_law_1004 (by decide) ?_
    refine lv_goto (tgt := 1009) hx hb dL_law_1005 (by decide) ?_
    obtain ⟨_, hc40⟩ := hJ.1.cell hJ.2.1 (by decide) (ci := 10) rfl
    refine th_calli (va_runV (As := [.int (I 1)]) (rest := []) ⟨hx, hb, hml, hown, hts⟩ (q_apply l G y s.heap.size σ E hJ.1 x0 hJ.2.1 1 (show rng 1 from ⟨by decide, by decide⟩) (by decide) (by decide)) (cwV 1 hts gv_X10_apply_143 rfl rfl rfl (by decide +kernel) ⟨Nat.le_of_ble_eq_true rfl, Nat.le_of_ble_eq_true rfl⟩) (th_PV hK hH rfl hc40) rfl rfl hl.1 rfl (lv_room (Nat.le_of_ble_eq_true rfl)) dL_law_1009 ⟨show _ + _ ≤ 601024 by omega, show _ + _ ≤ 7293034 by omega⟩) hS (fun z43 σ42 H locs rz43 hw41 hH hS => ?_)
    obtain ⟨E50, hX44, hO45, hF46, hw41⟩ := hw41
    have hJ48 := hJ.clr hX44 hO45 hF46 (by decide) rfl
    have hkhJ48 := fr.ki hJ.1 hF46 hJ.2.1 (by decide) (by decide) 1
    have hmhJ48 := fr.ki hJ.1 hF46 hJ.2.2.1 (by decide) (by decide) 58
    have hihJ48 := fr.ki hJ.1 hF46 hJ.2.1 (by decide) (by decide) 11
    have hthJ48 := hJ48.tapm
    have huhJ48 := hJ.tapx
    have hvhJ48 := hJ.tapm
    have rm52 := hJ.row6 hX44 (fun x _ h0 hs => hF46 x h0 hs) (by decide)
    have hT51 := hT.cls (Or.inr ⟨by rw [hX44.ad2 hJ.2.1 (by decide) 0]; exact fr.af hJ.1 hF46 hJ.2.1 (by decide) (by decide) k12_0 isA1, by omega⟩) rm52
    refine lv_pop hx hb dL_law_1012 rfl ?_
    refine lv_aload_n hx hb dL_law_1013 rfl (lv_at hl 2 rfl) ?_
    refine lv_aload_n hx hb dL_law_1014 rfl (lv_at hl 4 rfl) ?_
    refine lv_iload hx hb dL_law_1015 (lv_at hl 0 rfl) ?_
    refine lv_iconst (v := I 1) hx hb dL_law_1017 (by decide) ?_
    refine lv_iadd hx hb dL_law_1018 ?_
    refine nq_top (I_add _ _) ?_
    refine va_sld hx hb hX hbl hbA hS (i := I (i + 1)) (I_in ⟨by omega, by omega⟩ (by omega) (by omega)) dL_law_1019 ?_
    refine nq_top ea1 ?_
    refine lv_if_eq (tgt := 1027) hx hb dL_law_1020 (by decide) (fun c53 => ?_) (fun c53 => ?_)
    · refine lv_iconst (v := I 0) hx hb dL_law_1027 (by decide) ?_
      obtain ⟨_, hc54⟩ := hJ48.1.cell hJ48.2.2.1 (by decide) (ci := 11) rfl
      refine th_calli (va_runV (As := [.int (I 0)]) (rest := []) ⟨hx, hb, hml, hown, hts⟩ (j_apply l G y s.heap.size σ42 E50 hJ48.1 m0 hJ48.2.2.1 0 (show rng 0 from ⟨by decide, by decide⟩) (by decide) (by decide) _ rfl _ rfl _ rfl _ rfl _ rfl _ rfl _ rfl _ rfl _ rfl _ rfl _ rfl _ rfl _ rfl hJ48.jw) (cwV 1 hts gv_X11_apply_147 rfl rfl rfl (by decide +kernel) ⟨Nat.le_of_ble_eq_true rfl, Nat.le_of_ble_eq_true rfl⟩) (th_PV hK hH rfl hc54) rfl rfl hl.1 rfl (lv_room (Nat.le_of_ble_eq_true rfl)) dL_law_1028 ⟨show _ + _ ≤ 601024 by omega, show _ + _ ≤ 7293034 by omega⟩) hS (fun z57 σ56 H locs rz57 hw55 hH hS => ?_)
      obtain ⟨hO59, hF60, hM61, hq63, hw55⟩ := hw55
      have hJ62 := hJ48.ref hO59 hF60 hM61 hq63 (show gI σ56 m0 12 = (gI σ42 x0 1) by omega)
      have rx64 := fr.af hJ48.1 hF60 hJ48.2.1 (by decide) (by decide) k12_0 isA1
      have hchJ62 := fr.ki hJ48.1 hF60 hJ48.2.1 (by decide) (by decide) 1
      have hT65 := hT51.ref rx64 (hM61.a (by decide) (by decide)) hchJ62
      have hihJ62 := fr.ki hJ48.1 hF60 hJ48.2.1 (by decide) (by decide) 11
      have hmhJ62 := hM61.i (k := 58) (by decide)
      refine lv_pop hx hb dL_law_1031 rfl ?_
      refine lv_goto (tgt := 1201) hx hb dL_law_1032 (by decide) ?_
      exact kk _ _ _ _ _ _ _ _ (gI σ56 x0 11) hJ62 ⟨rfl, by omega⟩ hT65 hH hS (lv_sub hl [0, 1, 2, 3, 4] rfl) (by omega) (by omega)
    · refine lv_iconst (v := I 1) hx hb dL_law_1023 (by decide) ?_
      refine lv_goto (tgt := 1028) hx hb dL_law_1024 (by decide) ?_
      obtain ⟨_, hc66⟩ := hJ48.1.cell hJ48.2.2.1 (by decide) (ci := 11) rfl
      refine th_calli (va_runV (As := [.int (I 1)]) (rest := []) ⟨hx, hb, hml, hown, hts⟩ (j_apply l G y s.heap.size σ42 E50 hJ48.1 m0 hJ48.2.2.1 1 (show rng 1 from ⟨by decide, by decide⟩) (by decide) (by decide) _ rfl _ rfl _ rfl _ rfl _ rfl _ rfl _ rfl _ rfl _ rfl _ rfl _ rfl _ rfl _ rfl hJ48.jw) (cwV 1 hts gv_X11_apply_147 rfl rfl rfl (by decide +kernel) ⟨Nat.le_of_ble_eq_true rfl, Nat.le_of_ble_eq_true rfl⟩) (th_PV hK hH rfl hc66) rfl rfl hl.1 rfl (lv_room (Nat.le_of_ble_eq_true rfl)) dL_law_1028 ⟨show _ + _ ≤ 601024 by omega, show _ + _ ≤ 7293034 by omega⟩) hS (fun z69 σ68 H locs rz69 hw67 hH hS => ?_)
      obtain ⟨hO71, hF72, hM73, hq75, hw67⟩ := hw67
      have hJ74 := hJ48.ref hO71 hF72 hM73 hq75 (show gI σ68 m0 12 = (gI σ42 x0 1) by omega)
      have rx76 := fr.af hJ48.1 hF72 hJ48.2.1 (by decide) (by decide) k12_0 isA1
      have hchJ74 := fr.ki hJ48.1 hF72 hJ48.2.1 (by decide) (by decide) 1
      have hT77 := hT51.ref rx76 (hM73.a (by decide) (by decide)) hchJ74
      have hihJ74 := fr.ki hJ48.1 hF72 hJ48.2.1 (by decide) (by decide) 11
      have hmhJ74 := hM73.i (k := 58) (by decide)
      refine lv_pop hx hb dL_law_1031 rfl ?_
      refine lv_goto (tgt := 1201) hx hb dL_law_1032 (by decide) ?_
      exact kk _ _ _ _ _ _ _ _ (gI σ68 x0 11) hJ74 ⟨rfl, by omega⟩ hT77 hH hS (lv_sub hl [0, 1, 2, 3, 4] rfl) (by omega) (by omega)
