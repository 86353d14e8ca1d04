set_option maxHeartbeats 400000 in
set_option maxRecDepth 100000 in
theorem lc_0 {p : Program} {e : Env} {s : State} {m : MethodId} {below : List Frame} {meth : Method} {c : Code} {l : Launch} {b L : Nat} {xs : Nat → Int32} {G : va_G} {y : Nat → ClassId} (hl0 : l.stackTraces = false) (C0 : lw_At p s m meth c b L xs) (hK : nq_K G y s) (hXs : nq_X (th_A s.heap.size) s) {E : th_E} {σ : th_M} {x0 m0 ou : Nat} {t i : Int} (hL : L ≤ 3072) (hi0 : 0 ≤ i) (hi1 : i + 6 ≤ L) (hJ : LJ y E σ x0 m0 ou t t) (hI : F5 E σ x0 m0) (hT : tp E σ x0 m0) {H : Heap} {locs : List Loc} {ls : Array Slot} {cells slots : Nat} (hH : th_H G s.heap.size σ H) (hS : va_S (th_A s.heap.size) s.heap H locs) (hl : lv_has ls 7 [(4, .int (I i)), (3, .ref ou), (2, .ref m0), (1, .ref x0), (0, .ref b)]) (hc0 : cells + 200 ≤ 601024) (hs0 : slots + 9800 ≤ 7293034) {Q : State → Prop} (kk : ∀ (E1 : th_E) (σ1 : th_M) (t1 : Int) (H1 : Heap) (locs1 : List Loc) (ls1 : Array Slot) (k1 n1 : Nat), LJ y E1 σ1 x0 m0 ou t1 t1 → F5 E1 σ1 x0 m0 → tp E1 σ1 x0 m0 → th_H G s.heap.size σ1 H1 → va_S (th_A s.heap.size) s.heap H1 locs1 → lv_has ls1 7 [(4, .int (I i)), (3, .ref ou), (2, .ref m0), (1, .ref x0), (0, .ref b)] → k1 ≤ cells + 200 → n1 ≤ slots + 9800 → W p l e room_1 s m #[Value.ref b] below meth c H1 locs1 k1 n1 Q (F0 m 1173 ls1 [])) : W p l e room_1 s m #[Value.ref b] below meth c H locs cells slots Q (F0 m 168 ls []) := by
  obtain ⟨hx, hb, hr, hml, hown, hts, hX, hbl, hlocks, hgv⟩ := C0
  have hbA : ¬ th_A s.heap.size b := Nat.not_le.mpr hbl
  obtain ⟨a1, ra1, ea1⟩ : ∃ z : Int, rng z ∧ xs (I (i + 1)).toNatClampNeg = I z := ⟨_, rng_toInt _, (I_of _).symm⟩
  obtain ⟨a2, ra2, ea2⟩ : ∃ z : Int, rng z ∧ xs (I (i + 2)).toNatClampNeg = I z := ⟨_, rng_toInt _, (I_of _).symm⟩
  obtain ⟨a3, ra3, ea3⟩ : ∃ z : Int, rng z ∧ xs (I (i + 3)).toNatClampNeg = I z := ⟨_, rng_toInt _, (I_of _).symm⟩
  obtain ⟨a4, ra4, ea4⟩ : ∃ z : Int, rng z ∧ xs (I (i + 4)).toNatClampNeg = I z := ⟨_, rng_toInt _, (I_of _).symm⟩
  obtain ⟨a5, ra5, ea5⟩ : ∃ z : Int, rng z ∧ xs (I (i + 5)).toNatClampNeg = I z := ⟨_, rng_toInt _, (I_of _).symm⟩
  refine lv_aload_n hx hb dL_law_168 rfl (lv_at hl 3 rfl) ?_
  refine lv_aload_n hx hb dL_law_169 rfl (lv_at hl 4 rfl) ?_
  refine lv_iload hx hb dL_law_170 (lv_at hl 0 rfl) ?_
  refine lv_iconst (v := I 1) hx hb dL_law_172 (by decide) ?_
  refine lv_iadd hx hb dL_law_173 ?_
  refine nq_top (I_add _ _) ?_
  refine va_sld hx hb hX hbl hbA hS (i := I (i + 1)) (I_in ⟨by omega, by omega⟩ (by omega) (by omega)) dL_law_174 ?_
  refine nq_top ea1 ?_
  refine lv_aload_n hx hb dL_law_175 rfl (lv_at hl 4 rfl) ?_
  refine lv_iload hx hb dL_law_176 (lv_at hl 0 rfl) ?_
  refine lv_iconst (v := I 2) hx hb dL_law_178 (by decide) ?_
  refine lv_iadd hx hb dL_law_179 ?_
  refine nq_top (I_add _ _) ?_
  refine va_sld hx hb hX hbl hbA hS (i := I (i + 2)) (I_in ⟨by omega, by omega⟩ (by omega) (by omega)) dL_law_180 ?_
  refine nq_top ea2 ?_
  refine lv_aload_n hx hb dL_law_181 rfl (lv_at hl 4 rfl) ?_
  refine lv_iload hx hb dL_law_182 (lv_at hl 0 rfl) ?_
  refine lv_iconst (v := I 3) hx hb dL_law_184 (by decide) ?_
  refine lv_iadd hx hb dL_law_185 ?_
  refine nq_top (I_add _ _) ?_
  refine va_sld hx hb hX hbl hbA hS (i := I (i + 3)) (I_in ⟨by omega, by omega⟩ (by omega) (by omega)) dL_law_186 ?_
  refine nq_top ea3 ?_
  refine lv_aload_n hx hb dL_law_187 rfl (lv_at hl 4 rfl) ?_
  refine lv_iload hx hb dL_law_188 (lv_at hl 0 rfl) ?_
  refine lv_iconst (v := I 4) hx hb dL_law_190 (by decide) ?_
  refine lv_iadd hx hb dL_law_191 ?_
  refine nq_top (I_add _ _) ?_
  refine va_sld hx hb hX hbl hbA hS (i := I (i + 4)) (I_in ⟨by omega, by omega⟩ (by omega) (by omega)) dL_law_192 ?_
  refine nq_top ea4 ?_
  refine lv_aload_n hx hb dL_law_193 rfl (lv_at hl 4 rfl) ?_
  refine lv_iload hx hb dL_law_194 (lv_at hl 0 rfl) ?_
  refine lv_iconst (v := I 5) hx hb dL_law_196 (by decide) ?_
  refine lv_iadd hx hb dL_law_197 ?_
  refine nq_top (I_add _ _) ?_
  refine va_sld hx hb hX hbl hbA hS (i := I (i + 5)) (I_in ⟨by omega, by omega⟩ (by omega) (by omega)) dL_law_198 ?_
  refine nq_top ea5 ?_
  obtain ⟨_, hc1⟩ := hJ.1.cell hJ.2.1 (by decide) (ci := 10) rfl
  refine th_calli (va_runV (As := [.int (I a1), .int (I a2), .int (I a3), .int (I a4), .int (I a5)]) (rest := []) ⟨hx, hb, hml, hown, hts⟩ (q8_feed l G y s.heap.size σ E hJ.1 x0 hJ.2.1 a1 ra1 a2 ra2 a3 ra3 a4 ra4 a5 ra5) (cwV 5 hts gv_X10_feed_66 rfl rfl rfl (by decide +kernel) ⟨Nat.le_of_ble_eq_true rfl, Nat.le_of_ble_eq_true rfl⟩) (th_PV hK hH rfl hc1) rfl rfl hl.1 rfl (lv_room (Nat.le_of_ble_eq_true rfl)) dL_law_199 ⟨show _ + _ ≤ 601024 by omega, show _ + _ ≤ 7293034 by omega⟩) hS (fun z4 σ3 H locs rz4 hw2 hH hS => ?_)
  obtain ⟨hO6, hF7, hw2⟩ := hw2
  have hJ9 := hJ.clr (ext.rf (E := E)) hO6 hF7 (by decide) rfl
  have m112 := fr.ki hJ.1 hF7 hJ.2.2.1 (by decide) (by decide) 21
  have m813 := hJ.row8 (ext.rf (E := E)) (fun x _ h0 hs => hF7 x h0 hs) (by decide)
  have hthJ9 := hJ9.tapm
  have huhJ9 := hJ.tapx
  have hvhJ9 := hJ.tapm
  have rm17 := hJ.row6 (ext.rf (E := E)) (fun x _ h0 hs => hF7 x h0 hs) (by decide)
  obtain ⟨hw2, x214, hfx18, hrx19, xq15⟩ := hw2
  replace hfx18 := hid.mk hfx18
  replace hrx19 := hid.mk hrx19
  have hI11 := hI.keep (ext.rf (E := E)) hJ.2.1 x214 (by rw [(ext.rf (E := E)).ad2 hJ.2.1 (by decide) 3]; exact xq15) m112 m813
  refine lv_pop hx hb dL_law_202 rfl ?_
  refine lv_aload_n hx hb dL_law_203 rfl (lv_at hl 2 rfl) ?_
  refine lv_aload_n hx hb dL_law_204 rfl (lv_at hl 4 rfl) ?_
  refine lv_iload hx hb dL_law_205 (lv_at hl 0 rfl) ?_
  refine lv_iconst (v := I 1) hx hb dL_law_207 (by decide) ?_
  refine lv_iadd hx hb dL_law_208 ?_
  refine nq_top (I_add _ _) ?_
  refine va_sld hx hb hX hbl hbA hS (i := I (i + 1)) (I_in ⟨by omega, by omega⟩ (by omega) (by omega)) dL_law_209 ?_
  refine nq_top ea1 ?_
  refine lv_aload_n hx hb dL_law_210 rfl (lv_at hl 4 rfl) ?_
  refine lv_iload hx hb dL_law_211 (lv_at hl 0 rfl) ?_
  refine lv_iconst (v := I 2) hx hb dL_law_213 (by decide) ?_
  refine lv_iadd hx hb dL_law_214 ?_
  refine nq_top (I_add _ _) ?_
  refine va_sld hx hb hX hbl hbA hS (i := I (i + 2)) (I_in ⟨by omega, by omega⟩ (by omega) (by omega)) dL_law_215 ?_
  refine nq_top ea2 ?_
  refine lv_aload_n hx hb dL_law_216 rfl (lv_at hl 4 rfl) ?_
  refine lv_iload hx hb dL_law_217 (lv_at hl 0 rfl) ?_
  refine lv_iconst (v := I 3) hx hb dL_law_219 (by decide) ?_
  refine lv_iadd hx hb dL_law_220 ?_
  refine nq_top (I_add _ _) ?_
  refine va_sld hx hb hX hbl hbA hS (i := I (i + 3)) (I_in ⟨by omega, by omega⟩ (by omega) (by omega)) dL_law_221 ?_
  refine nq_top ea3 ?_
  refine lv_aload_n hx hb dL_law_222 rfl (lv_at hl 4 rfl) ?_
  refine lv_iload hx hb dL_law_223 (lv_at hl 0 rfl) ?_
  refine lv_iconst (v := I 4) hx hb dL_law_225 (by decide) ?_
  refine lv_iadd hx hb dL_law_226 ?_
  refine nq_top (I_add _ _) ?_
  refine va_sld hx hb hX hbl hbA hS (i := I (i + 4)) (I_in ⟨by omega, by omega⟩ (by omega) (by omega)) dL_law_227 ?_
  refine nq_top ea4 ?_
  refine lv_aload_n hx hb dL_law_228 rfl (lv_at hl 4 rfl) ?_
  refine lv_iload hx hb dL_law_229 (lv_at hl 0 rfl) ?_
  refine lv_iconst (v := I 5) hx hb dL_law_231 (by decide) ?_
  refine lv_iadd hx hb dL_law_232 ?_
  refine nq_top (I_add _ _) ?_
  refine va_sld hx hb hX hbl hbA hS (i := I (i + 5)) (I_in ⟨by omega, by omega⟩ (by omega) (by omega)) dL_law_233 ?_
  refine nq_top ea5 ?_
  obtain ⟨_, hc20⟩ := hJ9.1.cell hJ9.2.2.1 (by decide) (ci := 11) rfl
  refine th_calli (va_runV (As := [.int (I a1), .int (I a2), .int (I a3), .int (I a4), .int (I a5)]) (rest := []) ⟨hx, hb, hml, hown, hts⟩ (j7_feed l G y s.heap.size σ3 E hJ9.1 m0 hJ9.2.2.1 a1 ra1 a2 ra2 a3 ra3 a4 ra4 a5 ra5 _ rfl _ rfl _ rfl _ rfl _ rfl _ rfl _ rfl _ rfl _ rfl _ rfl _ rfl _ rfl hJ9.jw) (cwV 5 hts gv_X11_feed_70 rfl rfl rfl (by decide +kernel) ⟨Nat.le_of_ble_eq_true rfl, Nat.le_of_ble_eq_true rfl⟩) (th_PV hK hH rfl hc20) rfl rfl hl.1 rfl (lv_room (Nat.le_of_ble_eq_true rfl)) dL_law_234 ⟨show _ + _ ≤ 601024 by omega, show _ + _ ≤ 7293034 by omega⟩) hS (fun z23 σ22 H locs rz23 hw21 hH hS => ?_)
  obtain ⟨hO25, hF26, hM27, ⟨hq29, hw21⟩, hw35⟩ := hw21
  replace hw35 := hid.mk hw35
  have hwhJ28 := hJ9.tapm
  have hJ28 := hJ9.ref hO25 hF26 hM27 hq29 (show gI σ22 m0 12 = (gI σ3 x0 1) by omega)
  have rx36 := fr.af hJ9.1 hF26 hJ9.2.1 (by decide) (by decide) k12_0 isA1
  have hchJ28 := fr.ki hJ9.1 hF26 hJ9.2.1 (by decide) (by decide) 1
  have hT37 := hT.fed (by obtain ⟨z9, e9, -, l9, -⟩ := ok.gi hJ.1 hJ.2.1 (by decide) k12_1; omega) (hid.out hfx18) (hid.out hrx19) rm17 rx36 (by omega) (hid.out hw35).1 (hid.out hw35).2.1 (by omega)
  have x233 := fr.ki hJ9.1 hF26 hJ9.2.1 (by decide) (by decide) 2
  have xq34 := fr.aq hJ9.1 hF26 hJ9.2.1 (by decide) (by decide) k12_3
  have m832 : aF σ22 (ad E m0 8) = aF σ3 (ad E m0 8) := hM27.a (by decide) (by decide)
  have m131 := hM27.i (k := 21) (by decide)
  have hI30 := hI11.keep ext.rf hJ9.2.1 x233 xq34 m131 m832
  refine lv_pop hx hb dL_law_237 rfl ?_
  refine lv_goto (tgt := 1173) hx hb dL_law_238 (by decide) ?_
  exact kk _ _ _ _ _ _ _ _ hJ28 hI30 hT37 hH hS (lv_sub hl [0, 1, 2, 3, 4] rfl) (by omega) (by omega)

set_option maxHeartbeats 400000 in
set_option maxRecDepth 100000 in
theorem lc_1 {p : Program} {e : Env} {s : State} {m : MethodId} {below : List Frame} {meth : Method} {c : Code} {l : Launch} {b L : Nat} {xs : Nat → Int32} {G : va_G} {y : Nat → ClassId} (hl0 : l.stackTraces = false) (C0 : lw_At p s m meth c b L xs) (hK : nq_K G y s) (hXs : nq_X (th_A s.heap.size) s) {E : th_E} {σ : th_M} {x0 m0 ou : Nat} {t i : Int} (hL : L ≤ 3072) (hi0 : 0 ≤ i) (hi1 : i + 6 ≤ L) (hJ : LJ y E σ x0 m0 ou t t) (hI : F5 E σ x0 m0) (hT : tp E σ x0 m0) {H : Heap} {locs : List Loc} {ls : Array Slot} {cells slots : Nat} (hH : th_H G s.heap.size σ H) (hS : va_S (th_A s.heap.size) s.heap H locs) (hl : lv_has ls 7 [(4, .int (I i)), (3, .ref ou), (2, .ref m0), (1, .ref x0), (0, .ref b)]) (hc0 : cells + 200 ≤ 601024) (hs0 : slots + 9800 ≤ 7293034) {Q : State → Prop} (kk : ∀ (E1 : th_E) (σ1 : th_M) (t1 : Int) (H1 : Heap) (locs1 : List Loc) (ls1 : Array Slot) (k1 n1 : Nat), LJ y E1 σ1 x0 m0 ou t1 t1 → F5 E1 σ1 x0 m0 → tp E1 σ1 x0 m0 → th_H G s.heap.size σ1 H1 → va_S (th_A s.heap.size) s.heap H1 locs1 → lv_has ls1 7 [(4, .int (I i)), (3, .ref ou), (2, .ref m0), (1, .ref x0), (0, .ref b)] → k1 ≤ cells + 200 → n1 ≤ slots + 9800 → W p l e room_1 s m #[Value.ref b] below meth c H1 locs1 k1 n1 Q (F0 m 1173 ls1 [])) : W p l e room_1 s m #[Value.ref b] below meth c H locs cells slots Q (F0 m 241 ls []) := by
  obtain ⟨hx, hb, hr, hml, hown, hts, hX, hbl, hlocks, hgv⟩ := C0
  have hbA : ¬ th_A s.heap.size b := Nat.not_le.mpr hbl
  obtain ⟨a1, ra1, ea1⟩ : ∃ z : Int, rng z ∧ xs (I (i + 1)).toNatClampNeg = I z := ⟨_, rng_toInt _, (I_of _).symm⟩
  refine lv_aload_n hx hb dL_law_241 rfl (lv_at hl 3 rfl) ?_
  refine lv_aload_n hx hb dL_law_242 rfl (lv_at hl 4 rfl) ?_
  refine lv_iload hx hb dL_law_243 (lv_at hl 0 rfl) ?_
  refine lv_iconst (v := I 1) hx hb dL_law_245 (by decide) ?_
  refine lv_iadd hx hb dL_law_246 ?_
  refine nq_top (I_add _ _) ?_
  refine va_sld hx hb hX hbl hbA hS (i := I (i + 1)) (I_in ⟨by omega, by omega⟩ (by omega) (by omega)) dL_law_247 ?_
  refine nq_top ea1 ?_
  refine lv_aload_n hx hb dL_law_248 rfl (lv_at hl 1 rfl) ?_
  obtain ⟨fo1, hf2⟩ := hJ.2.2.2.2.1
  refine th_calli (vx_runSW (hh := [(0, 9, 12, 13)]) (As := [.ref x0, .int (I a1), .ref ou]) (rest := []) ⟨hx, hb, hml, hown, hts⟩ (w_tree l hl0 G y s.heap.size σ E hJ.1 x0 hJ.2.1 m0 hJ.2.2.1 ou hJ.2.2.2.1 fo1 hf2 a1 ra1 hT.byt hI.2.2.2.1) (vx_cwSW 3 hts gv_L_tree_71 rfl rfl rfl (by decide +kernel) ⟨Nat.le_of_ble_eq_true rfl, Nat.le_of_ble_eq_true rfl⟩) (th_PXS hK hXs hS hH) rfl rfl hl.1 rfl (lv_room (Nat.le_of_ble_eq_true rfl)) dL_law_249 ⟨show _ + _ ≤ 601024 by omega, show _ + _ ≤ 7293034 by omega⟩) hS (fun z3 σ5 H locs rz3 hw4 hH hS => ?_)
  obtain ⟨E6, hX7, hO8, hF9, hf10, hw4⟩ := hw4
  have hJ11 := hJ.cls hX7 hO8 hF9 (by decide) hf10 rfl
  have hthJ11 := hJ11.tapm
  have huhJ11 := hJ.tapx
  have hvhJ11 := hJ.tapm
  have m116 := fx.m0 hJ hF9 (by decide) 21
  have rm12 := hJ.row6 hX7 hF9 (by decide)
  have m814 := hJ.row8 hX7 hF9 (by decide)
  have hT13 := hT.cls hw4.rq rm12
  have hc7 := hw4.c
  rcases hw4.road with ⟨⟨h9p, h9s⟩, T, v7, p7, q71, q72, q73⟩ | ⟨h9p, q71, q72⟩
  · clear hw4
    refine lv_istore (lv' := [(5, .int (I z3)), (4, .int (I i)), (3, .ref ou), (2, .ref m0), (1, .ref x0), (0, .ref b)]) hx hb dL_law_252 hl (by decide) rfl (fun ls hl => ?_)
    refine lv_aload_n hx hb dL_law_254 rfl (lv_at hl 3 rfl) ?_
    refine lv_aload_n hx hb dL_law_255 rfl (lv_at hl 5 rfl) ?_
    refine lv_iload hx hb dL_law_256 (lv_at hl 1 rfl) ?_
    refine lv_iconst (v := I 1) hx hb dL_law_258 (by decide) ?_
    refine lv_iadd hx hb dL_law_259 ?_
    refine nq_top (I_add _ _) ?_
    refine va_sld hx hb hX hbl hbA hS (i := I (i + 1)) (I_in ⟨by omega, by omega⟩ (by omega) (by omega)) dL_law_260 ?_
    refine nq_top ea1 ?_
    obtain ⟨_, hc17⟩ := hJ11.1.cell hJ11.2.2.1 (by decide) (ci := 11) rfl
    refine th_calli (va_runV (As := [.int (I a1)]) (rest := []) ⟨hx, hb, hml, hown, hts⟩ (j9_tree l G y s.heap.size σ5 E6 hJ11.1 m0 hJ11.2.2.1 a1 ra1 _ rfl _ rfl _ rfl _ rfl _ rfl _ rfl _ rfl _ rfl _ rfl _ rfl _ rfl _ rfl _ rfl T (fun h9 => by rw [rm12, hT.byf (by omega)]; exact q71) hJ11.jw) (cwV 1 hts gv_X11_tree_76 rfl rfl rfl (by decide +kernel) ⟨Nat.le_of_ble_eq_true rfl, Nat.le_of_ble_eq_true rfl⟩) (th_PV hK hH rfl hc17) rfl rfl hl.1 rfl (lv_room (Nat.le_of_ble_eq_true rfl)) dL_law_261 ⟨show _ + _ ≤ 601024 by omega, show _ + _ ≤ 7293034 by omega⟩) hS (fun z20 σ19 H locs rz20 hw18 hH hS => ?_)
    obtain ⟨hO22, hF23, hM24, ⟨hq26, hw18⟩, hw32⟩ := hw18
    replace hw32 := hid.mk hw32
    have hwhJ25 := hJ11.tapm
    have hJ25 := hJ11.ref hO22 hF23 hM24 hq26 (show gI σ19 m0 12 = (gI σ5 x0 1) by omega)
    have rx33 := fr.af hJ11.1 hF23 hJ11.2.1 (by decide) (by decide) k12_0 isA1
    have hchJ25 := fr.ki hJ11.1 hF23 hJ11.2.1 (by decide) (by decide) 1
    have hT34 := hT13.ref rx33 (hM24.a (by decide) (by decide)) hchJ25
    have x230 := fr.ki hJ11.1 hF23 hJ11.2.1 (by decide) (by decide) 2
    have xq31 := fr.aq hJ11.1 hF23 hJ11.2.1 (by decide) (by decide) k12_3
    have m829 : aF σ19 (ad E6 m0 8) = aF σ5 (ad E6 m0 8) := hM24.a (by decide) (by decide)
    obtain ⟨p8, q81, q82⟩ := (hid.out hw32).1 (by omega)
    have q83 := (q81.det q72.1).2
    have m128 : gI σ19 x0 2 = gI σ19 m0 21 := by omega
    have hI27 : F5 E6 σ19 x0 m0 := hI.go hX7 hJ.2.1 m128 (by rw [xq31, m829, q72.2, m814]; exact hI.2.1)
    refine lv_istore (lv' := [(6, .int (I z20)), (5, .int (I z3)), (4, .int (I i)), (3, .ref ou), (2, .ref m0), (1, .ref x0), (0, .ref b)]) hx hb dL_law_264 hl (by decide) rfl (fun ls hl => ?_)
    refine lv_goto (tgt := 1173) hx hb dL_law_266 (by decide) ?_
    exact kk _ _ _ _ _ _ _ _ hJ25 hI27 hT34 hH hS (lv_sub hl [2, 3, 4, 5, 6] rfl) (by omega) (by omega)
  · clear hw4
    refine lv_istore (lv' := [(5, .int (I z3)), (4, .int (I i)), (3, .ref ou), (2, .ref m0), (1, .ref x0), (0, .ref b)]) hx hb dL_law_252 hl (by decide) rfl (fun ls hl => ?_)
    refine lv_aload_n hx hb dL_law_254 rfl (lv_at hl 3 rfl) ?_
    refine lv_aload_n hx hb dL_law_255 rfl (lv_at hl 5 rfl) ?_
    refine lv_iload hx hb dL_law_256 (lv_at hl 1 rfl) ?_
    refine lv_iconst (v := I 1) hx hb dL_law_258 (by decide) ?_
    refine lv_iadd hx hb dL_law_259 ?_
    refine nq_top (I_add _ _) ?_
    refine va_sld hx hb hX hbl hbA hS (i := I (i + 1)) (I_in ⟨by omega, by omega⟩ (by omega) (by omega)) dL_law_260 ?_
    refine nq_top ea1 ?_
    obtain ⟨_, hc35⟩ := hJ11.1.cell hJ11.2.2.1 (by decide) (ci := 11) rfl
    refine th_calli (va_runV (As := [.int (I a1)]) (rest := []) ⟨hx, hb, hml, hown, hts⟩ (j9_tree l G y s.heap.size σ5 E6 hJ11.1 m0 hJ11.2.2.1 a1 ra1 _ rfl _ rfl _ rfl _ rfl _ rfl _ rfl _ rfl _ rfl _ rfl _ rfl _ rfl _ rfl _ rfl ((fun _ => 0, fun _ => 0, fun _ => 0, fun _ => 0, 0) : tkT) (fun h9 => by exact absurd ⟨by omega, trivial⟩ h9p) hJ11.jw) (cwV 1 hts gv_X11_tree_76 rfl rfl rfl (by decide +kernel) ⟨Nat.le_of_ble_eq_true rfl, Nat.le_of_ble_eq_true rfl⟩) (th_PV hK hH rfl hc35) rfl rfl hl.1 rfl (lv_room (Nat.le_of_ble_eq_true rfl)) dL_law_261 ⟨show _ + _ ≤ 601024 by omega, show _ + _ ≤ 7293034 by omega⟩) hS (fun z38 σ37 H locs rz38 hw36 hH hS => ?_)
    obtain ⟨hO40, hF41, hM42, ⟨hq44, hw36⟩, hw50⟩ := hw36
    replace hw50 := hid.mk hw50
    have hwhJ43 := hJ11.tapm
    have hJ43 := hJ11.ref hO40 hF41 hM42 hq44 (show gI σ37 m0 12 = (gI σ5 x0 1) by omega)
    have rx51 := fr.af hJ11.1 hF41 hJ11.2.1 (by decide) (by decide) k12_0 isA1
    have hchJ43 := fr.ki hJ11.1 hF41 hJ11.2.1 (by decide) (by decide) 1
    have hT52 := hT13.ref rx51 (hM42.a (by decide) (by decide)) hchJ43
    have x248 := fr.ki hJ11.1 hF41 hJ11.2.1 (by decide) (by decide) 2
    have xq49 := fr.aq hJ11.1 hF41 hJ11.2.1 (by decide) (by decide) k12_3
    have m847 : aF σ37 (ad E6 m0 8) = aF σ5 (ad E6 m0 8) := hM42.a (by decide) (by decide)
    have q82 := (hid.out hw50).2 (fun h9 => h9p ⟨by omega, trivial⟩)
    have q89 := hI.1
    have m146 : gI σ37 x0 2 = gI σ37 m0 21 := by omega
    have hI45 : F5 E6 σ37 x0 m0 := hI.go hX7 hJ.2.1 m146 (by rw [xq49, m847, q72, m814]; exact hI.2.1)
    refine lv_istore (lv' := [(6, .int (I z38)), (5, .int (I z3)), (4, .int (I i)), (3, .ref ou), (2, .ref m0), (1, .ref x0), (0, .ref b)]) hx hb dL_law_264 hl (by decide) rfl (fun ls hl => ?_)
    refine lv_goto (tgt := 1173) hx hb dL_law_266 (by decide) ?_
    exact kk _ _ _ _ _ _ _ _ hJ43 hI45 hT52 hH hS (lv_sub hl [2, 3, 4, 5, 6] rfl) (by omega) (by omega)

set_option maxHeartbeats 400000 in
set_option maxRecDepth 100000 in
theorem lc_2 {p : Program} {e : Env} {s : State} {m : MethodId} {below : List Frame} {meth : Method} {c : Code} {l : Launch} {b L : Nat} {xs : Nat → Int32} {G : va_G} {y : Nat → ClassId} (hl0 : l.stackTraces = false) (C0 : lw_At p s m meth c b L xs) (hK : nq_K G y s) (hXs : nq_X (th_A s.heap.size) s) {E : th_E} {σ : th_M} {x0 m0 ou : Nat} {t i : Int} (hL : L ≤ 3072) (hi0 : 0 ≤ i) (hi1 : i + 6 ≤ L) (hJ : LJ y E σ x0 m0 ou t t) (hI : F5 E σ x0 m0) (hT : tp E σ x0 m0) {H : Heap} {locs : List Loc} {ls : Array Slot} {cells slots : Nat} (hH : th_H G s.heap.size σ H) (hS : va_S (th_A s.heap.size) s.heap H locs) (hl : lv_has ls 7 [(4, .int (I i)), (3, .ref ou), (2, .ref m0), (1, .ref x0), (0, .ref b)]) (hc0 : cells + 200 ≤ 601024) (hs0 : slots + 9800 ≤ 7293034) {Q : State → Prop} (kk : ∀ (E1 : th_E) (σ1 : th_M) (t1 : Int) (H1 : Heap) (locs1 : List Loc) (ls1 : Array Slot) (k1 n1 : Nat), LJ y E1 σ1 x0 m0 ou t1 t1 → F5 E1 σ1 x0 m0 → tp E1 σ1 x0 m0 → th_H G s.heap.size σ1 H1 → va_S (th_A s.heap.size) s.heap H1 locs1 → lv_has ls1 7 [(4, .int (I i)), (3, .ref ou), (2, .ref m0), (1, .ref x0), (0, .ref b)] → k1 ≤ cells + 200 → n1 ≤ slots + 9800 → W p l e room_1 s m #[Value.ref b] below meth c H1 locs1 k1 n1 Q (F0 m 1173 ls1 [])) : W p l e room_1 s m #[Value.ref b] below meth c H locs cells slots Q (F0 m 269 ls []) := by
  obtain ⟨hx, hb, hr, hml, hown, hts, hX, hbl, hlocks, hgv⟩ := C0
  have hbA : ¬ th_A s.heap.size b := Nat.not_le.mpr hbl
  obtain ⟨a1, ra1, ea1⟩ : ∃ z : Int, rng z ∧ xs (I (i + 1)).toNatClampNeg = I z := ⟨_, rng_toInt _, (I_of _).symm⟩
  obtain ⟨a2, ra2, ea2⟩ : ∃ z : Int, rng z ∧ xs (I (i + 2)).toNatClampNeg = I z := ⟨_, rng_toInt _, (I_of _).symm⟩
  refine lv_aload_n hx hb dL_law_269 rfl (lv_at hl 3 rfl) ?_
  refine lv_aload_n hx hb dL_law_270 rfl (lv_at hl 4 rfl) ?_
  refine lv_iload hx hb dL_law_271 (lv_at hl 0 rfl) ?_
  refine lv_iconst (v := I 1) hx hb dL_law_273 (by decide) ?_
  refine lv_iadd hx hb dL_law_274 ?_
  refine nq_top (I_add _ _) ?_
  refine va_sld hx hb hX hbl hbA hS (i := I (i + 1)) (I_in ⟨by omega, by omega⟩ (by omega) (by omega)) dL_law_275 ?_
  refine nq_top ea1 ?_
  refine lv_aload_n hx hb dL_law_276 rfl (lv_at hl 4 rfl) ?_
  refine lv_iload hx hb dL_law_277 (lv_at hl 0 rfl) ?_
  refine lv_iconst (v := I 2) hx hb dL_law_279 (by decide) ?_
  refine lv_iadd hx hb dL_law_280 ?_
  refine nq_top (I_add _ _) ?_
  refine va_sld hx hb hX hbl hbA hS (i := I (i + 2)) (I_in ⟨by omega, by omega⟩ (by omega) (by omega)) dL_law_281 ?_
  refine nq_top ea2 ?_
  refine lv_aload_n hx hb dL_law_282 rfl (lv_at hl 1 rfl) ?_
  obtain ⟨fo1, hf2⟩ := hJ.2.2.2.2.1
  refine th_calli (vx_runSW (hh := [(0, 10, 13, 19), (0, 10, 17, 13)]) (As := [.ref x0, .int (I a1), .int (I a2), .ref ou]) (rest := []) ⟨hx, hb, hml, hown, hts⟩ (w_path l hl0 G y s.heap.size σ E hJ.1 x0 hJ.2.1 m0 hJ.2.2.1 ou hJ.2.2.2.1 fo1 hf2 a1 ra1 a2 ra2 hT.byt hI.2.2.2.2) (vx_cwSW 4 hts gv_L_path_77 rfl rfl rfl (by decide +kernel) ⟨Nat.le_of_ble_eq_true rfl, Nat.le_of_ble_eq_true rfl⟩) (th_PXS hK hXs hS hH) rfl rfl hl.1 rfl (lv_room (Nat.le_of_ble_eq_true rfl)) dL_law_283 ⟨show _ + _ ≤ 601024 by omega, show _ + _ ≤ 7293034 by omega⟩) hS (fun z3 σ5 H locs rz3 hw4 hH hS => ?_)
  obtain ⟨E6, hX7, hO8, hF9, hf10, hw4⟩ := hw4
  have hJ11 := hJ.cls hX7 hO8 hF9 (by decide) hf10 rfl
  have hthJ11 := hJ11.tapm
  have huhJ11 := hJ.tapx
  have hvhJ11 := hJ.tapm
  have m116 := fx.m0 hJ hF9 (by decide) 21
  have rm12 := hJ.row6 hX7 hF9 (by decide)
  have m814 := hJ.row8 hX7 hF9 (by decide)
  have hT13 := hT.cls hw4.rq rm12
  have hc7 := hw4.c
  rcases hw4.road with ⟨⟨h9p, h9s⟩, T, v7, p7, q71, q72, q73⟩ | ⟨h9p, q71, q72⟩
  · clear hw4
    refine lv_istore (lv' := [(5, .int (I z3)), (4, .int (I i)), (3, .ref ou), (2, .ref m0), (1, .ref x0), (0, .ref b)]) hx hb dL_law_286 hl (by decide) rfl (fun ls hl => ?_)
    refine lv_aload_n hx hb dL_law_288 rfl (lv_at hl 3 rfl) ?_
    refine lv_aload_n hx hb dL_law_289 rfl (lv_at hl 5 rfl) ?_
    refine lv_iload hx hb dL_law_290 (lv_at hl 1 rfl) ?_
    refine lv_iconst (v := I 1) hx hb dL_law_292 (by decide) ?_
    refine lv_iadd hx hb dL_law_293 ?_
    refine nq_top (I_add _ _) ?_
    refine va_sld hx hb hX hbl hbA hS (i := I (i + 1)) (I_in ⟨by omega, by omega⟩ (by omega) (by omega)) dL_law_294 ?_
    refine nq_top ea1 ?_
    refine lv_aload_n hx hb dL_law_295 rfl (lv_at hl 5 rfl) ?_
    refine lv_iload hx hb dL_law_296 (lv_at hl 1 rfl) ?_
    refine lv_iconst (v := I 2) hx hb dL_law_298 (by decide) ?_
    refine lv_iadd hx hb dL_law_299 ?_
    refine nq_top (I_add _ _) ?_
    refine va_sld hx hb hX hbl hbA hS (i := I (i + 2)) (I_in ⟨by omega, by omega⟩ (by omega) (by omega)) dL_law_300 ?_
    refine nq_top ea2 ?_
    obtain ⟨_, hc17⟩ := hJ11.1.cell hJ11.2.2.1 (by decide) (ci := 11) rfl
    refine th_calli (va_runV (As := [.int (I a1), .int (I a2)]) (rest := []) ⟨hx, hb, hml, hown, hts⟩ (j9_path l G y s.heap.size σ5 E6 hJ11.1 m0 hJ11.2.2.1 a1 ra1 a2 ra2 _ rfl _ rfl _ rfl _ rfl _ rfl _ rfl _ rfl _ rfl _ rfl _ rfl _ rfl _ rfl _ rfl T (fun h9 => by rw [rm12, hT.byf (by omega)]; exact q71) hJ11.jw) (cwV 2 hts gv_X11_path_80 rfl rfl rfl (by decide +kernel) ⟨Nat.le_of_ble_eq_true rfl, Nat.le_of_ble_eq_true rfl⟩) (th_PV hK hH rfl hc17) rfl rfl hl.1 rfl (lv_room (Nat.le_of_ble_eq_true rfl)) dL_law_301 ⟨show _ + _ ≤ 601024 by omega, show _ + _ ≤ 7293034 by omega⟩) hS (fun z20 σ19 H locs rz20 hw18 hH hS => ?_)
    obtain ⟨hO22, hF23, hM24, ⟨hq26, hw18⟩, hw32⟩ := hw18
    replace hw32 := hid.mk hw32
    have hwhJ25 := hJ11.tapm
    have hJ25 := hJ11.ref hO22 hF23 hM24 hq26 (show gI σ19 m0 12 = (gI σ5 x0 1) by omega)
    have rx33 := fr.af hJ11.1 hF23 hJ11.2.1 (by decide) (by decide) k12_0 isA1
    have hchJ25 := fr.ki hJ11.1 hF23 hJ11.2.1 (by decide) (by decide) 1
    have hT34 := hT13.ref rx33 (hM24.a (by decide) (by decide)) hchJ25
    have x230 := fr.ki hJ11.1 hF23 hJ11.2.1 (by decide) (by decide) 2
    have xq31 := fr.aq hJ11.1 hF23 hJ11.2.1 (by decide) (by decide) k12_3
    obtain ⟨zt9, et9, -, lt9, ut9⟩ := ok.gi hJ.1 hJ.2.1 (by decide) k12_1
    obtain ⟨q81, q84, q85⟩ := (hid.out hw32).1 (by omega)
    have q83 := (q81.det q72.1).2
    have q86 := (q81.det q72.1).1
    have m128 : gI σ19 x0 2 = gI σ19 m0 21 := by omega
    have hI27 : F5 E6 σ19 x0 m0 := hI.go hX7 hJ.2.1 m128 (pth.path (sl := a1) (n := a2) hI.2.1 (by omega) (by omega) (q86.symm) (fun h9 => xq31.trans (q72.2.1 h9)) (fun h9 => by obtain ⟨u, h8⟩ := q72.2.2 h9; exact ⟨u, xq31.trans h8⟩) (fun h9 => (q84 h9).trans m814) (fun h9 => by rw [← m814]; exact q85 h9))
    refine lv_istore (lv' := [(6, .int (I z20)), (5, .int (I z3)), (4, .int (I i)), (3, .ref ou), (2, .ref m0), (1, .ref x0), (0, .ref b)]) hx hb dL_law_304 hl (by decide) rfl (fun ls hl => ?_)
    refine lv_goto (tgt := 1173) hx hb dL_law_306 (by decide) ?_
    exact kk _ _ _ _ _ _ _ _ hJ25 hI27 hT34 hH hS (lv_sub hl [2, 3, 4, 5, 6] rfl) (by omega) (by omega)
  · clear hw4
    refine lv_istore (lv' := [(5, .int (I z3)), (4, .int (I i)), (3, .ref ou), (2, .ref m0), (1, .ref x0), (0, .ref b)]) hx hb dL_law_286 hl (by decide) rfl (fun ls hl => ?_)
    refine lv_aload_n hx hb dL_law_288 rfl (lv_at hl 3 rfl) ?_
    refine lv_aload_n hx hb dL_law_289 rfl (lv_at hl 5 rfl) ?_
    refine lv_iload hx hb dL_law_290 (lv_at hl 1 rfl) ?_
    refine lv_iconst (v := I 1) hx hb dL_law_292 (by decide) ?_
    refine lv_iadd hx hb dL_law_293 ?_
    refine nq_top (I_add _ _) ?_
    refine va_sld hx hb hX hbl hbA hS (i := I (i + 1)) (I_in ⟨by omega, by omega⟩ (by omega) (by omega)) dL_law_294 ?_
    refine nq_top ea1 ?_
    refine lv_aload_n hx hb dL_law_295 rfl (lv_at hl 5 rfl) ?_
    refine lv_iload hx hb dL_law_296 (lv_at hl 1 rfl) ?_
    refine lv_iconst (v := I 2) hx hb dL_law_298 (by decide) ?_
    refine lv_iadd hx hb dL_law_299 ?_
    refine nq_top (I_add _ _) ?_
    refine va_sld hx hb hX hbl hbA hS (i := I (i + 2)) (I_in ⟨by omega, by omega⟩ (by omega) (by omega)) dL_law_300 ?_
    refine nq_top ea2 ?_
    obtain ⟨_, hc35⟩ := hJ11.1.cell hJ11.2.2.1 (by decide) (ci := 11) rfl
    refine th_calli (va_runV (As := [.int (I a1), .int (I a2)]) (rest := []) ⟨hx, hb, hml, hown, hts⟩ (j9_path l G y s.heap.size σ5 E6 hJ11.1 m0 hJ11.2.2.1 a1 ra1 a2 ra2 _ rfl _ rfl _ rfl _ rfl _ rfl _ rfl _ rfl _ rfl _ rfl _ rfl _ rfl _ rfl _ rfl ((fun _ => 0, fun _ => 0, fun _ => 0, fun _ => 0, 0) : tkT) (fun h9 => by exact absurd ⟨by omega, trivial⟩ h9p) hJ11.jw) (cwV 2 hts gv_X11_path_80 rfl rfl rfl (by decide +kernel) ⟨Nat.le_of_ble_eq_true rfl, Nat.le_of_ble_eq_true rfl⟩) (th_PV hK hH rfl hc35) rfl rfl hl.1 rfl (lv_room (Nat.le_of_ble_eq_true rfl)) dL_law_301 ⟨show _ + _ ≤ 601024 by omega, show _ + _ ≤ 7293034 by omega⟩) hS (fun z38 σ37 H locs rz38 hw36 hH hS => ?_)
    obtain ⟨hO40, hF41, hM42, ⟨hq44, hw36⟩, hw50⟩ := hw36
    replace hw50 := hid.mk hw50
    have hwhJ43 := hJ11.tapm
    have hJ43 := hJ11.ref hO40 hF41 hM42 hq44 (show gI σ37 m0 12 = (gI σ5 x0 1) by omega)
    have rx51 := fr.af hJ11.1 hF41 hJ11.2.1 (by decide) (by decide) k12_0 isA1
    have hchJ43 := fr.ki hJ11.1 hF41 hJ11.2.1 (by decide) (by decide) 1
    have hT52 := hT13.ref rx51 (hM42.a (by decide) (by decide)) hchJ43
    have x248 := fr.ki hJ11.1 hF41 hJ11.2.1 (by decide) (by decide) 2
    have xq49 := fr.aq hJ11.1 hF41 hJ11.2.1 (by decide) (by decide) k12_3
    obtain ⟨q82, q84⟩ := (hid.out hw50).2 (fun h9 => h9p ⟨by omega, trivial⟩)
    have q89 := hI.1
    have m146 : gI σ37 x0 2 = gI σ37 m0 21 := by omega
    have hI45 : F5 E6 σ37 x0 m0 := hI.go hX7 hJ.2.1 m146 (by rw [xq49, q84, q72, m814]; exact hI.2.1)
    refine lv_istore (lv' := [(6, .int (I z38)), (5, .int (I z3)), (4, .int (I i)), (3, .ref ou), (2, .ref m0), (1, .ref x0), (0, .ref b)]) hx hb dL_law_304 hl (by decide) rfl (fun ls hl => ?_)
    refine lv_goto (tgt := 1173) hx hb dL_law_306 (by decide) ?_
    exact kk _ _ _ _ _ _ _ _ hJ43 hI45 hT52 hH hS (lv_sub hl [2, 3, 4, 5, 6] rfl) (by omega) (by omega)

set_option maxHeartbeats 400000 in
set_option maxRecDepth 100000 in
theorem lc_3 {p : Program} {e : Env} {s : State} {m : MethodId} {below : List Frame} {meth : Method} {c : Code} {l : Launch} {b L : Nat} {xs : Nat → Int32} {G : va_G} {y : Nat → ClassId} (hl0 : l.stackTraces = false) (C0 : lw_At p s m meth c b L xs) (hK : nq_K G y s) (hXs : nq_X (th_A s.heap.size) s) {E : th_E} {σ : th_M} {x0 m0 ou : Nat} {t i : Int} (hL : L ≤ 3072) (hi0 : 0 ≤ i) (hi1 : i + 6 ≤ L) (hJ : LJ y E σ x0 m0 ou t t) (hI : F5 E σ x0 m0) (hT : tp E σ x0 m0) {H : Heap} {locs : List Loc} {ls : Array Slot} {cells slots : Nat} (hH : th_H G s.heap.size σ H) (hS : va_S (th_A s.heap.size) s.heap H locs) (hl : lv_has ls 7 [(4, .int (I i)), (3, .ref ou), (2, .ref m0), (1, .ref x0), (0, .ref b)]) (hc0 : cells + 200 ≤ 601024) (hs0 : slots + 9800 ≤ 7293034) {Q : State → Prop} (kk : ∀ (E1 : th_E) (σ1 : th_M) (t1 : Int) (H1 : Heap) (locs1 : List Loc) (ls1 : Array Slot) (k1 n1 : Nat), LJ y E1 σ1 x0 m0 ou t1 t1 → F5 E1 σ1 x0 m0 → tp E1 σ1 x0 m0 → th_H G s.heap.size σ1 H1 → va_S (th_A s.heap.size) s.heap H1 locs1 → lv_has ls1 7 [(4, .int (I i)), (3, .ref ou), (2, .ref m0), (1, .ref x0), (0, .ref b)] → k1 ≤ cells + 200 → n1 ≤ slots + 9800 → W p l e room_1 s m #[Value.ref b] below meth c H1 locs1 k1 n1 Q (F0 m 1173 ls1 [])) : W p l e room_1 s m #[Value.ref b] below meth c H locs cells slots Q (F0 m 309 ls []) := by
  obtain ⟨hx, hb, hr, hml, hown, hts, hX, hbl, hlocks, hgv⟩ := C0
  have hbA : ¬ th_A s.heap.size b := Nat.not_le.mpr hbl
  refine lv_aload_n hx hb dL_law_309 rfl (lv_at hl 3 rfl) ?_
  obtain ⟨_, hc1⟩ := hJ.1.cell hJ.2.1 (by decide) (ci := 10) rfl
  refine th_calli (va_runV (As := []) (rest := []) ⟨hx, hb, hml, hown, hts⟩ (q_fault l G y s.heap.size σ E hJ.1 x0 hJ.2.1 ) (cwV 0 hts gv_X10_fault_81 rfl rfl rfl (by decide +kernel) ⟨Nat.le_of_ble_eq_true rfl, Nat.le_of_ble_eq_true rfl⟩) (th_PV hK hH rfl hc1) rfl rfl hl.1 rfl (lv_room (Nat.le_of_ble_eq_true rfl)) dL_law_310 ⟨show _ + _ ≤ 601024 by omega, show _ + _ ≤ 7293034 by omega⟩) hS (fun z4 σ3 H locs rz4 hw2 hH hS => ?_)
  obtain ⟨e16, hw2⟩ := hw2
  replace e16 := e16.symm
  subst e16
  have hI1 := hI.1
  refine lv_aload_n hx hb dL_law_313 rfl (lv_at hl 2 rfl) ?_
  obtain ⟨_, hc17⟩ := hJ.1.cell hJ.2.2.1 (by decide) (ci := 11) rfl
  refine th_calli (va_runV (As := []) (rest := [.int (I z4)]) ⟨hx, hb, hml, hown, hts⟩ (j9_fault l G y s.heap.size σ E hJ.1 m0 hJ.2.2.1  _ rfl _ rfl _ rfl _ rfl _ rfl _ rfl _ rfl _ rfl _ rfl _ rfl _ rfl hJ.jw) (cwV 0 hts gv_X11_fault_85 rfl rfl rfl (by decide +kernel) ⟨Nat.le_of_ble_eq_true rfl, Nat.le_of_ble_eq_true rfl⟩) (th_PV hK hH rfl hc17) rfl rfl hl.1 rfl (lv_room (Nat.le_of_ble_eq_true rfl)) dL_law_314 ⟨show _ + _ ≤ 601024 by omega, show _ + _ ≤ 7293034 by omega⟩) hS (fun z20 σ19 H locs rz20 hw18 hH hS => ?_)
  obtain ⟨hO22, hF23, hM24, ⟨hq26, hw18⟩, hw32⟩ := hw18
  replace hw32 := hid.mk hw32
  have hwhJ25 := hJ.tapm
  have hJ25 := hJ.ref hO22 hF23 hM24 hq26 (show gI σ19 m0 12 = t by omega)
  have rx33 := fr.af hJ.1 hF23 hJ.2.1 (by decide) (by decide) k12_0 isA1
  have hchJ25 := fr.ki hJ.1 hF23 hJ.2.1 (by decide) (by decide) 1
  have hT34 := hT.ref rx33 (hM24.a (by decide) (by decide)) hchJ25
  have x230 := fr.ki hJ.1 hF23 hJ.2.1 (by decide) (by decide) 2
  have xq31 := fr.aq hJ.1 hF23 hJ.2.1 (by decide) (by decide) k12_3
  have m829 : aF σ19 (ad E m0 8) = aF σ (ad E m0 8) := hM24.a (by decide) (by decide)
  have m128 := hM24.i (k := 21) (by decide)
  have hf9 := hid.out hw32
  have hI27 := hI.keep ext.rf hJ.2.1 x230 xq31 m128 m829
  refine lv_icmp_eq (tgt := 1173) hx hb dL_law_317 (by decide) (fun _ => ?_) (fun h9 => absurd (by rw [show z4 = z20 by omega]) h9)
  exact kk _ _ _ _ _ _ _ _ hJ25 hI27 hT34 hH hS (lv_sub hl [0, 1, 2, 3, 4] rfl) (by omega) (by omega)

set_option maxHeartbeats 400000 in
set_option maxRecDepth 100000 in
theorem lc_4 {p : Program} {e : Env} {s : State} {m : MethodId} {below : List Frame} {meth : Method} {c : Code} {l : Launch} {b L : Nat} {xs : Nat → Int32} {G : va_G} {y : Nat → ClassId} (hl0 : l.stackTraces = false) (C0 : lw_At p s m meth c b L xs) (hK : nq_K G y s) (hXs : nq_X (th_A s.heap.size) s) {E : th_E} {σ : th_M} {x0 m0 ou : Nat} {t i : Int} (hL : L ≤ 3072) (hi0 : 0 ≤ i) (hi1 : i + 6 ≤ L) (hJ : LJ y E σ x0 m0 ou t t) (hI : F5 E σ x0 m0) (hT : tp E σ x0 m0) {H : Heap} {locs : List Loc} {ls : Array Slot} {cells slots : Nat} (hH : th_H G s.heap.size σ H) (hS : va_S (th_A s.heap.size) s.heap H locs) (hl : lv_has ls 7 [(4, .int (I i)), (3, .ref ou), (2, .ref m0), (1, .ref x0), (0, .ref b)]) (hc0 : cells + 200 ≤ 601024) (hs0 : slots + 9800 ≤ 7293034) {Q : State → Prop} (kk : ∀ (E1 : th_E) (σ1 : th_M) (t1 : Int) (H1 : Heap) (locs1 : List Loc) (ls1 : Array Slot) (k1 n1 : Nat), LJ y E1 σ1 x0 m0 ou t1 t1 → F5 E1 σ1 x0 m0 → tp E1 σ1 x0 m0 → th_H G s.heap.size σ1 H1 → va_S (th_A s.heap.size) s.heap H1 locs1 → lv_has ls1 7 [(4, .int (I i)), (3, .ref ou), (2, .ref m0), (1, .ref x0), (0, .ref b)] → k1 ≤ cells + 200 → n1 ≤ slots + 9800 → W p l e room_1 s m #[Value.ref b] below meth c H1 locs1 k1 n1 Q (F0 m 1173 ls1 [])) : W p l e room_1 s m #[Value.ref b] below meth c H locs cells slots Q (F0 m 322 ls []) := by
  obtain ⟨hx, hb, hr, hml, hown, hts, hX, hbl, hlocks, hgv⟩ := C0
  have hbA : ¬ th_A s.heap.size b := Nat.not_le.mpr hbl
  obtain ⟨a1, ra1, ea1⟩ : ∃ z : Int, rng z ∧ xs (I (i + 1)).toNatClampNeg = I z := ⟨_, rng_toInt _, (I_of _).symm⟩
  refine lv_aload_n hx hb dL_law_322 rfl (lv_at hl 3 rfl) ?_
  refine lv_aload_n hx hb dL_law_323 rfl (lv_at hl 4 rfl) ?_
  refine lv_iload hx hb dL_law_324 (lv_at hl 0 rfl) ?_
  refine lv_iconst (v := I 1) hx hb dL_law_326 (by decide) ?_
  refine lv_iadd hx hb dL_law_327 ?_
  refine nq_top (I_add _ _) ?_
  refine va_sld hx hb hX hbl hbA hS (i := I (i + 1)) (I_in ⟨by omega, by omega⟩ (by omega) (by omega)) dL_law_328 ?_
  refine nq_top ea1 ?_
  refine lv_aload_n hx hb dL_law_329 rfl (lv_at hl 1 rfl) ?_
  obtain ⟨fo1, hf2⟩ := hJ.2.2.2.2.1
  refine th_calli (vx_runSW (hh := [(0, 9, 12, 19)]) (As := [.ref x0, .int (I a1), .ref ou]) (rest := []) ⟨hx, hb, hml, hown, hts⟩ (w_count l hl0 G y s.heap.size σ E hJ.1 x0 hJ.2.1 m0 hJ.2.2.1 ou hJ.2.2.2.1 fo1 hf2 a1 ra1) (vx_cwSW 3 hts gv_L_count_86 rfl rfl rfl (by decide +kernel) ⟨Nat.le_of_ble_eq_true rfl, Nat.le_of_ble_eq_true rfl⟩) (th_PXS hK hXs hS hH) rfl rfl hl.1 rfl (lv_room (Nat.le_of_ble_eq_true rfl)) dL_law_330 ⟨show _ + _ ≤ 601024 by omega, show _ + _ ≤ 7293034 by omega⟩) hS (fun z3 σ5 H locs rz3 hw4 hH hS => ?_)
  obtain ⟨E6, hX7, hO8, hF9, hf10, hw4⟩ := hw4
  have hJ11 := hJ.cls hX7 hO8 hF9 (by decide) hf10 rfl
  have hthJ11 := hJ11.tapm
  have huhJ11 := hJ.tapx
  have hvhJ11 := hJ.tapm
  have m116 := fx.m0 hJ hF9 (by decide) 21
  have rm12 := hJ.row6 hX7 hF9 (by decide)
  have m814 := hJ.row8 hX7 hF9 (by decide)
  have hT13 := hT.cls (Or.inr ⟨hw4.2.1, by omega⟩) rm12
  have hI15 := hI.keep hX7 hJ.2.1 hw4.1.2 hw4.2.2 m116 m814
  replace hw4 := hw4.1
  refine lv_istore (lv' := [(5, .int (I z3)), (4, .int (I i)), (3, .ref ou), (2, .ref m0), (1, .ref x0), (0, .ref b)]) hx hb dL_law_333 hl (by decide) rfl (fun ls hl => ?_)
  refine lv_aload_n hx hb dL_law_335 rfl (lv_at hl 3 rfl) ?_
  refine lv_aload_n hx hb dL_law_336 rfl (lv_at hl 5 rfl) ?_
  refine lv_iload hx hb dL_law_337 (lv_at hl 1 rfl) ?_
  refine lv_iconst (v := I 1) hx hb dL_law_339 (by decide) ?_
  refine lv_iadd hx hb dL_law_340 ?_
  refine nq_top (I_add _ _) ?_
  refine va_sld hx hb hX hbl hbA hS (i := I (i + 1)) (I_in ⟨by omega, by omega⟩ (by omega) (by omega)) dL_law_341 ?_
  refine nq_top ea1 ?_
  obtain ⟨_, hc17⟩ := hJ11.1.cell hJ11.2.2.1 (by decide) (ci := 11) rfl
  refine th_calli (va_runV (As := [.int (I a1)]) (rest := []) ⟨hx, hb, hml, hown, hts⟩ (j_count l G y s.heap.size σ5 E6 hJ11.1 m0 hJ11.2.2.1 a1 ra1 _ rfl _ rfl _ rfl _ rfl _ rfl _ rfl _ rfl _ rfl _ rfl _ rfl _ rfl _ rfl hJ11.jw) (cwV 1 hts gv_X11_count_88 rfl rfl rfl (by decide +kernel) ⟨Nat.le_of_ble_eq_true rfl, Nat.le_of_ble_eq_true rfl⟩) (th_PV hK hH rfl hc17) rfl rfl hl.1 rfl (lv_room (Nat.le_of_ble_eq_true rfl)) dL_law_342 ⟨show _ + _ ≤ 601024 by omega, show _ + _ ≤ 7293034 by omega⟩) hS (fun z20 σ19 H locs rz20 hw18 hH hS => ?_)
  obtain ⟨hO22, hF23, hM24, hq26, hw18⟩ := hw18
  have hwhJ25 := hJ11.tapm
  have hJ25 := hJ11.ref hO22 hF23 hM24 hq26 (show gI σ19 m0 12 = (gI σ5 x0 1) by omega)
  have rx32 := fr.af hJ11.1 hF23 hJ11.2.1 (by decide) (by decide) k12_0 isA1
  have hchJ25 := fr.ki hJ11.1 hF23 hJ11.2.1 (by decide) (by decide) 1
  have hT33 := hT13.ref rx32 (hM24.a (by decide) (by decide)) hchJ25
  have x230 := fr.ki hJ11.1 hF23 hJ11.2.1 (by decide) (by decide) 2
  have xq31 := fr.aq hJ11.1 hF23 hJ11.2.1 (by decide) (by decide) k12_3
  have m829 : aF σ19 (ad E6 m0 8) = aF σ5 (ad E6 m0 8) := hM24.a (by decide) (by decide)
  have m128 := hM24.i (k := 21) (by decide)
  have hI27 := hI15.keep ext.rf hJ11.2.1 x230 xq31 m128 m829
  refine lv_istore (lv' := [(6, .int (I z20)), (5, .int (I z3)), (4, .int (I i)), (3, .ref ou), (2, .ref m0), (1, .ref x0), (0, .ref b)]) hx hb dL_law_345 hl (by decide) rfl (fun ls hl => ?_)
  refine lv_goto (tgt := 1173) hx hb dL_law_347 (by decide) ?_
  exact kk _ _ _ _ _ _ _ _ hJ25 hI27 hT33 hH hS (lv_sub hl [2, 3, 4, 5, 6] rfl) (by omega) (by omega)

set_option maxHeartbeats 400000 in
set_option maxRecDepth 100000 in
theorem lc_5 {p : Program} {e : Env} {s : State} {m : MethodId} {below : List Frame} {meth : Method} {c : Code} {l : Launch} {b L : Nat} {xs : Nat → Int32} {G : va_G} {y : Nat → ClassId} (hl0 : l.stackTraces = false) (C0 : lw_At p s m meth c b L xs) (hK : nq_K G y s) (hXs : nq_X (th_A s.heap.size) s) {E : th_E} {σ : th_M} {x0 m0 ou : Nat} {t i : Int} (hL : L ≤ 3072) (hi0 : 0 ≤ i) (hi1 : i + 6 ≤ L) (hJ : LJ y E σ x0 m0 ou t t) (hI : F5 E σ x0 m0) (hT : tp E σ x0 m0) {H : Heap} {locs : List Loc} {ls : Array Slot} {cells slots : Nat} (hH : th_H G s.heap.size σ H) (hS : va_S (th_A s.heap.size) s.heap H locs) (hl : lv_has ls 7 [(4, .int (I i)), (3, .ref ou), (2, .ref m0), (1, .ref x0), (0, .ref b)]) (hc0 : cells + 200 ≤ 601024) (hs0 : slots + 9800 ≤ 7293034) {Q : State → Prop} (kk : ∀ (E1 : th_E) (σ1 : th_M) (t1 : Int) (H1 : Heap) (locs1 : List Loc) (ls1 : Array Slot) (k1 n1 : Nat), LJ y E1 σ1 x0 m0 ou t1 t1 → F5 E1 σ1 x0 m0 → tp E1 σ1 x0 m0 → th_H G s.heap.size σ1 H1 → va_S (th_A s.heap.size) s.heap H1 locs1 → lv_has ls1 7 [(4, .int (I i)), (3, .ref ou), (2, .ref m0), (1, .ref x0), (0, .ref b)] → k1 ≤ cells + 200 → n1 ≤ slots + 9800 → W p l e room_1 s m #[Value.ref b] below meth c H1 locs1 k1 n1 Q (F0 m 1173 ls1 [])) : W p l e room_1 s m #[Value.ref b] below meth c H locs cells slots Q (F0 m 350 ls []) := by
  obtain ⟨hx, hb, hr, hml, hown, hts, hX, hbl, hlocks, hgv⟩ := C0
  have hbA : ¬ th_A s.heap.size b := Nat.not_le.mpr hbl
  obtain ⟨a1, ra1, ea1⟩ : ∃ z : Int, rng z ∧ xs (I (i + 1)).toNatClampNeg = I z := ⟨_, rng_toInt _, (I_of _).symm⟩
  obtain ⟨a2, ra2, ea2⟩ : ∃ z : Int, rng z ∧ xs (I (i + 2)).toNatClampNeg = I z := ⟨_, rng_toInt _, (I_of _).symm⟩
  refine lv_aload_n hx hb dL_law_350 rfl (lv_at hl 3 rfl) ?_
  refine lv_aload_n hx hb dL_law_351 rfl (lv_at hl 4 rfl) ?_
  refine lv_iload hx hb dL_law_352 (lv_at hl 0 rfl) ?_
  refine lv_iconst (v := I 1) hx hb dL_law_354 (by decide) ?_
  refine lv_iadd hx hb dL_law_355 ?_
  refine nq_top (I_add _ _) ?_
  refine va_sld hx hb hX hbl hbA hS (i := I (i + 1)) (I_in ⟨by omega, by omega⟩ (by omega) (by omega)) dL_law_356 ?_
  refine nq_top ea1 ?_
  refine lv_aload_n hx hb dL_law_357 rfl (lv_at hl 4 rfl) ?_
  refine lv_iload hx hb dL_law_358 (lv_at hl 0 rfl) ?_
  refine lv_iconst (v := I 2) hx hb dL_law_360 (by decide) ?_
  refine lv_iadd hx hb dL_law_361 ?_
  refine nq_top (I_add _ _) ?_
  refine va_sld hx hb hX hbl hbA hS (i := I (i + 2)) (I_in ⟨by omega, by omega⟩ (by omega) (by omega)) dL_law_362 ?_
  refine nq_top ea2 ?_
  refine lv_aload_n hx hb dL_law_363 rfl (lv_at hl 1 rfl) ?_
  obtain ⟨fo1, hf2⟩ := hJ.2.2.2.2.1
  refine th_calli (vx_runSW (hh := [(0, 10, 13, 19)]) (As := [.ref x0, .int (I a1), .int (I a2), .ref ou]) (rest := []) ⟨hx, hb, hml, hown, hts⟩ (w_thing l hl0 G y s.heap.size σ E hJ.1 x0 hJ.2.1 m0 hJ.2.2.1 ou hJ.2.2.2.1 fo1 hf2 a1 ra1 a2 ra2) (vx_cwSW 4 hts gv_L_thing_89 rfl rfl rfl (by decide +kernel) ⟨Nat.le_of_ble_eq_true rfl, Nat.le_of_ble_eq_true rfl⟩) (th_PXS hK hXs hS hH) rfl rfl hl.1 rfl (lv_room (Nat.le_of_ble_eq_true rfl)) dL_law_364 ⟨show _ + _ ≤ 601024 by omega, show _ + _ ≤ 7293034 by omega⟩) hS (fun z3 σ5 H locs rz3 hw4 hH hS => ?_)
  obtain ⟨E6, hX7, hO8, hF9, hf10, hw4⟩ := hw4
  have hJ11 := hJ.cls hX7 hO8 hF9 (by decide) hf10 rfl
  have hthJ11 := hJ11.tapm
  have huhJ11 := hJ.tapx
  have hvhJ11 := hJ.tapm
  have m116 := fx.m0 hJ hF9 (by decide) 21
  have rm12 := hJ.row6 hX7 hF9 (by decide)
  have m814 := hJ.row8 hX7 hF9 (by decide)
  have hT13 := hT.cls (Or.inr ⟨hw4.2.1, by omega⟩) rm12
  have hI15 := hI.keep hX7 hJ.2.1 hw4.1.2 hw4.2.2 m116 m814
  replace hw4 := hw4.1
  refine lv_istore (lv' := [(5, .int (I z3)), (4, .int (I i)), (3, .ref ou), (2, .ref m0), (1, .ref x0), (0, .ref b)]) hx hb dL_law_367 hl (by decide) rfl (fun ls hl => ?_)
  refine lv_aload_n hx hb dL_law_369 rfl (lv_at hl 3 rfl) ?_
  refine lv_aload_n hx hb dL_law_370 rfl (lv_at hl 5 rfl) ?_
  refine lv_iload hx hb dL_law_371 (lv_at hl 1 rfl) ?_
  refine lv_iconst (v := I 1) hx hb dL_law_373 (by decide) ?_
  refine lv_iadd hx hb dL_law_374 ?_
  refine nq_top (I_add _ _) ?_
  refine va_sld hx hb hX hbl hbA hS (i := I (i + 1)) (I_in ⟨by omega, by omega⟩ (by omega) (by omega)) dL_law_375 ?_
  refine nq_top ea1 ?_
  refine lv_aload_n hx hb dL_law_376 rfl (lv_at hl 5 rfl) ?_
  refine lv_iload hx hb dL_law_377 (lv_at hl 1 rfl) ?_
  refine lv_iconst (v := I 2) hx hb dL_law_379 (by decide) ?_
  refine lv_iadd hx hb dL_law_380 ?_
  refine nq_top (I_add _ _) ?_
  refine va_sld hx hb hX hbl hbA hS (i := I (i + 2)) (I_in ⟨by omega, by omega⟩ (by omega) (by omega)) dL_law_381 ?_
  refine nq_top ea2 ?_
  obtain ⟨_, hc17⟩ := hJ11.1.cell hJ11.2.2.1 (by decide) (ci := 11) rfl
  refine th_calli (va_runV (As := [.int (I a1), .int (I a2)]) (rest := []) ⟨hx, hb, hml, hown, hts⟩ (j_thing l G y s.heap.size σ5 E6 hJ11.1 m0 hJ11.2.2.1 a1 ra1 a2 ra2 _ rfl _ rfl _ rfl _ rfl _ rfl _ rfl _ rfl _ rfl _ rfl _ rfl _ rfl _ rfl hJ11.jw) (cwV 2 hts gv_X11_thing_91 rfl rfl rfl (by decide +kernel) ⟨Nat.le_of_ble_eq_true rfl, Nat.le_of_ble_eq_true rfl⟩) (th_PV hK hH rfl hc17) rfl rfl hl.1 rfl (lv_room (Nat.le_of_ble_eq_true rfl)) dL_law_382 ⟨show _ + _ ≤ 601024 by omega, show _ + _ ≤ 7293034 by omega⟩) hS (fun z20 σ19 H locs rz20 hw18 hH hS => ?_)
  obtain ⟨hO22, hF23, hM24, hq26, hw18⟩ := hw18
  have hwhJ25 := hJ11.tapm
  have hJ25 := hJ11.ref hO22 hF23 hM24 hq26 (show gI σ19 m0 12 = (gI σ5 x0 1) by omega)
  have rx32 := fr.af hJ11.1 hF23 hJ11.2.1 (by decide) (by decide) k12_0 isA1
  have hchJ25 := fr.ki hJ11.1 hF23 hJ11.2.1 (by decide) (by decide) 1
  have hT33 := hT13.ref rx32 (hM24.a (by decide) (by decide)) hchJ25
  have x230 := fr.ki hJ11.1 hF23 hJ11.2.1 (by decide) (by decide) 2
  have xq31 := fr.aq hJ11.1 hF23 hJ11.2.1 (by decide) (by decide) k12_3
  have m829 : aF σ19 (ad E6 m0 8) = aF σ5 (ad E6 m0 8) := hM24.a (by decide) (by decide)
  have m128 := hM24.i (k := 21) (by decide)
  have hI27 := hI15.keep ext.rf hJ11.2.1 x230 xq31 m128 m829
  refine lv_istore (lv' := [(6, .int (I z20)), (5, .int (I z3)), (4, .int (I i)), (3, .ref ou), (2, .ref m0), (1, .ref x0), (0, .ref b)]) hx hb dL_law_385 hl (by decide) rfl (fun ls hl => ?_)
  refine lv_goto (tgt := 1173) hx hb dL_law_387 (by decide) ?_
  exact kk _ _ _ _ _ _ _ _ hJ25 hI27 hT33 hH hS (lv_sub hl [2, 3, 4, 5, 6] rfl) (by omega) (by omega)

set_option maxHeartbeats 400000 in
set_option maxRecDepth 100000 in
theorem lc_6 {p : Program} {e : Env} {s : State} {m : MethodId} {below : List Frame} {meth : Method} {c : Code} {l : Launch} {b L : Nat} {xs : Nat → Int32} {G : va_G} {y : Nat → ClassId} (hl0 : l.stackTraces = false) (C0 : lw_At p s m meth c b L xs) (hK : nq_K G y s) (hXs : nq_X (th_A s.heap.size) s) {E : th_E} {σ : th_M} {x0 m0 ou : Nat} {t i : Int} (hL : L ≤ 3072) (hi0 : 0 ≤ i) (hi1 : i + 6 ≤ L) (hJ : LJ y E σ x0 m0 ou t t) (hI : F5 E σ x0 m0) (hT : tp E σ x0 m0) {H : Heap} {locs : List Loc} {ls : Array Slot} {cells slots : Nat} (hH : th_H G s.heap.size σ H) (hS : va_S (th_A s.heap.size) s.heap H locs) (hl : lv_has ls 7 [(4, .int (I i)), (3, .ref ou), (2, .ref m0), (1, .ref x0), (0, .ref b)]) (hc0 : cells + 200 ≤ 601024) (hs0 : slots + 9800 ≤ 7293034) {Q : State → Prop} (kk : ∀ (E1 : th_E) (σ1 : th_M) (t1 : Int) (H1 : Heap) (locs1 : List Loc) (ls1 : Array Slot) (k1 n1 : Nat), LJ y E1 σ1 x0 m0 ou t1 t1 → F5 E1 σ1 x0 m0 → tp E1 σ1 x0 m0 → th_H G s.heap.size σ1 H1 → va_S (th_A s.heap.size) s.heap H1 locs1 → lv_has ls1 7 [(4, .int (I i)), (3, .ref ou), (2, .ref m0), (1, .ref x0), (0, .ref b)] → k1 ≤ cells + 200 → n1 ≤ slots + 9800 → W p l e room_1 s m #[Value.ref b] below meth c H1 locs1 k1 n1 Q (F0 m 1173 ls1 [])) : W p l e room_1 s m #[Value.ref b] below meth c H locs cells slots Q (F0 m 390 ls []) := by
  obtain ⟨hx, hb, hr, hml, hown, hts, hX, hbl, hlocks, hgv⟩ := C0
  have hbA : ¬ th_A s.heap.size b := Nat.not_le.mpr hbl
  obtain ⟨a1, ra1, ea1⟩ : ∃ z : Int, rng z ∧ xs (I (i + 1)).toNatClampNeg = I z := ⟨_, rng_toInt _, (I_of _).symm⟩
  obtain ⟨a2, ra2, ea2⟩ : ∃ z : Int, rng z ∧ xs (I (i + 2)).toNatClampNeg = I z := ⟨_, rng_toInt _, (I_of _).symm⟩
  refine lv_aload_n hx hb dL_law_390 rfl (lv_at hl 3 rfl) ?_
  refine lv_aload_n hx hb dL_law_391 rfl (lv_at hl 4 rfl) ?_
  refine lv_iload hx hb dL_law_392 (lv_at hl 0 rfl) ?_
  refine lv_iconst (v := I 1) hx hb dL_law_394 (by decide) ?_
  refine lv_iadd hx hb dL_law_395 ?_
  refine nq_top (I_add _ _) ?_
  refine va_sld hx hb hX hbl hbA hS (i := I (i + 1)) (I_in ⟨by omega, by omega⟩ (by omega) (by omega)) dL_law_396 ?_
  refine nq_top ea1 ?_
  refine lv_aload_n hx hb dL_law_397 rfl (lv_at hl 4 rfl) ?_
  refine lv_iload hx hb dL_law_398 (lv_at hl 0 rfl) ?_
  refine lv_iconst (v := I 2) hx hb dL_law_400 (by decide) ?_
  refine lv_iadd hx hb dL_law_401 ?_
  refine nq_top (I_add _ _) ?_
  refine va_sld hx hb hX hbl hbA hS (i := I (i + 2)) (I_in ⟨by omega, by omega⟩ (by omega) (by omega)) dL_law_402 ?_
  refine nq_top ea2 ?_
  refine lv_aload_n hx hb dL_law_403 rfl (lv_at hl 1 rfl) ?_
  obtain ⟨fo1, hf2⟩ := hJ.2.2.2.2.1
  refine th_calli (vx_runSW (hh := [(0, 10, 13, 19)]) (As := [.ref x0, .int (I a1), .int (I a2), .ref ou]) (rest := []) ⟨hx, hb, hml, hown, hts⟩ (w_within l hl0 G y s.heap.size σ E hJ.1 x0 hJ.2.1 m0 hJ.2.2.1 ou hJ.2.2.2.1 fo1 hf2 a1 ra1 a2 ra2) (vx_cwSW 4 hts gv_L_within_92 rfl rfl rfl (by decide +kernel) ⟨Nat.le_of_ble_eq_true rfl, Nat.le_of_ble_eq_true rfl⟩) (th_PXS hK hXs hS hH) rfl rfl hl.1 rfl (lv_room (Nat.le_of_ble_eq_true rfl)) dL_law_404 ⟨show _ + _ ≤ 601024 by omega, show _ + _ ≤ 7293034 by omega⟩) hS (fun z3 σ5 H locs rz3 hw4 hH hS => ?_)
  obtain ⟨E6, hX7, hO8, hF9, hf10, hw4⟩ := hw4
  have hJ11 := hJ.cls hX7 hO8 hF9 (by decide) hf10 rfl
  have hthJ11 := hJ11.tapm
  have huhJ11 := hJ.tapx
  have hvhJ11 := hJ.tapm
  have m116 := fx.m0 hJ hF9 (by decide) 21
  have rm12 := hJ.row6 hX7 hF9 (by decide)
  have m814 := hJ.row8 hX7 hF9 (by decide)
  have hT13 := hT.cls (Or.inr ⟨hw4.2.1, by omega⟩) rm12
  have hI15 := hI.keep hX7 hJ.2.1 hw4.1.2 hw4.2.2 m116 m814
  replace hw4 := hw4.1
  refine lv_istore (lv' := [(5, .int (I z3)), (4, .int (I i)), (3, .ref ou), (2, .ref m0), (1, .ref x0), (0, .ref b)]) hx hb dL_law_407 hl (by decide) rfl (fun ls hl => ?_)
  refine lv_aload_n hx hb dL_law_409 rfl (lv_at hl 3 rfl) ?_
  refine lv_aload_n hx hb dL_law_410 rfl (lv_at hl 5 rfl) ?_
  refine lv_iload hx hb dL_law_411 (lv_at hl 1 rfl) ?_
  refine lv_iconst (v := I 1) hx hb dL_law_413 (by decide) ?_
  refine lv_iadd hx hb dL_law_414 ?_
  refine nq_top (I_add _ _) ?_
  refine va_sld hx hb hX hbl hbA hS (i := I (i + 1)) (I_in ⟨by omega, by omega⟩ (by omega) (by omega)) dL_law_415 ?_
  refine nq_top ea1 ?_
  refine lv_aload_n hx hb dL_law_416 rfl (lv_at hl 5 rfl) ?_
  refine lv_iload hx hb dL_law_417 (lv_at hl 1 rfl) ?_
  refine lv_iconst (v := I 2) hx hb dL_law_419 (by decide) ?_
  refine lv_iadd hx hb dL_law_420 ?_
  refine nq_top (I_add _ _) ?_
  refine va_sld hx hb hX hbl hbA hS (i := I (i + 2)) (I_in ⟨by omega, by omega⟩ (by omega) (by omega)) dL_law_421 ?_
  refine nq_top ea2 ?_
  obtain ⟨_, hc17⟩ := hJ11.1.cell hJ11.2.2.1 (by decide) (ci := 11) rfl
  refine th_calli (va_runV (As := [.int (I a1), .int (I a2)]) (rest := []) ⟨hx, hb, hml, hown, hts⟩ (j_within l G y s.heap.size σ5 E6 hJ11.1 m0 hJ11.2.2.1 a1 ra1 a2 ra2 _ rfl _ rfl _ rfl _ rfl _ rfl _ rfl _ rfl _ rfl _ rfl _ rfl _ rfl hJ11.jw) (cwV 2 hts gv_X11_within_94 rfl rfl rfl (by decide +kernel) ⟨Nat.le_of_ble_eq_true rfl, Nat.le_of_ble_eq_true rfl⟩) (th_PV hK hH rfl hc17) rfl rfl hl.1 rfl (lv_room (Nat.le_of_ble_eq_true rfl)) dL_law_422 ⟨show _ + _ ≤ 601024 by omega, show _ + _ ≤ 7293034 by omega⟩) hS (fun z20 σ19 H locs rz20 hw18 hH hS => ?_)
  obtain ⟨hO22, hF23, hM24, hq26, hw18⟩ := hw18
  have hwhJ25 := hJ11.tapm
  have hJ25 := hJ11.ref hO22 hF23 hM24 hq26 (show gI σ19 m0 12 = (gI σ5 x0 1) by omega)
  have rx32 := fr.af hJ11.1 hF23 hJ11.2.1 (by decide) (by decide) k12_0 isA1
  have hchJ25 := fr.ki hJ11.1 hF23 hJ11.2.1 (by decide) (by decide) 1
  have hT33 := hT13.ref rx32 (hM24.a (by decide) (by decide)) hchJ25
  have x230 := fr.ki hJ11.1 hF23 hJ11.2.1 (by decide) (by decide) 2
  have xq31 := fr.aq hJ11.1 hF23 hJ11.2.1 (by decide) (by decide) k12_3
  have m829 : aF σ19 (ad E6 m0 8) = aF σ5 (ad E6 m0 8) := hM24.a (by decide) (by decide)
  have m128 := hM24.i (k := 21) (by decide)
  have hI27 := hI15.keep ext.rf hJ11.2.1 x230 xq31 m128 m829
  refine lv_istore (lv' := [(6, .int (I z20)), (5, .int (I z3)), (4, .int (I i)), (3, .ref ou), (2, .ref m0), (1, .ref x0), (0, .ref b)]) hx hb dL_law_425 hl (by decide) rfl (fun ls hl => ?_)
  refine lv_goto (tgt := 1173) hx hb dL_law_427 (by decide) ?_
  exact kk _ _ _ _ _ _ _ _ hJ25 hI27 hT33 hH hS (lv_sub hl [2, 3, 4, 5, 6] rfl) (by omega) (by omega)
