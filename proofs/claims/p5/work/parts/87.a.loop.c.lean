theorem I_ofNat (n : Nat) : Int32.ofNat n = I (n : Int) := by
  first | rfl | exact (Int32.ofInt_eq_ofNat).symm | simp [I]
set_option maxHeartbeats 1000000 in
set_option maxRecDepth 100000 in
theorem lw_loop {p : Program} {e : Env} {s : State} {m : MethodId} {below : List Frame} {meth : Method} {c : Code} {l : Launch} {b L : Nat} {xs : Nat → Int32} {G : va_G} {y : Nat → ClassId} (hl0 : l.stackTraces = false) (C0 : lw_At p s m meth c b L xs) (hK : nq_K G y s) (hXs : nq_X (th_A s.heap.size) s) (hL : L ≤ 3072) {E : th_E} {σ : th_M} {x0 m0 ou : Nat} {t : Int} {c0 s0 : Nat} (hJ : LJ y E σ x0 m0 ou t t) (hI : F5 E σ x0 m0) (hT : tp E σ x0 m0) {H : Heap} {locs : List Loc} {ls : Array Slot} (hH : th_H G s.heap.size σ H) (hS : va_S (th_A s.heap.size) s.heap H locs) (hl : lv_has ls 7 [(4, .int (I 0)), (3, .ref ou), (2, .ref m0), (1, .ref x0), (0, .ref b)]) (hc0 : c0 ≤ 400000) (hs0 : s0 ≤ 1000000) : W p l e room_1 s m #[Value.ref b] below meth c H locs c0 s0 (lw_Z below #[Value.ref b] s) (F0 m 23 ls []) := by
  obtain ⟨hx, hb, hr, hml, hown, hts, hX, hbl, hlocks, hgv⟩ := id C0
  have hbA : ¬ th_A s.heap.size b := Nat.not_le.mpr hbl
  refine th_loop2 (α := th_E × Int × Int × Nat × Nat) (pc := 23) (fun x => x.2.2.2.1) (fun x => x.2.2.2.2) (fun x => (3072 - x.2.1).toNat) (fun x σ9 H9 l9 ls9 => LJ y x.1 σ9 x0 m0 ou x.2.2.1 x.2.2.1 ∧ F5 x.1 σ9 x0 m0 ∧ tp x.1 σ9 x0 m0 ∧ th_H G s.heap.size σ9 H9 ∧ va_S (th_A s.heap.size) s.heap H9 l9 ∧ lv_has ls9 7 [(4, .int (I x.2.1)), (3, .ref ou), (2, .ref m0), (1, .ref x0), (0, .ref b)] ∧ 0 ≤ x.2.1 ∧ x.2.1 ≤ 3072 ∧ 6 * (x.2.2.2.1 : Int) ≤ 6 * (c0 : Int) + 200 * x.2.1 ∧ 6 * (x.2.2.2.2 : Int) ≤ 6 * (s0 : Int) + 9800 * x.2.1) ?_ (E, 0, t, c0, s0) σ H locs ls ⟨hJ, hI, hT, hH, hS, hl, by dsimp only; omega, by dsimp only; omega, by dsimp only; omega, by dsimp only; omega⟩
  rintro ⟨E, i, t, k, n⟩ σ H locs ls ⟨hJ, hI, hT, hH, hS, hl, hi0, hi3, hk, hn⟩ ih
  dsimp only at hJ hI hT hl hi0 hi3 hk hn ih ⊢
  refine lv_iload hx hb dL_law_23 (lv_at hl 0 rfl) ?_
  refine lv_aload_n hx hb dL_law_25 rfl (lv_at hl 4 rfl) ?_
  refine va_slen hx hb hX hbl hbA hS dL_law_26 ?_
  refine nq_top (I_ofNat L) ?_
  refine lv_bipush (v := I 6) hx hb dL_law_27 (by decide) ?_
  refine lv_isub hx hb dL_law_29 ?_
  refine nq_top (I_sub _ _) ?_
  refine lv_icmp_gt (tgt := 1179) hx hb dL_law_30 (by decide) (fun _ => ?_) (fun hc => ?_)
  · refine lv_iconst (v := 1) hx hb dL_law_1179 (by decide) ?_
    refine va_forget (fun q hq => hS.2.2 q hq) ?_
    refine W.widen (k := 601024) (n := 7293034) (by omega) (by omega) ?_
    exact lw_ret hx hb hr hlocks dL_law_1180
  · have hc : ¬ (L : Int) - 6 < i := mt (I_lt (a := (L : Int) - 6) (b := i) ⟨by omega, by omega⟩ ⟨by omega, by omega⟩).mpr hc
    have hi1 : i + 6 ≤ L := by omega
    have kk : ∀ (E1 : th_E) (σ1 : th_M) (t1 : Int) (H1 : Heap) (locs1 : List Loc) (ls1 : Array Slot) (k1 n1 : Nat), LJ y E1 σ1 x0 m0 ou t1 t1 → F5 E1 σ1 x0 m0 → tp E1 σ1 x0 m0 → th_H G s.heap.size σ1 H1 → va_S (th_A s.heap.size) s.heap H1 locs1 → lv_has ls1 7 [(4, .int (I i)), (3, .ref ou), (2, .ref m0), (1, .ref x0), (0, .ref b)] → k1 ≤ k + 200 → n1 ≤ n + 9800 → W p l e room_1 s m #[Value.ref b] below meth c H1 locs1 k1 n1 (lw_Z below #[Value.ref b] s) (F0 m 1173 ls1 []) := by
      intro E1 σ1 t1 H locs ls k1 n1 hJ hI hT hH hS hl hk1 hn1
      refine lv_iinc (v := I (i + 6)) (lv' := [(4, .int (I (i + 6))), (3, .ref ou), (2, .ref m0), (1, .ref x0), (0, .ref b)]) hx hb dL_law_1173 hl (k := 0) rfl (I_add _ _) (by decide) rfl (fun ls hl => ?_)
      refine lv_goto (tgt := 23) hx hb dL_law_1176 (by decide) ?_
      exact ih (E1, i + 6, t1, k1, n1) σ1 H locs ls (by dsimp only; omega) ⟨hJ, hI, hT, hH, hS, hl, by dsimp only; omega, by dsimp only; omega, by dsimp only; omega, by dsimp only; omega⟩
    refine lv_aload_n hx hb dL_law_33 rfl (lv_at hl 4 rfl) ?_
    refine lv_iload hx hb dL_law_34 (lv_at hl 0 rfl) ?_
    refine va_sld hx hb hX hbl hbA hS (i := I i) (I_in ⟨by omega, by omega⟩ hi0 (by omega)) dL_law_36 ?_
    refine lv_bipush (v := I 31) hx hb dL_law_37 (by decide) ?_
    refine lv_iand hx hb dL_law_39 ?_
    refine th_topi (fun z rz => ?_)
    refine th_case (a := z) (n := 0) (fun c0 => ?_) (fun c0 => ?_)
    · rw [c0]
      refine lv_tableIn (tgt := 168) hx hb dL_law_40 (by decide) (by decide) (by rfl) (by decide) ?_
      exact lc_0 hl0 C0 hK hXs hL hi0 hi1 hJ hI hT hH hS hl (by omega) (by omega) kk
    refine th_case (a := z) (n := 1) (fun c1 => ?_) (fun c1 => ?_)
    · rw [c1]
      refine lv_tableIn (tgt := 241) hx hb dL_law_40 (by decide) (by decide) (by rfl) (by decide) ?_
      exact lc_1 hl0 C0 hK hXs hL hi0 hi1 hJ hI hT hH hS hl (by omega) (by omega) kk
    refine th_case (a := z) (n := 2) (fun c2 => ?_) (fun c2 => ?_)
    · rw [c2]
      refine lv_tableIn (tgt := 269) hx hb dL_law_40 (by decide) (by decide) (by rfl) (by decide) ?_
      exact lc_2 hl0 C0 hK hXs hL hi0 hi1 hJ hI hT hH hS hl (by omega) (by omega) kk
    refine th_case (a := z) (n := 3) (fun c3 => ?_) (fun c3 => ?_)
    · rw [c3]
      refine lv_tableIn (tgt := 309) hx hb dL_law_40 (by decide) (by decide) (by rfl) (by decide) ?_
      exact lc_3 hl0 C0 hK hXs hL hi0 hi1 hJ hI hT hH hS hl (by omega) (by omega) kk
    refine th_case (a := z) (n := 4) (fun c4 => ?_) (fun c4 => ?_)
    · rw [c4]
      refine lv_tableIn (tgt := 322) hx hb dL_law_40 (by decide) (by decide) (by rfl) (by decide) ?_
      exact lc_4 hl0 C0 hK hXs hL hi0 hi1 hJ hI hT hH hS hl (by omega) (by omega) kk
    refine th_case (a := z) (n := 5) (fun c5 => ?_) (fun c5 => ?_)
    · rw [c5]
      refine lv_tableIn (tgt := 350) hx hb dL_law_40 (by decide) (by decide) (by rfl) (by decide) ?_
      exact lc_5 hl0 C0 hK hXs hL hi0 hi1 hJ hI hT hH hS hl (by omega) (by omega) kk
    refine th_case (a := z) (n := 6) (fun c6 => ?_) (fun c6 => ?_)
    · rw [c6]
      refine lv_tableIn (tgt := 390) hx hb dL_law_40 (by decide) (by decide) (by rfl) (by decide) ?_
      exact lc_6 hl0 C0 hK hXs hL hi0 hi1 hJ hI hT hH hS hl (by omega) (by omega) kk
    refine th_case (a := z) (n := 7) (fun c7 => ?_) (fun c7 => ?_)
    · rw [c7]
      refine lv_tableIn (tgt := 430) hx hb dL_law_40 (by decide) (by decide) (by rfl) (by decide) ?_
      exact lc_7 hl0 C0 hK hXs hL hi0 hi1 hJ hI hT hH hS hl (by omega) (by omega) kk
    refine th_case (a := z) (n := 8) (fun c8 => ?_) (fun c8 => ?_)
    · rw [c8]
      refine lv_tableIn (tgt := 498) hx hb dL_law_40 (by decide) (by decide) (by rfl) (by decide) ?_
      exact lc_8 hl0 C0 hK hXs hL hi0 hi1 hJ hI hT hH hS hl (by omega) (by omega) kk
    refine th_case (a := z) (n := 9) (fun c9 => ?_) (fun c9 => ?_)
    · rw [c9]
      refine lv_tableIn (tgt := 538) hx hb dL_law_40 (by decide) (by decide) (by rfl) (by decide) ?_
      exact lc_9 hl0 C0 hK hXs hL hi0 hi1 hJ hI hT hH hS hl (by omega) (by omega) kk
    refine th_case (a := z) (n := 10) (fun c10 => ?_) (fun c10 => ?_)
    · rw [c10]
      refine lv_tableIn (tgt := 578) hx hb dL_law_40 (by decide) (by decide) (by rfl) (by decide) ?_
      exact lc_10 hl0 C0 hK hXs hL hi0 hi1 hJ hI hT hH hS hl (by omega) (by omega) kk
    refine th_case (a := z) (n := 11) (fun c11 => ?_) (fun c11 => ?_)
    · rw [c11]
      refine lv_tableIn (tgt := 618) hx hb dL_law_40 (by decide) (by decide) (by rfl) (by decide) ?_
      exact lc_11 hl0 C0 hK hXs hL hi0 hi1 hJ hI hT hH hS hl (by omega) (by omega) kk
    refine th_case (a := z) (n := 12) (fun c12 => ?_) (fun c12 => ?_)
    · rw [c12]
      refine lv_tableIn (tgt := 658) hx hb dL_law_40 (by decide) (by decide) (by rfl) (by decide) ?_
      exact lc_12 hl0 C0 hK hXs hL hi0 hi1 hJ hI hT hH hS hl (by omega) (by omega) kk
    refine th_case (a := z) (n := 13) (fun c13 => ?_) (fun c13 => ?_)
    · rw [c13]
      refine lv_tableIn (tgt := 698) hx hb dL_law_40 (by decide) (by decide) (by rfl) (by decide) ?_
      exact lc_13 hl0 C0 hK hXs hL hi0 hi1 hJ hI hT hH hS hl (by omega) (by omega) kk
    refine th_case (a := z) (n := 14) (fun c14 => ?_) (fun c14 => ?_)
    · rw [c14]
      refine lv_tableIn (tgt := 738) hx hb dL_law_40 (by decide) (by decide) (by rfl) (by decide) ?_
      exact lc_14 hl0 C0 hK hXs hL hi0 hi1 hJ hI hT hH hS hl (by omega) (by omega) kk
    refine th_case (a := z) (n := 15) (fun c15 => ?_) (fun c15 => ?_)
    · rw [c15]
      refine lv_tableIn (tgt := 778) hx hb dL_law_40 (by decide) (by decide) (by rfl) (by decide) ?_
      exact lc_15 hl0 C0 hK hXs hL hi0 hi1 hJ hI hT hH hS hl (by omega) (by omega) kk
    refine th_case (a := z) (n := 16) (fun c16 => ?_) (fun c16 => ?_)
    · rw [c16]
      refine lv_tableIn (tgt := 830) hx hb dL_law_40 (by decide) (by decide) (by rfl) (by decide) ?_
      exact lc_16 hl0 C0 hK hXs hL hi0 hi1 hJ hI hT hH hS hl (by omega) (by omega) kk
    refine th_case (a := z) (n := 17) (fun c17 => ?_) (fun c17 => ?_)
    · rw [c17]
      refine lv_tableIn (tgt := 867) hx hb dL_law_40 (by decide) (by decide) (by rfl) (by decide) ?_
      exact lc_17 hl0 C0 hK hXs hL hi0 hi1 hJ hI hT hH hS hl (by omega) (by omega) kk
    refine th_case (a := z) (n := 18) (fun c18 => ?_) (fun c18 => ?_)
    · rw [c18]
      refine lv_tableIn (tgt := 904) hx hb dL_law_40 (by decide) (by decide) (by rfl) (by decide) ?_
      exact lc_18 hl0 C0 hK hXs hL hi0 hi1 hJ hI hT hH hS hl (by omega) (by omega) kk
    refine th_case (a := z) (n := 19) (fun c19 => ?_) (fun c19 => ?_)
    · rw [c19]
      refine lv_tableIn (tgt := 953) hx hb dL_law_40 (by decide) (by decide) (by rfl) (by decide) ?_
      exact lc_19 hl0 C0 hK hXs hL hi0 hi1 hJ hI hT hH hS hl (by omega) (by omega) kk
    refine th_case (a := z) (n := 20) (fun c20 => ?_) (fun c20 => ?_)
    · rw [c20]
      refine lv_tableIn (tgt := 966) hx hb dL_law_40 (by decide) (by decide) (by rfl) (by decide) ?_
      exact lc_20 hl0 C0 hK hXs hL hi0 hi1 hJ hI hT hH hS hl (by omega) (by omega) kk
    refine th_case (a := z) (n := 21) (fun c21 => ?_) (fun c21 => ?_)
    · rw [c21]
      refine lv_tableIn (tgt := 1007) hx hb dL_law_40 (by decide) (by decide) (by rfl) (by decide) ?_
      exact lc_21 hl0 C0 hK hXs hL hi0 hi1 hJ hI hT hH hS hl (by omega) (by omega) kk
    refine th_case (a := z) (n := 22) (fun c22 => ?_) (fun c22 => ?_)
    · rw [c22]
      refine lv_tableIn (tgt := 1020) hx hb dL_law_40 (by decide) (by decide) (by rfl) (by decide) ?_
      exact lc_22 hl0 C0 hK hXs hL hi0 hi1 hJ hI hT hH hS hl (by omega) (by omega) kk
    refine th_case (a := z) (n := 23) (fun c23 => ?_) (fun c23 => ?_)
    · rw [c23]
      refine lv_tableIn (tgt := 1073) hx hb dL_law_40 (by decide) (by decide) (by rfl) (by decide) ?_
      exact lc_23 hl0 C0 hK hXs hL hi0 hi1 hJ hI hT hH hS hl (by omega) (by omega) kk
    refine th_case (a := z) (n := 24) (fun c24 => ?_) (fun c24 => ?_)
    · rw [c24]
      refine lv_tableIn (tgt := 1086) hx hb dL_law_40 (by decide) (by decide) (by rfl) (by decide) ?_
      exact lc_24 hl0 C0 hK hXs hL hi0 hi1 hJ hI hT hH hS hl (by omega) (by omega) kk
    refine th_case (a := z) (n := 25) (fun c25 => ?_) (fun c25 => ?_)
    · rw [c25]
      refine lv_tableIn (tgt := 1097) hx hb dL_law_40 (by decide) (by decide) (by rfl) (by decide) ?_
      exact lc_25 hl0 C0 hK hXs hL hi0 hi1 hJ hI hT hH hS hl (by omega) (by omega) kk
    refine th_case (a := z) (n := 26) (fun c26 => ?_) (fun c26 => ?_)
    · rw [c26]
      refine lv_tableIn (tgt := 1149) hx hb dL_law_40 (by decide) (by decide) (by rfl) (by decide) ?_
      exact lc_26 hl0 C0 hK hXs hL hi0 hi1 hJ hI hT hH hS hl (by omega) (by omega) kk
    refine th_case (a := z) (n := 27) (fun c27 => ?_) (fun c27 => ?_)
    · rw [c27]
      refine lv_tableIn (tgt := 1160) hx hb dL_law_40 (by decide) (by decide) (by rfl) (by decide) ?_
      exact lc_27 hl0 C0 hK hXs hL hi0 hi1 hJ hI hT hH hS hl (by omega) (by omega) kk
    refine th_tableOut (tgt := 1173) hx hb rz dL_law_40 (by omega) (by decide) ?_
    exact kk E σ t H locs ls k n hJ hI hT hH hS hl (by omega) (by omega)
