/-! THE REFERENCE'S OBJECT: kind 13; its fields by number, its rows as functions -/
def gV (σ : th_M) (a k : Nat) : Option Value := match σ a with
  | some (.inr (_, fs)) => fs[k]?
  | _ => none
theorem gI_gV (σ : th_M) (a k : Nat) : gI σ a k = (match gV σ a k with
  | some (.int x) => x.toInt
  | _ => 0) := by
  unfold gI gV
  cases σ a with
  | none => rfl
  | some e => cases e <;> rfl
theorem gI_eq {σ σ1 : th_M} {a k : Nat} (h : gV σ1 a k = gV σ a k) : gI σ1 a k = gI σ a k := by rw [gI_gV, gI_gV, h]
theorem gV_up {σ : th_M} {a b k : Nat} {e : va_E} (h : a ≠ b) : gV (th_up σ b e) a k = gV σ a k := by simp only [gV, th_up_ne _ _ h]
abbrev R13 : List Nat := [1, 2, 3, 4, 6, 7, 8, 23, 24, 31, 35, 37, 39, 40, 41, 42, 43, 44, 45, 46, 47, 49, 52, 53, 54, 57, 61, 62, 63, 64, 65]
theorem R13_ok : R13.all (fun k => match kfl 13 k with
  | some (_, cd, _, _) => cd == 1 || cd == 7 || cd == 9 || cd == 10 || cd == 2
  | none => false) = true := by decide
theorem R13_row {k : Nat} (h : k ∈ R13) : ∃ ci cd n hi, kfl 13 k = some (ci, cd, n, hi) ∧ (isA cd ∨ cd = 2) := by
  have h1 := List.all_eq_true.mp R13_ok k h
  cases hk : kfl 13 k with
  | none => rw [hk] at h1; cases h1
  | some q =>
    obtain ⟨ci, cd, n, hi⟩ := q
    rw [hk] at h1
    simp only [Bool.or_eq_true, beq_iff_eq] at h1
    refine ⟨ci, cd, n, hi, rfl, ?_⟩
    unfold isA
    omega
/-- nothing of it changed but the fields L -/
def fm (L : List Nat) (E : th_E) (σ σ1 : th_M) (a : Nat) : Prop := (∀ k, k ∉ L → gV σ1 a k = gV σ a k) ∧ (∀ k ∈ R13, k ∉ L → aF σ1 (ad E a k) = aF σ (ad E a k)) ∧ (∀ x, ow E x = (a, 98) → σ1 x = σ x)
theorem fm.rf {L : List Nat} {E : th_E} {σ : th_M} {a : Nat} : fm L E σ σ a := ⟨fun _ _ => rfl, fun _ _ _ => rfl, fun _ _ => rfl⟩
theorem fm.tu {L L2 : List Nat} {E : th_E} {σ σ1 σ2 : th_M} {a : Nat} (h : fm L2 E σ σ1 a) (h2 : fm L E σ1 σ2 a) (hs : ∀ k ∈ L, k ∈ L2) : fm L2 E σ σ2 a :=
  ⟨fun k hk => (h2.1 k (fun h9 => hk (hs k h9))).trans (h.1 k hk), fun k hr hk => (h2.2.1 k hr (fun h9 => hk (hs k h9))).trans (h.2.1 k hr hk), fun x hx => (h2.2.2 x hx).trans (h.2.2 x hx)⟩
theorem fm.i {L : List Nat} {E : th_E} {σ σ1 : th_M} {a k : Nat} (h : fm L E σ σ1 a) (hk : k ∉ L) : gI σ1 a k = gI σ a k := gI_eq (h.1 k hk)
theorem fm.a {L : List Nat} {E : th_E} {σ σ1 : th_M} {a k : Nat} (h : fm L E σ σ1 a) (hr : k ∈ R13) (hk : k ∉ L) : aF σ1 (ad E a k) = aF σ (ad E a k) := h.2.1 k hr hk
section MB
variable {y : Nat → ClassId} {E : th_E} {σ σ1 : th_M} {a k ci cd : Nat} {lo hi n : Int}
theorem ok.owr (h : ok y E σ) (ha : kd E a = 13) (hk : k ∈ R13) : ow E (ad E a k) = (a, k) ∧ ∃ c e, σ (ad E a k) = some (.inl (c, e)) := by
  obtain ⟨ci, cd, n, hi, hq, hd⟩ := R13_row hk
  rcases hd with hd | hd
  · have := h.arr ha (by decide) hq hd
    exact ⟨this.1, _, _, this.2.1⟩
  · subst hd
    have := h.arz ha (by decide) hq
    exact ⟨this.1, _, _, this.2.1⟩
theorem ok.adn (h : ok y E σ) (ha : kd E a = 13) {j : Nat} (hk : k ∈ R13) (hj : j ∈ R13) (hn : j ≠ k) : ad E a j ≠ ad E a k := by
  intro e
  have h1 := (h.owr ha hk).1
  rw [← e, (h.owr ha hj).1] at h1
  exact hn (congrArg Prod.snd h1)
theorem ok.ana (h : ok y E σ) (ha : kd E a = 13) (hk : k ∈ R13) : a ≠ ad E a k := by
  intro e
  obtain ⟨c, x, h1⟩ := (h.owr ha hk).2
  obtain ⟨fs, h2⟩ := h.cell ha (by decide) (ci := 11) rfl
  rw [← e, h2] at h1
  cases h1
theorem ok.roww {N : Nat} {f : Nat → Int32} (h : ok y E σ) (ha : kd E a = 13) (hq : kfl 13 k = some (ci, cd, n, hi)) (hd : isA cd) (e : aF σ (ad E a k) = f) (hn : n.toNat = N) : σ (ad E a k) = some (.inl (y 0, N, .inl f)) := by
  have := (h.arr ha (by decide) hq hd).2.1
  rw [e, hn] at this
  exact this
theorem ok.el1 {f : Nat → Int32} (h : ok y E σ) (ha : kd E a = 13) (hq : kfl 13 k = some (ci, cd, n, hi)) (hd : isA cd) (e : aF σ (ad E a k) = f) (q : Nat) : el cd hi (f q).toInt := by
  have := (h.arr ha (by decide) hq hd).2.2 q
  rw [e] at this
  exact this
theorem fm_up {e : vp_A} {c : ClassId} (h : ok y E σ) (ha : kd E a = 13) (hk : k ∈ R13) : fm [k] E σ (th_up σ (ad E a k) (.inl (c, e))) a :=
  ⟨fun j _ => gV_up (h.ana ha hk), fun j hj hn => aF_up (h.adn ha hk hj (fun e9 => hn (by rw [e9]; exact List.mem_singleton.mpr rfl))), fun x hx => th_up_ne _ _ (fun e9 => by
    rw [e9, (h.owr ha hk).1] at hx
    have : k = 98 := congrArg Prod.snd hx
    rw [this] at hk
    exact absurd hk (by decide))⟩
/-- where the text that is read lies, and its bytes (-1 behind its end) -/
def sr (E : th_E) (σ : th_M) (a : Nat) (B : Int → Int) : Prop := 0 ≤ gI σ a 10 ∧ 0 ≤ gI σ a 11 ∧ gI σ a 11 ≤ 400 ∧ (∀ k, gI σ a 11 ≤ k → B k = -1) ∧ ((gV σ a 9 = some (.ref (ad E a 6)) ∧ gI σ a 10 + gI σ a 11 ≤ 400 ∧ ∀ k, 0 ≤ k → k < gI σ a 11 → (aF σ (ad E a 6) (gI σ a 10 + k).toNat).toInt = B k) ∨ (gV σ a 9 = some (.ref (ad E a 7)) ∧ gI σ a 10 + gI σ a 11 ≤ 1600 ∧ ∀ k, 0 ≤ k → k < gI σ a 11 → (aF σ (ad E a 7) (gI σ a 10 + k).toNat).toInt = B k))
theorem sr.mv {L : List Nat} {B : Int → Int} (h : sr E σ a B) (hM : fm L E σ σ1 a) (h9 : 9 ∉ L) (h10 : 10 ∉ L) (h11 : 11 ∉ L) (h6 : 6 ∉ L) (h7 : 7 ∉ L) : sr E σ1 a B := by
  unfold sr
  rw [hM.i h10, hM.i h11, hM.1 9 h9, hM.a (by decide) h6, hM.a (by decide) h7]
  exact h
theorem sr.lt {B : Int → Int} {k : Int} (h : sr E σ a B) : B k = -1 ∨ k < gI σ a 11 := by
  by_cases hk : k < gI σ a 11
  · exact Or.inr hk
  · exact Or.inl (h.2.2.2.1 k (by omega))
theorem sr_mk {z n : Int} {j N : Nat} (hj : (j = 6 ∧ N = 400) ∨ (j = 7 ∧ N = 1600)) (hv : gV σ a 9 = some (.ref (ad E a j))) (h10 : gI σ a 10 = z) (h11 : gI σ a 11 = n) (h0 : 0 ≤ z) (hn : 0 ≤ n) (h4 : n ≤ 400) (hN : z + n ≤ N) : ∃ B, sr E σ a B := by
  refine ⟨fun k => if k < n then (aF σ (ad E a j) (z + k).toNat).toInt else -1, by omega, by omega, by omega, fun k hk => if_neg (by omega), ?_⟩
  rcases hj with ⟨e, e2⟩ | ⟨e, e2⟩ <;> subst e <;> subst e2
  · refine Or.inl ⟨hv, by omega, fun k h1 h2 => ?_⟩
    rw [h10]
    exact (if_pos (by omega)).symm
  · refine Or.inr ⟨hv, by omega, fun k h1 h2 => ?_⟩
    rw [h10]
    exact (if_pos (by omega)).symm
theorem fo_src {j : Nat} (hj : (j : Int) = lo ∨ (j : Int) = hi) : fo y E σ a k (8, lo, hi) (.ref (ad E a j)) := by
  refine ⟨fun e => ?_, fun e => ?_, fun e => ?_, fun e => ?_, fun e => ?_, fun e => ?_, fun e => ?_, fun _ => ?_⟩
  · simp only at e; omega
  · simp only [isA] at e; omega
  · simp only at e; omega
  · simp only at e; omega
  · simp only at e; omega
  · simp only at e; omega
  · simp only at e; omega
  · rcases hj with e | e
    · right; left; rw [← e]; rfl
    · right; right; rw [← e]; rfl
end MB
section MBW
variable {p : Program} {l : Launch} {e : Env} {R : Room} {s : State} {m : MethodId} {args : Array Value} {below : List Frame} {meth : Method} {c : Code} {H H0 : Heap} {locs : List Loc} {cells slots : Nat} {Q : State → Prop} {G : va_G} {y : Nat → ClassId} {b0 : Nat} {σ : th_M} {As rest st0 : List Value} {a b mc ms pc : Nat} {ls : Array Slot} {cc : ByteArray} {E : th_E} {k ci cd : Nat} {n lo hi : Int}
/-- a row that is handed over -/
theorem w_iald (hexec : p.tables.exec = Jvm.exec) (hb : c.code = cc) (hK : nq_K G y s) (hH : th_H G b0 σ H) {N : Nat} {f : Nat → Int32} (ha : σ a = some (.inl (y 0, N, .inl f))) {i : Int} (hr : rng i) (h0 : 0 ≤ i) (hn : i < N) (hdg : decode cc pc = .ok (.iaload, 1))
    (kk : ∀ z : Int, (f i.toNat).toInt = z → rng z → W p l e R s m args below meth c H locs cells slots Q (F0 m (pc + 1) ls (.int (I z) :: rest))) : W p l e R s m args below meth c H locs cells slots Q (F0 m pc ls (.int (I i) :: .ref a :: rest)) :=
  th_iald hexec hb hK hH ha hr h0 hn hdg (kk _ rfl (rng_toInt _))
theorem w_alen (hexec : p.tables.exec = Jvm.exec) (hb : c.code = cc) (hK : nq_K G y s) (hH : th_H G b0 σ H) {N : Nat} {f : Nat → Int32} (ha : σ a = some (.inl (y 0, N, .inl f))) (hdg : decode cc pc = .ok (.arraylength, 1))
    (kk : W p l e R s m args below meth c H locs cells slots Q (F0 m (pc + 1) ls (.int (I N) :: rest))) : W p l e R s m args below meth c H locs cells slots Q (F0 m pc ls (.ref a :: rest)) :=
  th_alen hexec hb hK hH ha (t0 := 0) rfl hdg kk
/-- its own rows -/
theorem m_iald (hexec : p.tables.exec = Jvm.exec) (hb : c.code = cc) (hK : nq_K G y s) (hH : th_H G b0 σ H) (hO : ok y E σ) (ha : kd E a = 13) (hq : kfl 13 k = some (ci, cd, n, hi)) (hd : isA cd) {f : Nat → Int32} (ef : aF σ (ad E a k) = f) {i : Int} (hr : rng i) (h0 : 0 ≤ i) (hn : i < n) (hdg : decode cc pc = .ok (.iaload, 1))
    (kk : ∀ z : Int, (f i.toNat).toInt = z → rng z → el cd hi z → W p l e R s m args below meth c H locs cells slots Q (F0 m (pc + 1) ls (.int (I z) :: rest))) : W p l e R s m args below meth c H locs cells slots Q (F0 m pc ls (.int (I i) :: .ref (ad E a k) :: rest)) :=
  ok_iald hexec hb hK hH hO ha (by decide) hq hd hr h0 hn hdg (fun z e9 => kk z (by rw [← ef]; exact e9))
theorem m_iast (hexec : p.tables.exec = Jvm.exec) (hb : c.code = cc) (hK : nq_K G y s) (hH : th_H G b0 σ H) (hS : va_S (th_A b0) H0 H locs) (h00 : b0 ≤ H0.size) (hO : ok y E σ) (ha : kd E a = 13) (hq : kfl 13 k = some (ci, cd, n, hi)) (hd : isA cd) (hk : k ∈ R13) {f : Nat → Int32} (ef : aF σ (ad E a k) = f) {i x : Int} (hr : rng i) (h0 : 0 ≤ i) (hn : i < n) (hx : rng x) (hel : el cd hi x) (hdg : decode cc pc = .ok (.iastore, 1))
    (kk : ∀ (σ1 : th_M) (H1 : Heap) (locs1 : List Loc), ok y E σ1 → fr [13] E σ σ1 → fm [k] E σ σ1 a → aF σ1 (ad E a k) = upd f i.toNat (I x) → th_H G b0 σ1 H1 → va_S (th_A b0) H0 H1 locs1 → W p l e R s m args below meth c H1 locs1 cells slots Q (F0 m (pc + 1) ls rest)) : W p l e R s m args below meth c H locs cells slots Q (F0 m pc ls (.int (I x) :: .int (I i) :: .ref (ad E a k) :: rest)) := by
  obtain ⟨o, c1, c2⟩ := hO.arr ha (by decide) hq hd
  refine th_iast hexec hb hK hH hS h00 c1 hr h0 (by omega) hdg (fun H1 locs1 hH1 hS1 => ?_)
  obtain ⟨p1, p2, p3⟩ := hO.putA ha (by decide) hq hd (f := upd (aF σ (ad E a k)) i.toNat (I x)) (el_upd c2 (by rw [I_toInt hx]; exact hel))
  exact kk _ H1 locs1 p1 p2 (fm_up hO ha hk) (by rw [aF_at, ef]) hH1 hS1
theorem m_zald (hexec : p.tables.exec = Jvm.exec) (hb : c.code = cc) (hK : nq_K G y s) (hH : th_H G b0 σ H) (hO : ok y E σ) (ha : kd E a = 13) (hq : kfl 13 k = some (ci, 2, n, hi)) {i : Int} (hr : rng i) (h0 : 0 ≤ i) (hn : i < n) (hdg : decode cc pc = .ok (.baload, 1))
    (kk : ∀ z : Int, rng z → 0 ≤ z ∧ z ≤ 1 → W p l e R s m args below meth c H locs cells slots Q (F0 m (pc + 1) ls (.int (I z) :: rest))) : W p l e R s m args below meth c H locs cells slots Q (F0 m pc ls (.int (I i) :: .ref (ad E a k) :: rest)) :=
  ok_zald hexec hb hK hH hO ha (by decide) hq hr h0 hn hdg (fun z _ r b => kk z r b)
theorem m_zast (hexec : p.tables.exec = Jvm.exec) (hb : c.code = cc) (hK : nq_K G y s) (hH : th_H G b0 σ H) (hS : va_S (th_A b0) H0 H locs) (h00 : b0 ≤ H0.size) (hO : ok y E σ) (ha : kd E a = 13) (hq : kfl 13 k = some (ci, 2, n, hi)) (hk : k ∈ R13) {i x : Int} (hr : rng i) (h0 : 0 ≤ i) (hn : i < n) (hx : x = 0 ∨ x = 1) (hdg : decode cc pc = .ok (.bastore, 1))
    (kk : ∀ (σ1 : th_M) (H1 : Heap) (locs1 : List Loc), ok y E σ1 → fr [13] E σ σ1 → fm [k] E σ σ1 a → th_H G b0 σ1 H1 → va_S (th_A b0) H0 H1 locs1 → W p l e R s m args below meth c H1 locs1 cells slots Q (F0 m (pc + 1) ls rest)) : W p l e R s m args below meth c H locs cells slots Q (F0 m pc ls (.int (I x) :: .int (I i) :: .ref (ad E a k) :: rest)) := by
  obtain ⟨o, c1, c2⟩ := hO.arz ha (by decide) hq
  obtain ⟨q0, hq0⟩ := hH.pos c1
  refine va_zast hexec hb hK.1 hH.P hH.D hS q0 2 hq0 rfl (I_in hr h0 (by omega)) hdg (fun H1 locs1 hP1 _ hS1 => ?_)
  have en : vp_nar .boolean (I x) = I x := by rcases hx with h | h <;> rw [h] <;> decide
  rw [I_nat hr h0, en] at hP1
  obtain ⟨p1, p2, p3⟩ := hO.putZ ha (by decide) hq (f := upd (aF σ (ad E a k)) i.toNat (I x)) (fun q => by
    by_cases h : q = i.toNat
    · subst h; rw [upd_at]; rcases hx with h | h <;> rw [h] <;> decide
    · rw [upd_no _ _ h]; exact c2 q)
  exact kk _ H1 locs1 p1 p2 (fm_up hO ha hk) (hH.set hq0 hP1 (Nat.le_trans h00 hS1.1)) hS1
end MBW
section MBP
variable {y : Nat → ClassId} {E : th_E} {σ : th_M} {a k ci : Nat} {lo hi : Int} {G : va_G} {b0 : Nat} {H0 : Heap}
theorem fm_own {fs : List Value} {v : Value} {c : Nat × Int × Int} (h : ok y E σ) (ha : kd E a = 13) (hq : kfl 13 k = some (11, c)) (hf : σ a = some (.inr (11, fs))) (hv : ∀ σ1, fo y E σ1 a k c v) : fm [k] E σ (th_up σ a (.inr (11, fs.set k v))) a := by
  refine ⟨fun j hj => ?_, fun j hj hn => (h.own ha (by decide) hq hf hv).2.2.2 _, fun x hx => th_up_ne _ _ (fun e9 => by
    rw [e9, h.ow0 ha (by decide)] at hx
    have : (99 : Nat) = 98 := congrArg Prod.snd hx
    exact absurd this (by decide))⟩
  have hjk : k ≠ j := fun e => hj (by rw [e]; exact List.mem_singleton.mpr rfl)
  simp only [gV, th_up_at, hf, List.getElem?_set_ne hjk]
theorem ok.putJ {C : Heap → List Loc → Prop} {B : Prop} {z : Int} (h : ok y E σ) (ha : kd E a = 13) (hq : kfl 13 k = some (11, 0, lo, hi)) (hr : rng z) (hl : lo ≤ z) (hu : z ≤ hi)
    (hput : ∀ fs : List Value, σ a = some (.inr (11, fs)) → k < fs.length → (∀ (H1 : Heap) (locs1 : List Loc), th_H G b0 (th_up σ a (.inr (11, fs.set k (.int (I z))))) H1 → va_S (th_A b0) H0 H1 locs1 → C H1 locs1) → B)
    (kk : ∀ (σ1 : th_M) (H1 : Heap) (locs1 : List Loc), ok y E σ1 → fr [13] E σ σ1 → fm [k] E σ σ1 a → gI σ1 a k = z → (∀ b, aF σ1 b = aF σ b) → th_H G b0 σ1 H1 → va_S (th_A b0) H0 H1 locs1 → C H1 locs1) : B := by
  obtain ⟨w, fs, v, q1, q2, q3, q4, q5⟩ := h.fld ha (by decide) hq
  refine hput fs q1 q4 (fun H1 locs1 hH1 hS1 => ?_)
  obtain ⟨p1, p2, p3, p4⟩ := h.own ha (by decide) hq q1 (v := .int (I z)) (fun _ => fo_int hr hl hu)
  exact kk _ H1 locs1 p1 p2 (fm_own h ha hq q1 (fun _ => fo_int hr hl hu)) (gI_of (th_up_at _ _ _) (List.getElem?_set_self q4) hr) p4 hH1 hS1
theorem ok.putS {C : Heap → List Loc → Prop} {B : Prop} {j : Nat} (h : ok y E σ) (ha : kd E a = 13) (hj : j = 6 ∨ j = 7)
    (hput : ∀ fs : List Value, σ a = some (.inr (11, fs)) → 9 < fs.length → (∀ (H1 : Heap) (locs1 : List Loc), th_H G b0 (th_up σ a (.inr (11, fs.set 9 (.ref (ad E a j))))) H1 → va_S (th_A b0) H0 H1 locs1 → C H1 locs1) → B)
    (kk : ∀ (σ1 : th_M) (H1 : Heap) (locs1 : List Loc), ok y E σ1 → fr [13] E σ σ1 → fm [9] E σ σ1 a → gV σ1 a 9 = some (.ref (ad E a j)) → (∀ b, aF σ1 b = aF σ b) → th_H G b0 σ1 H1 → va_S (th_A b0) H0 H1 locs1 → C H1 locs1) : B := by
  obtain ⟨w, fs, v, q1, q2, q3, q4, q5⟩ := h.fld ha (by decide) k13_9
  refine hput fs q1 q4 (fun H1 locs1 hH1 hS1 => ?_)
  have hfo : ∀ σ1, fo y E σ1 a 9 (8, 6, 7) (.ref (ad E a j)) := fun _ => fo_src (by omega)
  obtain ⟨p1, p2, p3, p4⟩ := h.own ha (by decide) k13_9 q1 hfo
  exact kk _ H1 locs1 p1 p2 (fm_own h ha k13_9 q1 hfo) (by simp only [gV, th_up_at, List.getElem?_set_self q4]) p4 hH1 hS1
theorem ok.getS {A : Value → Prop} {B : Prop} {v : Value} (h : ok y E σ) (ha : kd E a = 13) (hv : gV σ a 9 = some v) (hget : ∀ (fs : List Value) (v : Value), σ a = some (.inr (11, fs)) → fs[9]? = some v → A v → B) (kk : A v) : B := by
  obtain ⟨fs, h2⟩ := h.cell ha (by decide) (ci := 11) rfl
  refine hget fs v h2 ?_ kk
  simp only [gV, h2] at hv
  exact hv
end MBP
theorem th_topq {p : Program} {l : Launch} {e : Env} {R : Room} {s : State} {m : MethodId} {args : Array Value} {below : List Frame} {meth : Method} {c : Code} {H : Heap} {locs : List Loc} {cells slots : Nat} {Q : State → Prop} {rest : List Value} {pc : Nat} {ls : Array Slot} {a n : Int} (h : a = n) (k : W p l e R s m args below meth c H locs cells slots Q (F0 m pc ls (.int (I n) :: rest))) : W p l e R s m args below meth c H locs cells slots Q (F0 m pc ls (.int (I a) :: rest)) := by
  rw [h]; exact k
/-- a step on: bad, or at the end, or further on -/
def pgo (b t x z : Int) : Prop := ¬ b = 0 ∨ t = 0 ∨ x < z
/-- what is bad stays so -/
def bdo (b c : Int) : Prop := b = 0 ∨ ¬ c = 0
theorem pgo.of {b t x z : Int} (h : ¬ b = 0 ∨ t = 0 ∨ x < z) : pgo b t x z := h
theorem bdo.of {b c : Int} (h : b = 0 ∨ ¬ c = 0) : bdo b c := h
