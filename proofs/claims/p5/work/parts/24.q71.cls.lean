/-! THE CLASS'S READERS: where they stand -/
def tks (E : th_E) (σ : th_M) (t : Nat) (T : tkT) : Prop := aF σ (ad E t 0) = T.1 ∧ aF σ (ad E t 1) = T.2.1 ∧ aF σ (ad E t 2) = T.2.2.1 ∧ aF σ (ad E t 3) = T.2.2.2.1 ∧ gI σ t 4 = tm T
def tfin (T : tkT) : Prop := ∀ j, 0 ≤ j → j < tm T → tK T j ≠ 259 → j + 1 < tm T
/-- the tokens t stand at the token j, or have found the fault c there -/
def TSt (E : th_E) (σ : th_M) (t : Nat) (T : tkT) (c j : Int) : Prop := tks E σ t T ∧ tfin T ∧ (0 ≤ j ∧ j < tm T ∧ tm T ≤ 401 ∧ gI σ t 7 = c ∧ (c = 0 → gI σ t 5 = j ∧ gI σ t 6 = tK T j ∧ gI σ t 8 = -1) ∧ (c ≠ 0 → gI σ t 8 = tS T j ∧ gI σ t 6 = 260))
section CLSR
variable {y : Nat → ClassId} {E : th_E} {σ σ1 σ2 : th_M} {a b t κ k k2 ci cd : Nat} {lo hi n n2 hi2 c j c1 j1 d d2 i v u v2 sz : Int} {ci2 cd2 : Nat} {T : tkT} {S : List Nat} {ks : List Int}
theorem ok.adq (h : ok y E σ) (ha : kd E a = κ) (h0 : κ ≠ 0) (hq : kfl κ k = some (ci, cd, n, hi)) (hd : isA cd) (hq2 : kfl κ k2 = some (ci2, cd2, n2, hi2)) (hd2 : isA cd2) (hn : k ≠ k2) : ad E a k ≠ ad E a k2 := by
  intro e
  have h1 := (h.arr ha h0 hq hd).1
  rw [e, (h.arr ha h0 hq2 hd2).1] at h1
  exact hn (congrArg Prod.snd h1).symm
theorem tks.put (h : tks E σ a T) (ha9 : ∀ b, aF σ1 b = aF σ b) (h4 : gI σ1 a 4 = gI σ a 4) : tks E σ1 a T := by
  unfold tks
  rw [ha9, ha9, ha9, ha9, h4]
  exact h
theorem tks.mv (hO : ok y E σ) (hF : fr S E σ σ1) (ht : kd E t = 3) (hS : 3 ∉ S) (h : tks E σ t T) : tks E σ1 t T := by
  unfold tks
  rw [fr.af hO hF ht (by decide) hS k3_0 isA1, fr.af hO hF ht (by decide) hS k3_1 isA1, fr.af hO hF ht (by decide) hS k3_2 isA1, fr.af hO hF ht (by decide) hS k3_3 isA1, fr.ki hO hF ht (by decide) hS 4]
  exact h
theorem TSt.mv (hO : ok y E σ) (hF : fr S E σ σ1) (ht : kd E t = 3) (hS : 3 ∉ S) (h : TSt E σ t T c j) : TSt E σ1 t T c j := by
  obtain ⟨h1, h2, h3⟩ := h
  refine ⟨h1.mv hO hF ht hS, h2, ?_⟩
  rw [fr.ki hO hF ht (by decide) hS 5, fr.ki hO hF ht (by decide) hS 6, fr.ki hO hF ht (by decide) hS 7, fr.ki hO hF ht (by decide) hS 8]
  exact h3
/-! trees that come out of readers -/
def nE (E : th_E) (σ : th_M) (b : Nat) (q : Int) : Int := (aF σ (ad E b 0) q.toNat).toInt
def kE (E : th_E) (σ : th_M) (b : Nat) (q : Int) : Int := (aF σ (ad E b 2) q.toNat).toInt
def dE (E : th_E) (σ : th_M) (b : Nat) (q : Int) : Int := (aF σ (ad E b 3) q.toNat).toInt
def kp (E : th_E) (σ σ1 : th_M) (b : Nat) (n : Int) : Prop := ∀ q : Int, 0 ≤ q → q < n → nE E σ1 b q = nE E σ b q ∧ kE E σ1 b q = kE E σ b q ∧ dE E σ1 b q = dE E σ b q
/-- the thing i has come, at the depth d, by the key u, and what is within it -/
def gr (E : th_E) (σ σ1 : th_M) (b : Nat) (i d u : Int) : Prop := kp E σ σ1 b i ∧ 0 ≤ i ∧ i < gI σ1 b 4 ∧ kE E σ1 b i = u ∧ dE E σ1 b i = d ∧ ∀ q, i < q → q < gI σ1 b 4 → d < dE E σ1 b q
def kids (E : th_E) (σ : th_M) (b : Nat) (i d : Int) (ks : List Int) : Prop := ∀ v, v ∈ ks ↔ ∃ q, i < q ∧ q < gI σ b 4 ∧ dE E σ b q = d + 1 ∧ kE E σ b q = v
/-- a map that is being read -/
def mapst (E : th_E) (σ : th_M) (b : Nat) (i d : Int) (ks : List Int) : Prop := 0 ≤ i ∧ i < gI σ b 4 ∧ nE E σ b i = 3 ∧ dE E σ b i = d ∧ (∀ q, i < q → q < gI σ b 4 → d < dE E σ b q) ∧ kids E σ b i d ks
theorem gro_add {f0 f2 f3 : Nat → Int32} {x : Int} (h0 : 0 ≤ i) (hi : gI σ1 b 4 = i + 1) (ru : rng u) (rd : rng d) (e0 : aF σ (ad E b 0) = f0) (e2 : aF σ (ad E b 2) = f2) (e3 : aF σ (ad E b 3) = f3) (g0 : aF σ1 (ad E b 0) = upd f0 i.toNat (I x)) (g2 : aF σ1 (ad E b 2) = upd f2 i.toNat (I u)) (g3 : aF σ1 (ad E b 3) = upd f3 i.toNat (I d)) : gr E σ σ1 b i d u := by
  subst e0
  subst e2
  subst e3
  refine ⟨fun q h1 h2 => ?_, h0, by omega, ?_, ?_, fun q h1 h2 => by omega⟩
  · unfold nE kE dE
    rw [g0, g2, g3, upd_no _ _ (by omega), upd_no _ _ (by omega), upd_no _ _ (by omega)]
    exact ⟨rfl, rfl, rfl⟩
  · unfold kE
    rw [g2, upd_at, I_toInt ru]
  · unfold dE
    rw [g3, upd_at, I_toInt rd]
theorem nE_add {x : Int} {f0 : Nat → Int32} (rx : rng x) (g0 : aF σ1 (ad E b 0) = upd f0 i.toNat (I x)) : nE E σ1 b i = x := by
  unfold nE
  rw [g0, upd_at, I_toInt rx]
theorem kp.tr (h : kp E σ σ1 b n) (h2 : kp E σ1 σ2 b n2) (hn : n ≤ n2) : kp E σ σ2 b n := fun q h0 h1 => by
  obtain ⟨a1, a2, a3⟩ := h q h0 h1
  obtain ⟨b1, b2, b3⟩ := h2 q h0 (by omega)
  exact ⟨b1.trans a1, b2.trans a2, b3.trans a3⟩
theorem gr.child (h : gr E σ σ1 b i d u) (h2 : gr E σ1 σ2 b (gI σ1 b 4) d2 v) (hd : d2 = d + 1) : gr E σ σ2 b i d u := by
  obtain ⟨p1, p0, p2, p3, p4, p5⟩ := h
  obtain ⟨q1, q0, q2, q3, q4, q5⟩ := h2
  refine ⟨p1.tr q1 (by omega), p0, by omega, ?_, ?_, fun q h1 h2 => ?_⟩
  · rw [(q1 i p0 p2).2.1]; exact p3
  · rw [(q1 i p0 p2).2.2]; exact p4
  · rcases Int.lt_trichotomy q (gI σ1 b 4) with h3 | h3 | h3
    · rw [(q1 q (by omega) h3).2.2]; exact p5 q h1 h3
    · rw [h3, q4]; omega
    · have := q5 q h3 h2
      omega
theorem kids.nil (h : gI σ b 4 = i + 1) : kids E σ b i d [] := fun v => ⟨fun h9 => (by cases h9), fun ⟨q, h1, h2, _⟩ => absurd h1 (by omega)⟩
theorem kids.snoc (h : kids E σ1 b i d ks) (h2 : gr E σ1 σ2 b (gI σ1 b 4) d2 v) (hd : d2 = d + 1) (h0 : 0 ≤ i) (hi : i < gI σ1 b 4) : kids E σ2 b i d (ks ++ [v]) := by
  obtain ⟨q1, q0, q2, q3, q4, q5⟩ := h2
  intro w
  rw [List.mem_append, List.mem_singleton]
  constructor
  · intro hw
    rcases hw with hw | hw
    · obtain ⟨q, r1, r2, r3, r4⟩ := (h w).mp hw
      obtain ⟨-, e2, e3⟩ := q1 q (by omega) r2
      exact ⟨q, r1, by omega, by rw [e3]; exact r3, by rw [e2]; exact r4⟩
    · exact ⟨gI σ1 b 4, hi, q2, by rw [q4]; exact hd, by rw [q3, hw]⟩
  · intro ⟨q, r1, r2, r3, r4⟩
    rcases Int.lt_trichotomy q (gI σ1 b 4) with h3 | h3 | h3
    · obtain ⟨-, e2, e3⟩ := q1 q (by omega) h3
      rw [e2] at r4
      rw [e3] at r3
      exact Or.inl ((h w).mpr ⟨q, r1, h3, r3, r4⟩)
    · rw [h3, q3] at r4
      exact Or.inr r4.symm
    · have := q5 q h3 r2
      omega
theorem mapst.snoc (h : mapst E σ1 b i d ks) (h2 : gr E σ1 σ2 b (gI σ1 b 4) d2 v) (hd : d2 = d + 1) : mapst E σ2 b i d (ks ++ [v]) := by
  obtain ⟨p1, p2, p3, p4, p5, p6⟩ := h
  have hk := p6.snoc h2 hd p1 p2
  obtain ⟨q1, q0, q2, q3, q4, q5⟩ := h2
  refine ⟨p1, by omega, ?_, ?_, fun q h1 h2 => ?_, hk⟩
  · rw [(q1 i p1 p2).1]; exact p3
  · rw [(q1 i p1 p2).2.2]; exact p4
  · rcases Int.lt_trichotomy q (gI σ1 b 4) with h3 | h3 | h3
    · rw [(q1 q (by omega) h3).2.2]; exact p5 q h1 h3
    · rw [h3, q4]; omega
    · have := q5 q h3 h2
      omega
/-- the search for a key has come to its end, has found it -/
theorem mapst.no (h : mapst E σ b i d ks) (hn : ∀ q, i < q → q < gI σ b 4 → ¬ (dE E σ b q = d + 1 ∧ kE E σ b q = u)) : u ∉ ks := fun hu => by
  obtain ⟨q, r1, r2, r3, r4⟩ := (h.2.2.2.2.2 u).mp hu
  exact hn q r1 r2 ⟨r3, r4⟩
theorem mapst.yes {q : Int} (h : mapst E σ b i d ks) (h1 : i < q) (h2 : q < gI σ b 4) (h3 : dE E σ b q = d + 1) (h4 : kE E σ b q = u) : u ∈ ks := (h.2.2.2.2.2 u).mpr ⟨q, h1, h2, h3, h4⟩
/-- the rows of b are what they were -/
def rb (E : th_E) (σ σ1 : th_M) (b : Nat) : Prop := gI σ1 b 4 = gI σ b 4 ∧ aF σ1 (ad E b 0) = aF σ (ad E b 0) ∧ aF σ1 (ad E b 2) = aF σ (ad E b 2) ∧ aF σ1 (ad E b 3) = aF σ (ad E b 3)
theorem rb.rf : rb E σ σ b := ⟨rfl, rfl, rfl, rfl⟩
theorem rb.mv1 (hO : ok y E σ1) (hF : fr S E σ1 σ2) (hb : kd E b = 1) (hS : 1 ∉ S) : rb E σ1 σ2 b := ⟨fr.ki hO hF hb (by decide) hS 4, fr.af hO hF hb (by decide) hS k1_0 isA1, fr.af hO hF hb (by decide) hS k1_2 isA1, fr.af hO hF hb (by decide) hS k1_3 isA7⟩
theorem rb.tr (h : rb E σ σ1 b) (h2 : rb E σ1 σ2 b) : rb E σ σ2 b := ⟨h2.1.trans h.1, h2.2.1.trans h.2.1, h2.2.2.1.trans h.2.2.1, h2.2.2.2.trans h.2.2.2⟩
theorem rb.mv (hO : ok y E σ1) (hF : fr S E σ1 σ2) (hb : kd E b = 1) (hS : 1 ∉ S) (h : rb E σ σ1 b) : rb E σ σ2 b := h.tr (rb.mv1 hO hF hb hS)
theorem rb.nn (h : rb E σ σ1 b) (q : Int) : nE E σ1 b q = nE E σ b q := by unfold nE; rw [h.2.1]
theorem rb.kk (h : rb E σ σ1 b) (q : Int) : kE E σ1 b q = kE E σ b q := by unfold kE; rw [h.2.2.1]
theorem rb.dd (h : rb E σ σ1 b) (q : Int) : dE E σ1 b q = dE E σ b q := by unfold dE; rw [h.2.2.2]
theorem gr.to (h : gr E σ σ1 b i d u) (h2 : rb E σ1 σ2 b) : gr E σ σ2 b i d u := by
  obtain ⟨p1, p0, p2, p3, p4, p5⟩ := h
  refine ⟨fun q h3 h4 => ?_, p0, by rw [h2.1]; exact p2, by rw [h2.kk]; exact p3, by rw [h2.dd]; exact p4, fun q h3 h4 => by rw [h2.dd]; exact p5 q h3 (by rw [← h2.1]; exact h4)⟩
  rw [h2.nn, h2.kk, h2.dd]
  exact p1 q h3 h4
theorem gr.mv (hO : ok y E σ1) (hF : fr S E σ1 σ2) (hb : kd E b = 1) (hS : 1 ∉ S) (h : gr E σ σ1 b i d u) : gr E σ σ2 b i d u := h.to (rb.mv1 hO hF hb hS)
theorem gr.pre (h : rb E σ σ1 b) (h2 : gr E σ1 σ2 b (gI σ1 b 4) d u) : gr E σ σ2 b (gI σ b 4) d u := by
  rw [h.1] at h2
  obtain ⟨p1, p0, p2, p3, p4, p5⟩ := h2
  refine ⟨fun q h3 h4 => ?_, p0, p2, p3, p4, p5⟩
  have h5 := p1 q h3 h4
  rw [h.nn, h.kk, h.dd] at h5
  exact h5
theorem mapst.mv (hO : ok y E σ1) (hF : fr S E σ1 σ2) (hb : kd E b = 1) (hS : 1 ∉ S) (h : mapst E σ1 b i d ks) : mapst E σ2 b i d ks := by
  have h2 := rb.mv1 hO hF hb hS
  obtain ⟨p1, p2, p3, p4, p5, p6⟩ := h
  refine ⟨p1, by rw [h2.1]; exact p2, by rw [h2.nn]; exact p3, by rw [h2.dd]; exact p4, fun q h3 h4 => by rw [h2.dd]; exact p5 q h3 (by rw [← h2.1]; exact h4), fun v => ?_⟩
  rw [p6 v]
  constructor
  · intro ⟨q, r1, r2, r3, r4⟩
    exact ⟨q, r1, by rw [h2.1]; exact r2, by rw [h2.dd]; exact r3, by rw [h2.kk]; exact r4⟩
  · intro ⟨q, r1, r2, r3, r4⟩
    rw [h2.1] at r2
    rw [h2.dd] at r3
    rw [h2.kk] at r4
    exact ⟨q, r1, r2, r3, r4⟩
theorem mapst.start (h : gr E σ σ1 b i d u) (hn : nE E σ1 b i = 3) (hs : gI σ1 b 4 = i + 1) : mapst E σ1 b i d [] :=
  ⟨h.2.1, h.2.2.1, hn, h.2.2.2.2.1, h.2.2.2.2.2, kids.nil hs⟩
end CLSR
