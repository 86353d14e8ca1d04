/-! WHERE A ROW'S PATH LEADS -/
def pq (pl m : Int) : Int := if pl < 0 then pl + m else pl
def ldst (f : Nat → Int32) (t0 s t : Int) : Prop := (0 < s ∧ mK f t0 = 3 ∧ ((t = -1 ∧ nok f (t0 + 1) (t0 + mS f t0) s) ∨ (kid f t0 t ∧ mY f t = s))) ∨ (¬ 0 < s ∧ mK f t0 = 2 ∧ ∃ m, chn f (t0 + 1) m (t0 + mS f t0) ∧ ((t = -1 ∧ ¬ (0 ≤ pq (-1 - s) m ∧ pq (-1 - s) m < m)) ∨ (0 ≤ pq (-1 - s) m ∧ pq (-1 - s) m < m ∧ chn f (t0 + 1) (pq (-1 - s) m) t ∧ t0 < t ∧ t < t0 + mS f t0))) ∨ (t = -1 ∧ ¬ (0 < s ∧ mK f t0 = 3) ∧ ¬ (¬ 0 < s ∧ mK f t0 = 2))
def ld (f p : Nat → Int32) (b : Int) : Nat → Int → Prop
  | 0, t => t = 0
  | k + 1, t => ∃ t0, ld f p b k t0 ∧ ((t0 = -1 ∧ t = -1) ∨ (0 ≤ t0 ∧ t0 < mS f 0 ∧ ldst f t0 (p (b + (k : Int)).toNat).toInt t))
section LD
variable {f p : Nat → Int32} {b t t0 t1 s q M z : Int} {k n : Nat} {x : Nat}
theorem ldst.uniq (hT : mT f 0 M) (h0 : 0 ≤ t0) (h1 : t0 < M) (a : ldst f t0 s t) (c : ldst f t0 s t1) : t = t1 := by
  have hw := hT.1
  rcases a with ⟨a1, a2, a3⟩ | ⟨a1, a2, m, a3, a4⟩ | ⟨a1, a2, a3⟩
  · rcases c with ⟨c1, c2, c3⟩ | ⟨c1, c2, m2, c3, c4⟩ | ⟨c1, c2, c3⟩
    · rcases a3 with ⟨e1, e2⟩ | ⟨e1, e2⟩
      · rcases c3 with ⟨d1, d2⟩ | ⟨d1, d2⟩
        · rw [e1, d1]
        · exact absurd d2 (nok_of hw h0 h1 e2 _ (kid_of hw h0 h1 d1))
      · rcases c3 with ⟨d1, d2⟩ | ⟨d1, d2⟩
        · exact absurd e2 (nok_of hw h0 h1 d2 _ (kid_of hw h0 h1 e1))
        · exact kdn_of hT.2 hw t0 h0 h1 a2 t t1 (kid_of hw h0 h1 e1) (kid_of hw h0 h1 d1) (by rw [e2, d2])
    · exact absurd a1 c1
    · exact absurd ⟨a1, a2⟩ c2
  · rcases c with ⟨c1, c2, c3⟩ | ⟨c1, c2, m2, c3, c4⟩ | ⟨c1, c2, c3⟩
    · exact absurd c1 a1
    · have em : m = m2 := by
        obtain ⟨R, hR, e⟩ := a3
        obtain ⟨R2, hR2, e2⟩ := c3
        rw [← e, ← e2, hR.uniq hR2]
      rw [← em] at c4
      rcases a4 with ⟨e1, e2⟩ | ⟨e1, e2, e3, _⟩
      · rcases c4 with ⟨d1, d2⟩ | ⟨d1, d2, d3, _⟩
        · rw [e1, d1]
        · exact absurd ⟨d1, d2⟩ e2
      · rcases c4 with ⟨d1, d2⟩ | ⟨d1, d2, d3, _⟩
        · exact absurd ⟨e1, e2⟩ d2
        · exact e3.uniq d3
    · exact absurd ⟨a1, a2⟩ c3
  · rcases c with ⟨c1, c2, c3⟩ | ⟨c1, c2, m2, c3, c4⟩ | ⟨c1, c2, c3⟩
    · exact absurd ⟨c1, c2⟩ a2
    · exact absurd ⟨c1, c2⟩ a3
    · rw [a1, c1]
theorem ld.uniq (hT : mT f 0 M) (hM : mS f 0 = M) : ∀ (k : Nat) (t t1 : Int), ld f p b k t → ld f p b k t1 → t = t1
  | 0, t, t1, a, c => by
    have a : t = 0 := a
    have c : t1 = 0 := c
    rw [a, c]
  | k + 1, t, t1, a, c => by
    obtain ⟨u, a1, a2⟩ := a
    obtain ⟨v, c1, c2⟩ := c
    have e := ld.uniq hT hM k u v a1 c1
    rw [← e] at c2
    rcases a2 with ⟨e1, e2⟩ | ⟨e1, e2, e3⟩
    · rcases c2 with ⟨d1, d2⟩ | ⟨d1, d2, d3⟩
      · rw [e2, d2]
      · omega
    · rcases c2 with ⟨d1, d2⟩ | ⟨d1, d2, d3⟩
      · omega
      · exact ldst.uniq hT e1 (by omega) e3 d3
theorem ld.stay (h : ld f p b k (-1)) : ∀ n : Nat, ld f p b (k + n) (-1)
  | 0 => h
  | n + 1 => ⟨-1, ld.stay h n, Or.inl ⟨rfl, rfl⟩⟩
theorem ld.to {i j : Int} (h : ld f p b i.toNat (-1)) (hi : 0 ≤ i) (hj : i ≤ j) : ld f p b j.toNat (-1) := by
  have := h.stay (j.toNat - i.toNat)
  rwa [show i.toNat + (j.toNat - i.toNat) = j.toNat by omega] at this
theorem ld.eq {i j : Int} (h : ld f p b i.toNat t) (e : i = j) : ld f p b j.toNat t := e ▸ h
theorem ld.next {i j : Int} (h : ld f p b i.toNat t0) (hi : 0 ≤ i) (h0 : 0 ≤ t0) (h1 : t0 < mS f 0) (hs : ldst f t0 z t) (hz : (p x).toInt = z) (hx : (x : Int) = b + i) (hj : j = i + 1) : ld f p b j.toNat t := by
  rw [hj, show (i + 1).toNat = i.toNat + 1 by omega]
  refine ⟨t0, h, Or.inr ⟨h0, h1, ?_⟩⟩
  rw [show (b + (i.toNat : Int)).toNat = x by omega, hz]
  exact hs
theorem ld.last {i j : Int} (h1 : ld f p b i.toNat q) (h2 : ld f p b j.toNat t) (hj : j = i + 1) (hi : 0 ≤ i) (hT : mT f 0 M) (hM : mS f 0 = M) (hq : 0 ≤ q) (hz : (p x).toInt = z) (hx : (x : Int) = b + i) : ldst f q z t := by
  rw [hj, show (i + 1).toNat = i.toNat + 1 by omega] at h2
  obtain ⟨t0, a1, a2⟩ := h2
  have e := ld.uniq hT hM _ _ _ h1 a1
  rw [← e, show (b + (i.toNat : Int)).toNat = x by omega, hz] at a2
  rcases a2 with ⟨e1, e2⟩ | ⟨e1, e2, e3⟩
  · omega
  · exact e3
theorem ldst.kid (h : ldst f q z t) (ht : ¬ t = -1) (hT : mT f 0 M) (h0 : 0 ≤ q) (h1 : q < M) : kc f q t ∧ (mK f q = 3 → mY f t = z) := by
  rcases h with ⟨a1, a2, a3⟩ | ⟨a1, a2, m, a3, a4⟩ | ⟨a1, a2, a3⟩
  · rcases a3 with ⟨e1, e2⟩ | ⟨e1, e2⟩
    · exact absurd e1 ht
    · exact ⟨kid_of hT.1 h0 h1 e1, fun _ => e2⟩
  · rcases a4 with ⟨e1, e2⟩ | ⟨e1, e2, e3, e4, e5⟩
    · exact absurd e1 ht
    · exact ⟨kid_of hT.1 h0 h1 (kid.mk1 e4 e5 e3), fun h9 => by omega⟩
  · exact absurd a1 ht
theorem ldst.non (h : ldst f q z (-1)) (hz : 0 < z) (hT : mT f 0 M) (h0 : 0 ≤ q) (h1 : q < M) : gk f q z := by
  intro hk
  rcases h with ⟨a1, a2, a3⟩ | ⟨a1, a2, m, a3, a4⟩ | ⟨a1, a2, a3⟩
  · rcases a3 with ⟨e1, e2⟩ | ⟨e1, e2⟩
    · exact nok_of hT.1 h0 h1 e2
    · have := e1.1; omega
  · omega
  · exact absurd ⟨hz, hk⟩ a2
end LD
theorem mT.eqM {f : Nat → Int32} {a M N : Int} (h : mT f a M) (e : M = N) : mT f a N := e ▸ h
