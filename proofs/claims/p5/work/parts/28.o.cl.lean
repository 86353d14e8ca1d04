/-! CELLS THAT ARE COPIED, MOVED, LAID -/
def cpd (f g h : Nat → Int32) (m k p : Int) : Prop := (∀ x : Int, 0 ≤ x → x < 4 * m → g x.toNat = f x.toNat) ∧ ∀ x : Int, 0 ≤ x → x < p → g (4 * m + x).toNat = h (4 * k + x).toNat
def ct1 (f g : Nat → Int32) (t n j : Int) : Prop := ∀ p, 0 ≤ p → mK g p = mK f p ∧ mY g p = mY f p ∧ (p < j ∧ t < p + mS f p → mS g p = mS f p - n) ∧ (¬ (p < j ∧ t < p + mS f p) → mS g p = mS f p)
def ct2 (f g : Nat → Int32) (t n k : Int) : Prop := ∀ x : Int, 0 ≤ x → (4 * t ≤ x → x < k → g x.toNat = f (x + 4 * n).toNat) ∧ (x < 4 * t ∨ k ≤ x → g x.toNat = f x.toNat)
def ly1 (f g : Nat → Int32) (pl n M k : Int) : Prop := (∀ x : Int, 0 ≤ x → (x < 4 * pl ∨ x ≤ k) → g x.toNat = f x.toNat) ∧ (∀ x : Int, k < x → 4 * pl ≤ x → x < 4 * M → g (x + 4 * n).toNat = f x.toNat)
def ly2 (f g h : Nat → Int32) (pl n M p : Int) : Prop := (∀ x : Int, 0 ≤ x → x < 4 * pl → g x.toNat = f x.toNat) ∧ (∀ x : Int, 4 * pl ≤ x → x < 4 * M → g (x + 4 * n).toNat = f x.toNat) ∧ (∀ x : Int, 0 ≤ x → x < p → g (4 * pl + x).toNat = h x.toNat)
def ly3 (f g h : Nat → Int32) (q pl n v M j : Int) : Prop := ∀ p, 0 ≤ p → p < M + n → (p < pl → mK g p = mK f p ∧ mY g p = mY f p ∧ (p < j ∧ p ≤ q ∧ q < p + mS f p → mS g p = mS f p + n) ∧ (¬ (p < j ∧ p ≤ q ∧ q < p + mS f p) → mS g p = mS f p)) ∧ (pl ≤ p → p < pl + n → mK g p = mK h (p - pl) ∧ mS g p = mS h (p - pl) ∧ (p ≠ pl → mY g p = mY h (p - pl)) ∧ (p = pl → mY g p = v)) ∧ (pl + n ≤ p → mK g p = mK f (p - n) ∧ mY g p = mY f (p - n) ∧ mS g p = mS f (p - n))
def kp1 (f g : Nat → Int32) (k : Int) : Prop := ∀ x : Int, 0 ≤ x → (x + 240 < k → g x.toNat = f (x + 240).toNat) ∧ (k ≤ x + 240 → g x.toNat = f x.toNat)
def kp2 (f g h : Nat → Int32) (m p : Int) : Prop := (∀ x : Int, 0 ≤ x → x < 240 * m → g x.toNat = f x.toNat) ∧ ∀ x : Int, 0 ≤ x → x < p → g (240 * m + x).toNat = h x.toNat
def tr (f : Nat → Int32) : Prop := mT f 0 (mS f 0) ∧ 1 ≤ mS f 0 ∧ mS f 0 ≤ 60 ∧ dpt f 0 (mS f 0) 7
def trs (f : Nat → Int32) (n : Int) : Prop := ∀ j : Int, 0 ≤ j → j < n → tr (fun x => f ((240 * j).toNat + x))
section CL
variable {f g g' h f1 : Nat → Int32} {t n j k m p q v z M pl : Int} {x y : Nat}
theorem cpd.zero : cpd f f h m k 0 := ⟨fun _ _ _ => rfl, fun x h1 h2 => absurd h1 (by omega)⟩
theorem cpd.step (h1 : cpd f g h m k p) (e : g' = upd g x (I z)) (hx : (x : Int) = 4 * m + p) (hz : (h y).toInt = z) (hy : (y : Int) = 4 * k + p) (hm : 0 ≤ m) (hp : 0 ≤ p) : cpd f g' h m k (p + 1) := by
  refine ⟨fun w h2 h3 => ?_, fun w h2 h3 => ?_⟩
  · rw [e, upd_no _ _ (by omega)]; exact h1.1 w h2 h3
  · by_cases e2 : w = p
    · rw [e2, e, show (4 * m + p).toNat = x by omega, upd_at, ← hz, I_of, show (4 * k + p).toNat = y by omega]
    · rw [e, upd_no _ _ (by omega)]; exact h1.2 w h2 (by omega)
theorem cpd.fin (h1 : cpd f g h m k p) (hp : p = 4 * n) (hk : 0 ≤ k) : same f g 0 m 0 ∧ same h g k (k + n) (m - k) := by
  refine ⟨fun w h2 h3 => ?_, fun w h2 h3 => ?_⟩
  · rw [show w + 4 * 0 = w by omega]; exact h1.1 w (by omega) h3
  · have := h1.2 (w - 4 * k) (by omega) (by omega)
    rw [show w + 4 * (m - k) = 4 * m + (w - 4 * k) by omega, this, show 4 * k + (w - 4 * k) = w by omega]
theorem mX_up (hx : (x : Int) = 4 * j + 3) (hp : 0 ≤ p) (e : g' = upd g x (I z)) : mK g' p = mK g p ∧ mY g' p = mY g p ∧ (p ≠ j → mS g' p = mS g p) := by
  unfold mK mY mS
  refine ⟨by rw [e, upd_no]; omega, by rw [e, upd_no]; omega, fun h1 => by rw [e, upd_no]; omega⟩
theorem mS_at (hx : (x : Int) = 4 * j + 3) (e : g' = upd g x (I z)) (hr : rng z) : mS g' j = z := by
  unfold mS
  rw [e, show (4 * j + 3).toNat = x by omega, upd_at, I_toInt hr]
theorem ct1.zero : ct1 f f t n 0 := fun p hp => ⟨rfl, rfl, fun h1 => absurd h1.1 (by omega), fun _ => rfl⟩
theorem ct1.now (h1 : ct1 f g t n j) (hj : 0 ≤ j) : mS g j = mS f j := (h1 j hj).2.2.2 (by omega)
theorem ct1.hit (h1 : ct1 f g t n j) (hj : 0 ≤ j) (ht : t < j + mS f j) (e : g' = upd g x (I z)) (hx : (x : Int) = 4 * j + 3) (hz : z = mS f j - n) (hr : rng z) : ct1 f g' t n (j + 1) := by
  intro p hp
  obtain ⟨a1, a2, a3, a4⟩ := h1 p hp
  obtain ⟨b1, b2, b3⟩ := mX_up (p := p) hx hp e
  refine ⟨b1.trans a1, b2.trans a2, fun h2 => ?_, fun h2 => ?_⟩
  · by_cases e2 : p = j
    · rw [e2, mS_at hx e hr, hz]
    · rw [b3 e2]; exact a3 ⟨by omega, h2.2⟩
  · by_cases e2 : p = j
    · rw [e2] at h2; exact absurd ⟨by omega, ht⟩ h2
    · rw [b3 e2]; exact a4 (fun h3 => h2 ⟨by omega, h3.2⟩)
theorem ct1.miss (h1 : ct1 f g t n j) (ht : ¬ t < j + mS f j) : ct1 f g t n (j + 1) := by
  intro p hp
  obtain ⟨a1, a2, a3, a4⟩ := h1 p hp
  refine ⟨a1, a2, fun h2 => ?_, fun h2 => a4 (fun h3 => h2 ⟨by omega, h3.2⟩)⟩
  by_cases e2 : p = j
  · rw [e2] at h2; exact absurd h2.2 ht
  · exact a3 ⟨by omega, h2.2⟩
theorem ct2.zero (hk : k = 4 * t) : ct2 f f t n k := fun x _ => ⟨fun h1 h2 => absurd h1 (by omega), fun _ => rfl⟩
theorem ct2.step (h1 : ct2 f g t n k) (hk : 4 * t ≤ k) (ht : 0 ≤ t) (hn : 0 ≤ n) (e : g' = upd g x (I z)) (hx : (x : Int) = k) (hz : (g y).toInt = z) (hy : (y : Int) = k + 4 * n) : ct2 f g' t n (k + 1) := by
  intro w hw
  obtain ⟨a1, a2⟩ := h1 w hw
  refine ⟨fun h2 h3 => ?_, fun h2 => ?_⟩
  · by_cases e2 : w = k
    · rw [e2, e, show k.toNat = x by omega, upd_at, ← hz, I_of, show y = (k + 4 * n).toNat by omega]
      exact (h1 (k + 4 * n) (by omega)).2 (Or.inr (by omega))
    · rw [e, upd_no _ _ (by omega)]; exact a1 h2 (by omega)
  · rw [e, upd_no _ _ (by omega)]; exact a2 (by omega)
theorem cut_fin (h1 : ct1 f f1 t n t) (h2 : ct2 f1 g t n k) (hk : k = 4 * (M - n)) (hn : 0 ≤ n) (ht : 0 ≤ t) : cutr f g t n M := by
  intro p hp hpM
  refine ⟨fun h3 => ?_, fun h3 => ?_⟩
  · obtain ⟨a1, a2, a3, a4⟩ := h1 p hp
    have c1 : mK g p = mK f1 p := by unfold mK; rw [(h2 (4 * p) (by omega)).2 (Or.inl (by omega))]
    have c2 : mY g p = mY f1 p := by unfold mY; rw [(h2 (4 * p + 2) (by omega)).2 (Or.inl (by omega))]
    have c3 : mS g p = mS f1 p := by unfold mS; rw [(h2 (4 * p + 3) (by omega)).2 (Or.inl (by omega))]
    exact ⟨c1.trans a1, c2.trans a2, fun h4 => c3.trans (a3 ⟨h3, h4⟩), fun h4 => c3.trans (a4 (by omega))⟩
  · obtain ⟨a1, a2, a3, a4⟩ := h1 (p + n) (by omega)
    have c1 : mK g p = mK f1 (p + n) := by unfold mK; rw [(h2 (4 * p) (by omega)).1 (by omega) (by omega), show 4 * p + 4 * n = 4 * (p + n) by omega]
    have c2 : mY g p = mY f1 (p + n) := by unfold mY; rw [(h2 (4 * p + 2) (by omega)).1 (by omega) (by omega), show 4 * p + 2 + 4 * n = 4 * (p + n) + 2 by omega]
    have c3 : mS g p = mS f1 (p + n) := by unfold mS; rw [(h2 (4 * p + 3) (by omega)).1 (by omega) (by omega), show 4 * p + 3 + 4 * n = 4 * (p + n) + 3 by omega]
    exact ⟨c1.trans a1, c2.trans a2, c3.trans (a4 (by omega))⟩
theorem ly1.zero (hk : 4 * M ≤ k + 1) : ly1 f f pl n M k := ⟨fun _ _ _ => rfl, fun x h1 h2 h3 => absurd h1 (by omega)⟩
theorem ly1.step (h1 : ly1 f g pl n M k) (hk : 4 * pl ≤ k) (hp : 0 ≤ pl) (hn : 1 ≤ n) (e : g' = upd g x (I z)) (hx : (x : Int) = k + 4 * n) (hz : (g y).toInt = z) (hy : (y : Int) = k) (hj : j = k - 1) : ly1 f g' pl n M j := by
  rw [hj]
  refine ⟨fun w h2 h3 => ?_, fun w h2 h3 h4 => ?_⟩
  · rw [e, upd_no _ _ (by omega)]; exact h1.1 w h2 (by omega)
  · by_cases e2 : w = k
    · rw [e2, e, show (k + 4 * n).toNat = x by omega, upd_at, ← hz, I_of, show y = k.toNat by omega]
      exact h1.1 k (by omega) (Or.inr (Int.le_refl _))
    · rw [e, upd_no _ _ (by omega)]; exact h1.2 w (by omega) h3 h4
theorem ly2.zero (h1 : ly1 f g pl n M k) (hk : k < 4 * pl) : ly2 f g h pl n M 0 := ⟨fun x h2 h3 => h1.1 x h2 (Or.inl h3), fun x h2 h3 => h1.2 x (by omega) h2 h3, fun x h2 h3 => absurd h2 (by omega)⟩
theorem ly2.step (h1 : ly2 f g h pl n M p) (hp : 0 ≤ p) (hpn : p < 4 * n) (hpl : 0 ≤ pl) (e : g' = upd g x (I z)) (hx : (x : Int) = 4 * pl + p) (hz : (h y).toInt = z) (hy : (y : Int) = p) : ly2 f g' h pl n M (p + 1) := by
  refine ⟨fun w h2 h3 => ?_, fun w h2 h3 => ?_, fun w h2 h3 => ?_⟩
  · rw [e, upd_no _ _ (by omega)]; exact h1.1 w h2 h3
  · rw [e, upd_no _ _ (by omega)]; exact h1.2.1 w h2 h3
  · by_cases e2 : w = p
    · rw [e2, e, show (4 * pl + p).toNat = x by omega, upd_at, ← hz, I_of, show y = p.toNat by omega]
    · rw [e, upd_no _ _ (by omega)]; exact h1.2.2 w h2 (by omega)
theorem ly3.zero (h1 : ly2 f g h pl n M p) (hp : p = 4 * n) (hpl : 0 ≤ pl) (hn : 1 ≤ n) (hM : pl ≤ M) (e : g' = upd g x (I v)) (hx : (x : Int) = 4 * pl + 2) (hr : rng v) : ly3 f g' h q pl n v M 0 := by
  obtain ⟨a1, a2, a3⟩ := h1
  intro w hw hwM
  refine ⟨fun h2 => ?_, fun h2 h3 => ?_, fun h2 => ?_⟩
  · refine ⟨?_, ?_, fun h4 => absurd h4.1 (by omega), fun _ => ?_⟩
    · unfold mK; rw [e, upd_no _ _ (by omega), a1 _ (by omega) (by omega)]
    · unfold mY; rw [e, upd_no _ _ (by omega), a1 _ (by omega) (by omega)]
    · unfold mS; rw [e, upd_no _ _ (by omega), a1 _ (by omega) (by omega)]
  · have b : ∀ c : Int, 0 ≤ c → c < 4 → c ≠ 2 ∨ w ≠ pl → g' (4 * w + c).toNat = h (4 * (w - pl) + c).toNat := fun c c1 c2 c3 => by
      rw [e, upd_no _ _ (by omega)]
      have := a3 (4 * (w - pl) + c) (by omega) (by omega)
      rw [show 4 * pl + (4 * (w - pl) + c) = 4 * w + c by omega] at this
      exact this
    refine ⟨?_, ?_, fun h4 => ?_, fun h4 => ?_⟩
    · have := b 0 (by omega) (by omega) (Or.inl (by omega))
      rw [Int.add_zero, Int.add_zero] at this
      unfold mK; rw [this]
    · unfold mS; rw [b 3 (by omega) (by omega) (Or.inl (by omega))]
    · unfold mY; rw [b 2 (by omega) (by omega) (Or.inr h4)]
    · unfold mY; rw [h4, e, show (4 * pl + 2).toNat = x by omega, upd_at, I_toInt hr]
  · have b : ∀ c : Int, 0 ≤ c → c < 4 → g' (4 * w + c).toNat = f (4 * (w - n) + c).toNat := fun c c1 c2 => by
      rw [e, upd_no _ _ (by omega)]
      have := a2 (4 * (w - n) + c) (by omega) (by omega)
      rw [show 4 * (w - n) + c + 4 * n = 4 * w + c by omega] at this
      exact this
    refine ⟨?_, ?_, ?_⟩
    · have := b 0 (by omega) (by omega)
      rw [Int.add_zero, Int.add_zero] at this
      unfold mK; rw [this]
    · unfold mY; rw [b 2 (by omega) (by omega)]
    · unfold mS; rw [b 3 (by omega) (by omega)]
theorem ly3.now (h1 : ly3 f g h q pl n v M j) (hj : 0 ≤ j) (hq : j < pl) (hM : pl ≤ M) (hn : 1 ≤ n) : mS g j = mS f j := ((h1 j hj (by omega)).1 hq).2.2.2 (by omega)
theorem ly3.hit (h1 : ly3 f g h q pl n v M j) (hj : 0 ≤ j) (hjq : j ≤ q) (hq : q < pl) (ht : q < j + mS f j) (e : g' = upd g x (I z)) (hx : (x : Int) = 4 * j + 3) (hz : z = mS f j + n) (hn : 0 ≤ n) (hr : rng z) : ly3 f g' h q pl n v M (j + 1) := by
  intro p hp hpM
  obtain ⟨a1, a2, a3⟩ := h1 p hp hpM
  obtain ⟨b1, b2, b3⟩ := mX_up (p := p) hx hp e
  refine ⟨fun h2 => ?_, fun h2 h3 => ?_, fun h2 => ?_⟩
  · obtain ⟨c1, c2, c3, c4⟩ := a1 h2
    refine ⟨b1.trans c1, b2.trans c2, fun h3 => ?_, fun h3 => ?_⟩
    · by_cases e2 : p = j
      · rw [e2, mS_at hx e hr, hz]
      · rw [b3 e2]; exact c3 ⟨by omega, h3.2⟩
    · by_cases e2 : p = j
      · rw [e2] at h3; exact absurd ⟨by omega, hjq, ht⟩ h3
      · rw [b3 e2]; exact c4 (fun h4 => h3 ⟨by omega, h4.2⟩)
  · rw [b1, b2, b3 (by omega)]; exact a2 h2 h3
  · rw [b1, b2, b3 (by omega)]; exact a3 h2
theorem ly3.miss (h1 : ly3 f g h q pl n v M j) (ht : ¬ q < j + mS f j) : ly3 f g h q pl n v M (j + 1) := by
  intro p hp hpM
  obtain ⟨a1, a2, a3⟩ := h1 p hp hpM
  refine ⟨fun h2 => ?_, a2, a3⟩
  obtain ⟨c1, c2, c3, c4⟩ := a1 h2
  refine ⟨c1, c2, fun h3 => ?_, fun h3 => c4 (fun h4 => h3 ⟨by omega, h4.2⟩)⟩
  by_cases e2 : p = j
  · rw [e2] at h3; exact absurd h3.2.2 ht
  · exact c3 ⟨by omega, h3.2⟩
theorem ly3.fin (h1 : ly3 f g h q pl n v M j) (hj : q < j) : layr f g h q pl n v M := by
  intro p hp hpM
  obtain ⟨a1, a2, a3⟩ := h1 p hp hpM
  refine ⟨fun h2 => ?_, a2, a3⟩
  obtain ⟨c1, c2, c3, c4⟩ := a1 h2
  exact ⟨c1, c2, fun h3 h4 => c3 ⟨by omega, h3, h4⟩, fun h3 => c4 (fun h4 => h3 h4.2)⟩
/-! TREES THAT ARE KEPT -/
theorem tr.ext (h1 : tr f) (hs : same f g 0 60 0) : tr g := by
  obtain ⟨a1, a2, a3, a4⟩ := h1
  have e : mS g 0 = mS f 0 := by
    have := hs.s1 (i := 0) (by omega) (by omega)
    rwa [Int.add_zero] at this
  have hs2 : same f g 0 (mS f 0) 0 := hs.sub (Int.le_refl _) a3
  unfold tr
  rw [e]
  exact ⟨a1.to hs2, a2, a3, a4.to hs2 (Int.le_refl _)⟩
theorem tr.mk (h1 : mT f 0 M) (h2 : mS f 0 = M) (h3 : 1 ≤ M) (h4 : M ≤ 60) (h5 : ∀ k, 0 ≤ k → k < M → cn f k k.toNat ≤ 7) (hs : same f g 0 M 0) : tr g := by
  have e : mS g 0 = M := by
    have := hs.s1 (i := 0) (by omega) (by omega)
    rw [Int.add_zero] at this
    rw [this, h2]
  unfold tr
  rw [e]
  refine ⟨h1.to hs, h3, h4, dpt.to (f := f) (fun j h6 h7 => ?_) hs (Int.le_refl _)⟩
  have := h5 j h6 h7
  have e0 : cn f j (0 : Int).toNat = 0 := rfl
  omega
theorem tr.at (h1 : tr f) (h0 : 0 ≤ p) (hp : p < mS f 0) : cn f p p.toNat ≤ 7 := by
  have := h1.2.2.2 p h0 hp
  have e0 : cn f p (0 : Int).toNat = 0 := rfl
  omega
theorem same.of (h1 : ∀ x : Nat, x < 240 → g x = f x) : same f g 0 60 0 := fun x h2 h3 => by
  rw [show x + 4 * 0 = x by omega]
  exact h1 _ (by omega)
theorem kp1.zero (hk : k ≤ 240) : kp1 f f k := fun x hx => ⟨fun h1 => absurd h1 (by omega), fun _ => rfl⟩
theorem kp1.step (h1 : kp1 f g k) (hk : 240 ≤ k) (e : g' = upd g x (I z)) (hx : (x : Int) = k - 240) (hz : (g y).toInt = z) (hy : (y : Int) = k) : kp1 f g' (k + 1) := by
  intro w hw
  obtain ⟨a1, a2⟩ := h1 w hw
  refine ⟨fun h2 => ?_, fun h2 => ?_⟩
  · by_cases e2 : w + 240 = k
    · rw [e, show w.toNat = x by omega, upd_at, ← hz, I_of, e2, show y = k.toNat by omega]
      exact (h1 k (by omega)).2 (by omega)
    · rw [e, upd_no _ _ (by omega)]; exact a1 (by omega)
  · rw [e, upd_no _ _ (by omega)]; exact a2 (by omega)
theorem kp1.fin (h1 : kp1 f g k) (hk : k = 9600) (ht : trs f 40) : trs g 39 := by
  intro j h2 h3
  refine (ht (j + 1) (by omega) (by omega)).ext (same.of (fun x hx => ?_))
  show g ((240 * j).toNat + x) = f ((240 * (j + 1)).toNat + x)
  have := (h1 (240 * j + x) (by omega)).1 (by omega)
  rw [show (240 * j + (x : Int)).toNat = (240 * j).toNat + x by omega, show (240 * j + (x : Int) + 240).toNat = (240 * (j + 1)).toNat + x by omega] at this
  exact this
theorem kp2.zero : kp2 f f h m 0 := ⟨fun _ _ _ => rfl, fun x h1 h2 => absurd h1 (by omega)⟩
theorem kp2.step (h1 : kp2 f g h m p) (e : g' = upd g x (I z)) (hx : (x : Int) = 240 * m + p) (hz : (h y).toInt = z) (hy : (y : Int) = p) (hm : 0 ≤ m) (hp : 0 ≤ p) : kp2 f g' h m (p + 1) := by
  refine ⟨fun w h2 h3 => ?_, fun w h2 h3 => ?_⟩
  · rw [e, upd_no _ _ (by omega)]; exact h1.1 w h2 h3
  · by_cases e2 : w = p
    · rw [e2, e, show (240 * m + p).toNat = x by omega, upd_at, ← hz, I_of, show y = p.toNat by omega]
    · rw [e, upd_no _ _ (by omega)]; exact h1.2 w h2 (by omega)
theorem kp2.fin (h1 : kp2 f g h m p) (hp : 240 ≤ p) (hm : 0 ≤ m) (ht : trs f m) (hh : tr h) : trs g (m + 1) := by
  intro j h2 h3
  by_cases e : j = m
  · refine hh.ext (same.of (fun x hx => ?_))
    show g ((240 * j).toNat + x) = h x
    have := h1.2 x (by omega) (by omega)
    rw [e, ← show (240 * m + (x : Int)).toNat = (240 * m).toNat + x by omega, this]
    rfl
  · refine (ht j h2 (by omega)).ext (same.of (fun x hx => ?_))
    show g ((240 * j).toNat + x) = f ((240 * j).toNat + x)
    have := h1.1 (240 * j + x) (by omega) (by omega)
    rw [show (240 * j + (x : Int)).toNat = (240 * j).toNat + x by omega] at this
    exact this
theorem trs.le (h1 : trs f n) (hm : m ≤ n) : trs f m := fun j h2 h3 => h1 j h2 (by omega)
theorem trs.cells (h1 : trs f n) (hn : n ≤ 40) (hs : ∀ x : Nat, x < 9600 → g x = f x) : trs g n := fun j h2 h3 => (h1 j h2 h3).ext (same.of (fun x hx => hs _ (by omega)))
theorem trs.row (h1 : trs f n) (h2 : 0 ≤ j) (h3 : j < n) (hs : ∀ x : Nat, x < 240 → g x = f ((240 * j).toNat + x)) : tr g := (h1 j h2 h3).ext (same.of hs)
end CL
/-! WHAT IS EMITTED -/
def blk (f g : Nat → Int32) (a b v : Int) : Prop := mT g a b ∧ mS g a = b - a ∧ mY g a = v ∧ same f g 0 a 0 ∧ a < b
def td (f : Nat → Int32) : Prop := mT f 0 (mS f 0) ∧ 1 ≤ mS f 0 ∧ mS f 0 ≤ 60
def tdc (c : Int) (f : Nat → Int32) : Prop := c ≤ 2 → td f
def emv (f1 g : Nat → Int32) (O : List Int) (m cur : Int) : Prop := mT g (m + 1) cur ∧ m + 1 ≤ cur ∧ cur ≤ m + 1 + 61 * (O.map (mS f1)).sum ∧ ∃ R, Ch g (m + 1) R cur ∧ (R.map (mY g)).Sublist (O.map (mY f1))
def emf (f1 g : Nat → Int32) (i m cur : Int) : Prop := mT g (m + 1) cur ∧ m + 1 ≤ cur ∧ cur ≤ m + 61 * mS f1 i ∧ ∃ R, Ch g (m + 1) R cur ∧ (mK f1 i = 3 → (R.map (mY g)).Nodup)
section EM
variable {f g h f1 f2 : Nat → Int32} {a b c d m cur i z v w k : Int} {O : List Int} {n : Nat}
theorem tr.td (h1 : tr f) : td f := ⟨h1.1, h1.2.1, h1.2.2.1⟩
/-- a copy with another key -/
theorem blk.copy {x : Nat} (h1 : td f2) (h2 : same f g 0 m 0) (h3 : same f2 g 0 (mS f2 0) m) (e : h = upd g x (I v)) (hx : (x : Int) = 4 * m + 2) (hr : rng v) (hm : 0 ≤ m) : blk f h m (m + mS f2 0) v ∧ mS h m = mS f2 0 := by
  obtain ⟨t1, t2, t3⟩ := h1
  have k1 := t1.shift h3
  rw [show (0 : Int) + m = m by omega, show mS f2 0 + m = m + mS f2 0 by omega] at k1
  have s0 : mS g m = mS f2 0 := by
    have := h3.s1 (i := 0) (Int.le_refl _) (by omega)
    rwa [show (0 : Int) + m = m by omega] at this
  have hS : ∀ p, 0 ≤ p → mS h p = mS g p := fun p hp => by unfold mS; rw [e, upd_no]; omega
  have hK : ∀ p, 0 ≤ p → mK h p = mK g p := fun p hp => by unfold mK; rw [e, upd_no]; omega
  have hY : ∀ p, 0 ≤ p → p ≠ m → mY h p = mY g p := fun p hp hn => by unfold mY; rw [e, upd_no]; omega
  have hW : wf h m (m + mS f2 0) := by
    intro p h4 h5
    rw [hS p (by omega)]
    refine ⟨k1.1.pos h4 h5, k1.1.end h4 h5, fun j h6 h7 => ?_⟩
    rw [hS j (by omega)]
    exact k1.1.nest h4 h5 h6 h7
  have hkc : ∀ p r, m ≤ p → kc h p r → kc g p r := fun p r hp hk => by
    have h9 := hk.1
    refine ⟨h9, by rw [← hS p (by omega)]; exact hk.2.1, fun y h4 h5 => ?_⟩
    have := hk.2.2 y h4 h5
    rwa [hS y (by omega)] at this
  refine ⟨⟨⟨hW, kdist_of ?_ hW⟩, by rw [hS m hm, s0]; omega, ?_, ?_, by omega⟩, by rw [hS m hm, s0]⟩
  · intro p h4 h5 h6 r q hr2 hq2 e2
    have r1 := hr2.1
    have q1 := hq2.1
    exact kdn_of k1.2 k1.1 p h4 h5 (by rw [← hK p (by omega)]; exact h6) r q (hkc p r h4 hr2) (hkc p q h4 hq2) (by rw [← hY r (by omega) (by omega), ← hY q (by omega) (by omega)]; exact e2)
  · unfold mY; rw [e, show (4 * m + 2).toNat = x by omega, upd_at, I_toInt hr]
  · exact h2.tr (by rw [e]; exact same.wr (by omega) (Int.le_refl _))
theorem emv.zero : emv f1 g [] m (m + 1) := ⟨mT.nil, Int.le_refl _, by rw [List.map_nil, List.sum_nil]; omega, [], rfl, by rw [List.map_nil, List.map_nil]; exact List.Sublist.refl _⟩
theorem emv.step (h1 : emv f1 g O m d) (h2 : blk g h d b v) (hv : v = mY f1 z) (hs : b - d ≤ 61 * mS f1 z) (hm : 0 ≤ m) : emv f1 h (O ++ [z]) m b := by
  obtain ⟨t1, l1, s1, R, c1, u1⟩ := h1
  obtain ⟨t2, z2, y2, sa, l2⟩ := h2
  have sw : same g h (m + 1) d 0 := sa.sub (by omega) (Int.le_refl _)
  have c2 : Ch h (m + 1) R d := c1.to sw
  refine ⟨(t1.to sw).app t2 (by omega), by omega, ?_, R ++ [d], c2.app (Ch.one (by omega) (by omega)), ?_⟩
  · rw [List.map_append, List.sum_append]
    simp only [List.map_cons, List.map_nil, List.sum_cons, List.sum_nil]
    omega
  · rw [List.map_append, List.map_append, keys_to c1 sw]
    refine u1.append ?_
    have e : mY h d = mY f1 z := y2.trans hv
    simp [e]
theorem emv.skip (h1 : emv f1 g O m d) (hz : 0 ≤ mS f1 z) : emv f1 g (O ++ [z]) m d := by
  obtain ⟨t1, l1, s1, R, c1, u1⟩ := h1
  refine ⟨t1, l1, ?_, R, c1, ?_⟩
  · rw [List.map_append, List.sum_append]
    simp only [List.map_cons, List.map_nil, List.sum_cons, List.sum_nil]
    omega
  · rw [List.map_append]
    exact u1.trans (List.sublist_append_left _ _)
theorem emv.nd (h1 : emv f1 g (ls f b n) m d) (hp : prm f1 f b n i) (hd : mK f1 i = 3 → kdist f1 i (i + 1)) (hK : mK f1 i = 3) : ∃ R, Ch g (m + 1) R d ∧ (R.map (mY g)).Nodup ∧ ∀ y ∈ R.map (mY g), ∃ r R1, Ch f1 (i + 1) R1 (i + mS f1 i) ∧ r ∈ R1 ∧ y = mY f1 r := by
  obtain ⟨t1, l1, s1, R, c1, u1⟩ := h1
  obtain ⟨R1, hR1, _, hP⟩ := hp
  have hn := hd hK i (Int.le_refl _) (by omega) hK R1 hR1
  have hP2 := hP.map (mY f1)
  refine ⟨R, c1, (hP2.nodup_iff.mpr hn).sublist u1, fun y hy => ?_⟩
  obtain ⟨r, hr, e⟩ := List.mem_map.mp (hP2.mem_iff.mp (u1.subset hy))
  exact ⟨r, R1, hR1, hr, e.symm⟩
theorem emv.fin (h1 : emv f1 g (ls f b n) m d) (hp : prm f1 f b n i) (hd : mK f1 i = 3 → kdist f1 i (i + 1)) : emf f1 g i m d := by
  have hs := hp.sum
  have h2 := h1
  obtain ⟨t1, l1, s1, R, c1, u1⟩ := h2
  refine ⟨t1, l1, by omega, ?_⟩
  by_cases hK : mK f1 i = 3
  · obtain ⟨R, c2, n2, _⟩ := h1.nd hp hd hK
    exact ⟨R, c2, fun _ => n2⟩
  · exact ⟨R, c1, fun h9 => absurd h9 hK⟩
theorem emv.add (h1 : emv f1 g (ls f b n) m d) (hp : prm f1 f b n i) (hd : mK f1 i = 3 → kdist f1 i (i + 1)) (h2 : blk g h d c v) (hs : c - d ≤ 60) (hk : mK f1 i = 3 → nok f1 (i + 1) (i + mS f1 i) v) (hm : 0 ≤ m) : emf f1 h i m c := by
  have hs2 := hp.sum
  have h3 := h1
  obtain ⟨t1, l1, s1, R, c1, u1⟩ := h3
  obtain ⟨t2, z2, y2, sa, l2⟩ := h2
  have sw : same g h (m + 1) d 0 := sa.sub (by omega) (Int.le_refl _)
  refine ⟨(t1.to sw).app t2 (by omega), by omega, by omega, ?_⟩
  by_cases hK : mK f1 i = 3
  · obtain ⟨R, c2, n2, k2⟩ := h1.nd hp hd hK
    refine ⟨R ++ [d], (c2.to sw).app (Ch.one (by omega) (by omega)), fun _ => ?_⟩
    rw [List.map_append, keys_to c2 sw, List.nodup_append]
    refine ⟨n2, by simp, fun x hx y hy e => ?_⟩
    simp only [List.map_cons, List.map_nil, List.mem_singleton] at hy
    obtain ⟨r, R1, hR1, hr, e2⟩ := k2 x hx
    obtain ⟨R2, hR2, hn2⟩ := hk hK
    have e3 : R1 = R2 := hR1.uniq hR2
    exact hn2 r (by rw [← e3]; exact hr) (by rw [← e2, e, hy, y2])
  · exact ⟨R ++ [d], (c1.to sw).app (Ch.one (by omega) (by omega)), fun h9 => absurd h9 hK⟩
/-- the one that is emitted: its own cells are those that were, but its number (and what it is how many) -/
theorem emf.node {x : Nat} (h1 : emf f1 g i m d) (hk : mK g m = mK f1 i) (hy : mY g m = mY f1 i) (h0 : same f g 0 m 0) (e : h = upd g x (I w)) (hx : (x : Int) = 4 * m + 3) (hw : w = d - m) (hr : rng w) (hm : 0 ≤ m) : blk f h m d (mY f1 i) ∧ d - m ≤ 61 * mS f1 i := by
  obtain ⟨t1, l1, s1, R, c1, u1⟩ := h1
  obtain ⟨b1, b2, _⟩ := mX_up (p := m) hx hm e
  have sS : mS h m = w := mS_at hx e hr
  have sw : same g h (m + 1) d 0 := by rw [e]; exact same.wr (by omega) (by omega)
  refine ⟨⟨(t1.to sw).node (by omega) (by rw [sS]; exact hw) (fun h3 R2 hR2 => ?_), by rw [sS]; exact hw, b2.trans hy, h0.tr (by rw [e]; exact same.wr (by omega) (Int.le_refl _)), by omega⟩, by omega⟩
  have e1 : R2 = R := hR2.uniq (c1.to sw)
  rw [e1, keys_to c1 sw]
  exact u1 (by rw [← hk, ← b1]; exact h3)
/-- one with nothing within it -/
theorem emf.leaf (hS : 1 ≤ mS f1 i) : emf f1 g i m (m + 1) := ⟨mT.nil, Int.le_refl _, by omega, [], rfl, fun _ => List.nodup_nil⟩
theorem emf.to (h1 : emf f1 g i m d) (hs : same g h 0 d 0) (hm : 0 ≤ m) : emf f1 h i m d := by
  obtain ⟨t1, l1, s1, R, c1, u1⟩ := h1
  have sw : same g h (m + 1) d 0 := hs.sub (by omega) (Int.le_refl _)
  exact ⟨t1.to sw, l1, s1, R, c1.to sw, fun h3 => by rw [keys_to c1 sw]; exact u1 h3⟩
theorem kdist.one (h : kdist f1 a b) (h1 : a ≤ i) (h2 : i < b) : mK f1 i = 3 → kdist f1 i (i + 1) := fun _ p h3 h4 => h p (by omega) (by omega)
end EM
section CM
variable {f g g' h f1 f2 o o2 : Nat → Int32} {a b c d m i j k q p z v t n M : Int} {x y : Nat} {N : Nat} {T : Prop}
theorem ct1.to (h : ct1 f g t n j) (e : j = k) : ct1 f g t n k := e ▸ h
theorem ofl.to (h : ofl T f1 f b n i p) (e : p = k) : ofl T f1 f b n i k := e ▸ h
theorem prm.eq (h : prm f1 f b N i) (e : g = f) : prm f1 g b N i := e ▸ h
theorem prm.self (h : prm f1 f b N i) (hz : (f x).toInt = z) (e : x = y) : prm f1 (upd f y (I z)) b N i := by
  rw [← hz, e, upd_self]; exact h
theorem prm.in1 (h : prm f1 (upd f x (I j)) b N i) (hw : wf f1 a d) (ha : a ≤ i) (hd : i < d) (hx : (x : Int) = b + q) (hy : (y : Int) = b + q - 1) (hz : (f y).toInt = z) (hq : 0 < q) (hn : q < N) : kc f1 i z := by
  refine h.at hw ha hd (k := (q - 1).toNat) (x := y) (by omega) (by omega) ?_
  rw [upd_no _ _ (by omega)]; exact hz
theorem prm.in0 (h : prm f1 (upd f x (I j)) b N i) (hw : wf f1 a d) (ha : a ≤ i) (hd : i < d) (hx : (x : Int) = b + q) (hq : 0 ≤ q) (hn : q < N) (hr : rng j) : kc f1 i j := by
  refine h.at hw ha hd (k := q.toNat) (x := x) (by omega) (by omega) ?_
  rw [upd_at, I_toInt hr]
theorem prm.swap2 {x y y2 : Nat} (h : prm f1 (upd f x (I j)) b N i) (hx : (x : Int) = b + q) (hy : (y : Int) = b + q - 1) (hz : (f y2).toInt = z) (hy2 : (y2 : Int) = b + q - 1) (hq : 0 < q) (hn : q < N) (hb : 0 ≤ b) (hrz : rng z) (hrj : rng j) (e : g = upd f x (I z)) : prm f1 (upd g y (I j)) b N i :=
  h.swap hx hy (by rw [show y = y2 by omega]; exact hz) hq hn hb hrz hrj e
/-- cells below b stay -/
def ofr (f g : Nat → Int32) (b : Int) : Prop := ∀ q : Int, 0 ≤ q → q < b → g q.toNat = f q.toNat
theorem ofr.rf : ofr f f b := fun _ _ _ => rfl
theorem ofr.up {v0 : Int32} (h : ofr f g b) (e : g' = upd g x v0) (hx : b ≤ (x : Int)) : ofr f g' b := fun q h1 h2 => by
  rw [e, upd_no _ _ (by omega)]; exact h q h1 h2
theorem ofr.tr (h : ofr f g b) (h2 : ofr g g' c) (hc : b ≤ c) : ofr f g' b := fun q h3 h4 => (h2 q h3 (by omega)).trans (h q h3 h4)
theorem emv.next1 (h1 : emv f1 g (ls o b p.toNat) m d) (hz : (o x).toInt = z) (hx : (x : Int) = b + p) (hp : 0 ≤ p) (hb : 0 ≤ b) (ho : ofr o o2 c) (hc : b + p + 1 ≤ c) (h2 : blk g h d k v) (hv : v = mY f1 z) (hs : k - d ≤ 61 * mS f1 z) (hm : 0 ≤ m) : emv f1 h (ls o2 b (p + 1).toNat) m k := by
  rw [show (p + 1).toNat = p.toNat + 1 by omega, ls_same (f := o) (fun q h3 h4 => ho q (by omega) (by omega)), ls_step (x := x) (by omega) hz]
  exact h1.step h2 hv hs hm
theorem emv.next0 (h1 : emv f1 g (ls o b p.toNat) m d) (hz : (o x).toInt = z) (hx : (x : Int) = b + p) (hp : 0 ≤ p) (hs : 0 ≤ mS f1 z) : emv f1 g (ls o b (p + 1).toNat) m d := by
  rw [show (p + 1).toNat = p.toNat + 1 by omega, ls_step (x := x) (by omega) hz]
  exact h1.skip hs
theorem emv.to (h1 : emv f1 g (ls o b p.toNat) m d) (e : p = k) : emv f1 g (ls o b k.toNat) m d := e ▸ h1
/-- its own cells have come -/
def nd (f g f1 : Nat → Int32) (m i : Int) : Prop := same f g 0 m 0 ∧ mK g m = mK f1 i ∧ mY g m = mY f1 i
theorem nd.of (h : cpd f g f1 m i p) (hp : p = 4) (hi : 0 ≤ i) : nd f g f1 m i := by
  obtain ⟨h1, h2⟩ := h.fin (n := 1) (by omega) hi
  have k1 := h2.k1 (i := i) (Int.le_refl _) (by omega)
  have k2 := h2.y1 (i := i) (Int.le_refl _) (by omega)
  rw [show i + (m - i) = m by omega] at k1 k2
  exact ⟨h1, k1, k2⟩
theorem nd.up (h : nd f g f1 m i) {v0 : Int32} (e : g' = upd g x v0) (hx : (x : Int) = 4 * m + 1) (hm : 0 ≤ m) : nd f g' f1 m i := by
  obtain ⟨h1, h2, h3⟩ := h
  refine ⟨h1.tr (by rw [e]; exact same.wr (by omega) (Int.le_refl _)), ?_, ?_⟩
  · rw [← h2]; unfold mK; rw [e, upd_no]; omega
  · rw [← h3]; unfold mY; rw [e, upd_no]; omega
theorem nd.to (h : nd f g f1 m i) (hs : same g g' 0 (m + 1) 0) (hm : 0 ≤ m) : nd f g' f1 m i := by
  obtain ⟨h1, h2, h3⟩ := h
  have k1 := hs.k1 (i := m) hm (by omega)
  have k2 := hs.y1 (i := m) hm (by omega)
  rw [Int.add_zero] at k1 k2
  exact ⟨h1.tr (hs.sub (Int.le_refl _) (by omega)), k1.trans h2, k2.trans h3⟩
theorem same.all (h : same f g 0 n 0) (h0 : 0 ≤ p) (hp : p < n) : mS g p = mS f p ∧ mK g p = mK f p ∧ mY g p = mY f p := by
  have h1 := h.s1 h0 hp
  have h2 := h.k1 h0 hp
  have h3 := h.y1 h0 hp
  rw [Int.add_zero] at h1 h2 h3
  exact ⟨h1, h2, h3⟩
/-- a map has not this key -/
def gk (f : Nat → Int32) (i v : Int) : Prop := mK f i = 3 → ∀ r, kc f i r → mY f r ≠ v
theorem gk.to (h : gk f i v) (hs : same f g 0 n 0) (hw : wf f 0 M) (hn : M ≤ n) (h0 : 0 ≤ i) (hi : i < M) : gk g i v := by
  have e := hw.end h0 hi
  have a := hs.all h0 (by omega)
  intro h1 r hr h2
  have r1 := hr.1
  have r2 := hr.2.1
  have b := hs.all (p := r) (by omega) (by omega)
  refine h (by rw [← a.2.1]; exact h1) r ⟨r1, by omega, fun x h3 h4 => ?_⟩ (by rw [← b.2.2]; exact h2)
  have c := hs.all (p := x) (by omega) (by omega)
  have := hr.2.2 x h3 h4
  omega
/-- none lies too deep -/
def dk (f : Nat → Int32) (n : Int) : Prop := ∀ k, 0 ≤ k → k < n → cn f k k.toNat ≤ 7
theorem dk.zero : dk f 0 := fun k h1 h2 => absurd h1 (by omega)
theorem dk.step (h : dk f n) (h1 : cn f n n.toNat ≤ 7) : dk f (n + 1) := fun k h2 h3 => by
  by_cases e : k = n
  · rw [e]; exact h1
  · exact h k h2 (by omega)
theorem dk.le (h : dk f n) (h1 : m ≤ n) : dk f m := fun k h2 h3 => h k h2 (by omega)
theorem blk.tr0 (h0 : same f g 0 d 0) (h2 : blk g h m k v) (hd : d ≤ m) : same f h 0 d 0 := h0.tr (h2.2.2.2.1.sub (Int.le_refl _) hd)
end CM
