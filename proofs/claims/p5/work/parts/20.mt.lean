/-! ROWS OF THINGS: by fours kind, value, key, how many it is with all within it -/
def mS (f : Nat → Int32) (i : Int) : Int := (f (4 * i + 3).toNat).toInt
def mK (f : Nat → Int32) (i : Int) : Int := (f (4 * i).toNat).toInt
def mY (f : Nat → Int32) (i : Int) : Int := (f (4 * i + 2).toNat).toInt
/-- things side by side from a to b, each with all within it -/
def wf (f : Nat → Int32) (a b : Int) : Prop := ∀ i, a ≤ i → i < b → 1 ≤ mS f i ∧ i + mS f i ≤ b ∧ ∀ j, i < j → j < i + mS f i → j + mS f j ≤ i + mS f i
/-- those that lie at once there -/
def Ch (f : Nat → Int32) (a : Int) (R : List Int) (b : Int) : Prop := match R with
  | [] => a = b
  | r :: R => r = a ∧ 1 ≤ mS f a ∧ a + mS f a ≤ b ∧ Ch f (a + mS f a) R b
/-- keys of a map are unlike -/
def kdist (f : Nat → Int32) (a b : Int) : Prop := ∀ i, a ≤ i → i < b → mK f i = 3 → ∀ R, Ch f (i + 1) R (i + mS f i) → (R.map (mY f)).Nodup
def mT (f : Nat → Int32) (a b : Int) : Prop := wf f a b ∧ kdist f a b
section MT
variable {f g : Nat → Int32} {a b c d i j : Int} {R R' : List Int}
theorem wf.pos (h : wf f a b) (ha : a ≤ i) (hb : i < b) : 1 ≤ mS f i := (h i ha hb).1
theorem wf.end (h : wf f a b) (ha : a ≤ i) (hb : i < b) : i + mS f i ≤ b := (h i ha hb).2.1
theorem wf.nest (h : wf f a b) (ha : a ≤ i) (hb : i < b) (h1 : i < j) (h2 : j < i + mS f i) : j + mS f j ≤ i + mS f i := (h i ha hb).2.2 j h1 h2
theorem wf.nil : wf f a a := fun i h1 h2 => absurd h1 (by omega)
theorem wf.sub (h : wf f a b) (ha : a ≤ i) (hb : i < b) : wf f i (i + mS f i) := by
  have he := h.end ha hb
  intro k h1 h2
  refine ⟨h.pos (by omega) (by omega), ?_, fun q h3 h4 => h.nest (by omega) (by omega) h3 h4⟩
  by_cases e : k = i
  · subst e; omega
  · exact h.nest ha hb (by omega) h2
theorem wf.kids (h : wf f a b) (ha : a ≤ i) (hb : i < b) : wf f (i + 1) (i + mS f i) := by
  have he := h.end ha hb
  intro k h1 h2
  exact ⟨h.pos (by omega) (by omega), h.nest ha hb (by omega) h2, fun q h3 h4 => h.nest (by omega) (by omega) h3 h4⟩
theorem wf.tail (h : wf f a b) (ha : a ≤ c) : wf f c b := fun i h1 h2 => h i (by omega) h2
theorem wf.app (h : wf f a b) (h2 : wf f b c) (hc : b ≤ c) : wf f a c := by
  intro i h3 h4
  by_cases e : i < b
  · have := h.end h3 e
    exact ⟨h.pos h3 e, by omega, fun j h5 h6 => h.nest h3 e h5 h6⟩
  · exact h2 i (by omega) h4
theorem wf.ch (h : wf f a b) (hab : a ≤ b) : ∃ R, Ch f a R b := by
  have key : ∀ (n : Nat) (a : Int), (b - a).toNat < n → a ≤ b → wf f a b → ∃ R, Ch f a R b := by
    intro n
    induction n with
    | zero => intro a hn; omega
    | succ n ih =>
      intro a hn hab h
      by_cases e : a = b
      · exact ⟨[], e⟩
      · have h1 := h.pos (i := a) (by omega) (by omega)
        have h2 := h.end (i := a) (by omega) (by omega)
        obtain ⟨R, hR⟩ := ih (a + mS f a) (by omega) h2 (h.tail (by omega))
        exact ⟨a :: R, rfl, h1, h2, hR⟩
  exact key _ a (Nat.lt_succ_self _) hab h
theorem Ch.le : ∀ {R : List Int} {a : Int}, Ch f a R b → a ≤ b
  | [], a, h => by have h : a = b := h; omega
  | r :: R, a, h => by have := h.2.1; have := h.2.2.1; omega
theorem Ch.mem : ∀ {R : List Int} {a : Int}, Ch f a R b → ∀ r ∈ R, a ≤ r ∧ r < b ∧ 1 ≤ mS f r ∧ r + mS f r ≤ b
  | [], a, _, r, hr => by cases hr
  | q :: R, a, h, r, hr => by
    obtain ⟨e, h1, h2, h3⟩ := h
    rcases List.mem_cons.mp hr with e2 | hr
    · rw [e2, e]; exact ⟨by omega, by omega, h1, h2⟩
    · have := Ch.mem h3 r hr
      exact ⟨by omega, this.2.1, this.2.2⟩
theorem Ch.uniq : ∀ {R R' : List Int} {a : Int}, Ch f a R b → Ch f a R' b → R = R'
  | [], [], _, _, _ => rfl
  | [], r :: R', a, h, h' => by have h : a = b := h; have := h'.2.1; have := h'.2.2.1; omega
  | r :: R, [], a, h, h' => by have h' : a = b := h'; have := h.2.1; have := h.2.2.1; omega
  | r :: R, r' :: R', a, h, h' => by
    obtain ⟨e, _, _, h3⟩ := h
    obtain ⟨e', _, _, h3'⟩ := h'
    rw [e, e', Ch.uniq h3 h3']
theorem Ch.app : ∀ {R : List Int} {a : Int}, Ch f a R b → Ch f b R' c → Ch f a (R ++ R') c
  | [], a, h, h2 => by have h : a = b := h; rw [h]; exact h2
  | r :: R, a, h, h2 => by
    obtain ⟨e, h1, h3, h4⟩ := h
    exact ⟨e, h1, by have := h2.le; omega, Ch.app h4 h2⟩
theorem Ch.one (h1 : 1 ≤ mS f a) (h2 : a + mS f a = b) : Ch f a [a] b := ⟨rfl, h1, by omega, by rw [h2]; rfl⟩
/-- the same cells, d things further on -/
def same (f g : Nat → Int32) (a b d : Int) : Prop := ∀ x : Int, 4 * a ≤ x → x < 4 * b → g (x + 4 * d).toNat = f x.toNat
theorem same.s1 (h : same f g a b d) (h1 : a ≤ i) (h2 : i < b) : mS g (i + d) = mS f i := by
  have := h (4 * i + 3) (by omega) (by omega)
  unfold mS
  rw [show 4 * (i + d) + 3 = 4 * i + 3 + 4 * d by omega, this]
theorem same.k1 (h : same f g a b d) (h1 : a ≤ i) (h2 : i < b) : mK g (i + d) = mK f i := by
  have := h (4 * i) (by omega) (by omega)
  unfold mK
  rw [show 4 * (i + d) = 4 * i + 4 * d by omega, this]
theorem same.y1 (h : same f g a b d) (h1 : a ≤ i) (h2 : i < b) : mY g (i + d) = mY f i := by
  have := h (4 * i + 2) (by omega) (by omega)
  unfold mY
  rw [show 4 * (i + d) + 2 = 4 * i + 2 + 4 * d by omega, this]
theorem same.sub (h : same f g a b d) {a' b' : Int} (h1 : a ≤ a') (h2 : b' ≤ b) : same f g a' b' d := fun x h3 h4 => h x (by omega) (by omega)
theorem wf.shift (h : wf f a b) (hs : same f g a b d) : wf g (a + d) (b + d) := by
  intro i h1 h2
  have e : i = (i - d) + d := by omega
  have hS := hs.s1 (i := i - d) (by omega) (by omega)
  rw [← e] at hS
  have hh := h (i - d) (by omega) (by omega)
  rw [hS]
  refine ⟨hh.1, by omega, fun j h3 h4 => ?_⟩
  have hj := hs.s1 (i := j - d) (by omega) (by omega)
  rw [show j - d + d = j by omega] at hj
  have := hh.2.2 (j - d) (by omega) (by omega)
  rw [hj]
  omega
theorem Ch.shift : ∀ {R : List Int} {a' b' : Int}, Ch f a' R b' → same f g a b d → a ≤ a' → b' ≤ b → Ch g (a' + d) (R.map (· + d)) (b' + d)
  | [], a', b', h, hs, h1, h2 => by have h : a' = b' := h; rw [h]; rfl
  | r :: R, a', b', h, hs, h1, h2 => by
    obtain ⟨e, h3, h4, h5⟩ := h
    have hS := hs.s1 (i := a') h1 (by omega)
    refine ⟨by rw [e], by rw [hS]; exact h3, by rw [hS]; omega, ?_⟩
    rw [hS, show a' + d + mS f a' = a' + mS f a' + d by omega]
    exact Ch.shift h5 hs (by omega) h2
theorem kdist.shift (h : kdist f a b) (hw : wf f a b) (hs : same f g a b d) : kdist g (a + d) (b + d) := by
  intro i h1 h2 hK R hR
  have e : i = (i - d) + d := by omega
  have hS := hs.s1 (i := i - d) (by omega) (by omega)
  have hk := hs.k1 (i := i - d) (by omega) (by omega)
  rw [← e] at hS hk
  have hp := hw.pos (i := i - d) (by omega) (by omega)
  have he := hw.end (i := i - d) (by omega) (by omega)
  obtain ⟨R0, hR0⟩ := (hw.kids (i := i - d) (by omega) (by omega)).ch (by omega)
  have h3 := h (i - d) (by omega) (by omega) (by rw [← hk]; exact hK) R0 hR0
  have h4 := hR0.shift hs (by omega) he
  rw [show i - d + 1 + d = i + 1 by omega, show i - d + mS f (i - d) + d = i + mS g i by rw [hS]; omega] at h4
  rw [hR.uniq h4, List.map_map]
  have h5 : R0.map (mY g ∘ (· + d)) = R0.map (mY f) := by
    apply List.map_congr_left
    intro r hr
    have hm := hR0.mem r hr
    exact hs.y1 (by omega) (by omega)
  rw [h5]
  exact h3
theorem mT.shift (h : mT f a b) (hs : same f g a b d) : mT g (a + d) (b + d) := ⟨h.1.shift hs, h.2.shift h.1 hs⟩
theorem mT.to (h : mT f a b) (hs : same f g a b 0) : mT g a b := by
  have := h.shift hs
  rwa [Int.add_zero, Int.add_zero] at this
theorem mT.nil : mT f a a := ⟨wf.nil, fun i h1 h2 => absurd h1 (by omega)⟩
theorem mT.app (h : mT f a b) (h2 : mT f b c) (hc : b ≤ c) : mT f a c := ⟨h.1.app h2.1 hc, fun i h3 h4 => by
  by_cases e : i < b
  · exact h.2 i h3 e
  · exact h2.2 i (by omega) h4⟩
theorem mT.sub (h : mT f a b) (ha : a ≤ i) (hb : i < b) : mT f i (i + mS f i) := ⟨h.1.sub ha hb, fun k h1 h2 => h.2 k (by omega) (by have := h.1.end ha hb; omega)⟩
theorem mT.kids (h : mT f a b) (ha : a ≤ i) (hb : i < b) : mT f (i + 1) (i + mS f i) := ⟨h.1.kids ha hb, fun k h1 h2 => h.2 k (by omega) (by have := h.1.end ha hb; omega)⟩
/-- one with all within it -/
theorem mT.node (h : mT f (a + 1) b) (hab : a < b) (hS : mS f a = b - a) (hk : mK f a = 3 → ∀ R, Ch f (a + 1) R b → (R.map (mY f)).Nodup) : mT f a b := by
  refine ⟨fun i h1 h2 => ?_, fun i h1 h2 h3 R hR => ?_⟩
  · by_cases e : i = a
    · rw [e, hS]
      exact ⟨by omega, by omega, fun j h3 h4 => by have := h.1.end (i := j) (by omega) (by omega); omega⟩
    · exact h.1 i (by omega) h2
  · by_cases e : i = a
    · rw [e] at h3 hR
      rw [hS, show a + (b - a) = b by omega] at hR
      exact hk h3 R hR
    · exact h.2 i (by omega) h2 h3 R hR
/-- cells elsewhere are written -/
theorem same.wr {x : Nat} {v : Int32} (h : (x : Int) < 4 * a ∨ 4 * b ≤ (x : Int)) (ha : 0 ≤ a) : same f (upd f x v) a b 0 := by
  intro z h1 h2
  rw [show z + 4 * 0 = z by omega, upd_no]
  omega
theorem same.rf : same f f a b 0 := fun x _ _ => by rw [show x + 4 * 0 = x by omega]
/-- how many lie around one -/
def cn (f : Nat → Int32) (i : Int) : Nat → Int
  | 0 => 0
  | j + 1 => cn f i j + (if i < (j : Int) + mS f j then 1 else 0)
theorem cn_mono (n m : Nat) (h : n ≤ m) : cn f i n ≤ cn f i m := by
  induction m with
  | zero => have : n = 0 := by omega
            rw [this]; exact Int.le_refl _
  | succ m ih =>
    by_cases e : n = m + 1
    · rw [e]; exact Int.le_refl _
    · have := ih (by omega)
      show _ ≤ cn f i m + _
      split <;> omega
theorem cn_up {n : Nat} (h : ∀ q : Nat, q < n → i < (q : Int) + mS f q → j < (q : Int) + mS f q) : cn f i n ≤ cn f j n := by
  induction n with
  | zero => exact Int.le_refl _
  | succ n ih =>
    have h1 := ih (fun q hq => h q (by omega))
    have h2 := h n (by omega)
    show cn f i n + _ ≤ cn f j n + _
    split
    · rename_i h3
      rw [if_pos (h2 h3)]; omega
    · split <;> omega
/-- deeper by one -/
theorem cn_kid (h : wf f 0 b) (h0 : 0 ≤ i) (hb : i < b) (h1 : i < j) (h2 : j < i + mS f i) : cn f i i.toNat + 1 ≤ cn f j j.toNat := by
  have e := h.end h0 hb
  have h3 : cn f i i.toNat ≤ cn f j i.toNat := cn_up (fun q hq h4 => by
    have := h.nest (i := q) (j := i) (by omega) (by omega) (by omega) h4
    omega)
  have h4 : cn f j (i.toNat + 1) = cn f j i.toNat + 1 := by
    show cn f j i.toNat + _ = _
    rw [show ((i.toNat : Nat) : Int) = i by omega, if_pos h2]
  have h5 : cn f j (i.toNat + 1) ≤ cn f j j.toNat := cn_mono _ _ (by omega)
  omega
theorem cn_nn (n : Nat) : 0 ≤ cn f i n := by
  induction n with
  | zero => exact Int.le_refl _
  | succ n ih => show 0 ≤ cn f i n + _; split <;> omega
/-- n of them lie side by side from a to b -/
def chn (f : Nat → Int32) (a n b : Int) : Prop := ∃ R, Ch f a R b ∧ (R.length : Int) = n
theorem chn.zero : chn f a 0 a := ⟨[], rfl, rfl⟩
theorem chn.step {n : Int} (h : chn f a n b) (h1 : 1 ≤ mS f b) : chn f a (n + 1) (b + mS f b) := by
  obtain ⟨R, hR, hn⟩ := h
  refine ⟨R ++ [b], hR.app (Ch.one h1 rfl), ?_⟩
  rw [List.length_append, ← hn]
  rfl
theorem Ch.len : ∀ {R : List Int} {a : Int}, Ch f a R b → a + (R.length : Int) ≤ b
  | [], a, h => by have h : a = b := h; simp; omega
  | r :: R, a, h => by
    obtain ⟨e, h1, h2, h3⟩ := h
    have := Ch.len h3
    simp only [List.length_cons]
    omega
theorem chn.le {n : Int} (h : chn f a n b) : a + n ≤ b ∧ 0 ≤ n := by
  obtain ⟨R, hR, hn⟩ := h
  have := hR.len
  omega
theorem Ch.lt : ∀ {R R' : List Int} {a : Int}, Ch f a R c → Ch f a R' b → R.length < R'.length → c < b ∧ 1 ≤ mS f c ∧ c + mS f c ≤ b
  | [], [], _, _, _, h => by simp at h
  | [], r :: R', a, h, h', _ => by
    have h : a = c := h
    obtain ⟨e, h1, h2, h3⟩ := h'
    rw [← h]
    exact ⟨by omega, h1, h2⟩
  | r :: R, [], a, h, h', hl => by simp at hl
  | r :: R, r' :: R', a, h, h', hl => by
    obtain ⟨e, h1, h2, h3⟩ := h
    obtain ⟨e', _, _, h3'⟩ := h'
    exact Ch.lt h3 h3' (by simpa using hl)
theorem chn.lt {n m : Int} (h : chn f a n c) (h2 : chn f a m b) (hn : n < m) : c < b ∧ 1 ≤ mS f c ∧ c + mS f c ≤ b := by
  obtain ⟨R, hR, e⟩ := h
  obtain ⟨R', hR', e'⟩ := h2
  exact hR.lt hR' (by omega)
theorem Ch.ge : ∀ {R R' : List Int} {a : Int}, Ch f a R c → Ch f a R' b → c < b → R.length < R'.length
  | [], [], a, h, h', hl => by have h : a = c := h; have h' : a = b := h'; omega
  | [], r :: R', _, _, _, _ => by simp
  | r :: R, [], a, h, h', hl => by have h' : a = b := h'; have := h.le; omega
  | r :: R, r' :: R', a, h, h', hl => by
    obtain ⟨e, h1, h2, h3⟩ := h
    obtain ⟨e', _, _, h3'⟩ := h'
    have := Ch.ge h3 h3' hl
    simpa using this
theorem chn.ge {n m : Int} (h : chn f a n c) (h2 : chn f a m b) (hn : c < b) : n < m := by
  obtain ⟨R, hR, e⟩ := h
  obtain ⟨R', hR', e'⟩ := h2
  have := hR.ge hR' hn
  omega
/-- one that lies at once within i -/
def kid (f : Nat → Int32) (i r : Int) : Prop := i < r ∧ r < i + mS f i ∧ ∃ n, chn f (i + 1) n r
/-- no key of those from a to b is v -/
def nok (f : Nat → Int32) (a b v : Int) : Prop := ∃ R, Ch f a R b ∧ ∀ q ∈ R, mY f q ≠ v
theorem nok.zero {v : Int} : nok f a a v := ⟨[], rfl, fun _ h => by cases h⟩
theorem nok.step {v : Int} (h : nok f a b v) (h1 : 1 ≤ mS f b) (h2 : mY f b ≠ v) : nok f a (b + mS f b) v := by
  obtain ⟨R, hR, hn⟩ := h
  refine ⟨R ++ [b], hR.app (Ch.one h1 rfl), fun q hq => ?_⟩
  rcases List.mem_append.mp hq with h | h
  · exact hn q h
  · rw [List.mem_singleton.mp h]; exact h2
theorem nok.chn {v : Int} (h : nok f a b v) : ∃ n, chn f a n b := by
  obtain ⟨R, hR, _⟩ := h
  exact ⟨_, R, hR, rfl⟩
theorem kid.mk1 {n : Int} (h1 : i < j) (h2 : j < i + mS f i) (h3 : chn f (i + 1) n j) : kid f i j := ⟨h1, h2, n, h3⟩
theorem kid.mk2 {v : Int} (h1 : i < j) (h2 : j < i + mS f i) (h3 : nok f (i + 1) j v) : kid f i j := ⟨h1, h2, h3.chn⟩
/-- there is a p-th one within i -/
def jin (f : Nat → Int32) (i q : Int) : Prop := 0 ≤ q ∧ ∃ m, chn f (i + 1) m (i + mS f i) ∧ q < m
theorem jin.mk1 {q m : Int} (h0 : 0 ≤ q) (h : chn f (i + 1) m (i + mS f i)) (h2 : q < m) : jin f i q := ⟨h0, m, h, h2⟩
theorem cn_step {z : Int} (h0 : 0 ≤ j) (hz : z = if i < j + mS f j then 1 else 0) : cn f i (j + 1).toNat = cn f i j.toNat + z := by
  rw [show (j + 1).toNat = j.toNat + 1 by omega, hz]
  show cn f i j.toNat + _ = _
  rw [show ((j.toNat : Nat) : Int) = j by omega]
/-- numbers that are not out of all measure -/
def few (f : Nat → Int32) (i : Int) : Prop := ∀ q, 0 ≤ q → q < i → -5000 ≤ mS f q ∧ mS f q ≤ 5000
theorem wf.few (h : wf f 0 b) (hb : b ≤ 4000) (hi : i ≤ b) : few f i := fun q h0 hq => by
  have h1 := h.pos h0 (by omega)
  have h2 := h.end h0 (by omega)
  omega
end MT
