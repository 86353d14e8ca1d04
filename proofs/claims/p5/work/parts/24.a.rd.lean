/-! DATA AS THEY ARE READ -/
/-- none from a to b lies within more than m others of these -/
def dpt (g : Nat → Int32) (a b m : Int) : Prop := ∀ j, a ≤ j → j < b → cn g j j.toNat - cn g j a.toNat ≤ m
section DPT
variable {f g : Nat → Int32} {a b d j m : Int}
theorem cn_same (hs : same f g a b 0) (h0 : 0 ≤ a) (n : Nat) (h1 : a.toNat ≤ n) (h2 : (n : Int) ≤ b) : cn g j n - cn g j a.toNat = cn f j n - cn f j a.toNat := by
  induction n with
  | zero =>
    have e : a.toNat = 0 := by omega
    rw [e]
    omega
  | succ n ih =>
    by_cases e : a.toNat = n + 1
    · rw [e]; omega
    · have h3 := ih (by omega) (by omega)
      have h4 := hs.s1 (i := (n : Int)) (by omega) (by omega)
      rw [Int.add_zero] at h4
      have e1 : cn g j (n + 1) = cn g j n + (if j < (n : Int) + mS g n then 1 else 0) := rfl
      have e2 : cn f j (n + 1) = cn f j n + (if j < (n : Int) + mS f n then 1 else 0) := rfl
      rw [e1, e2, h4]
      omega
theorem cn_flat (h : ∀ q : Int, a ≤ q → q < d → q + mS f q ≤ j) (h0 : 0 ≤ a) (n : Nat) (h1 : a.toNat ≤ n) (h2 : (n : Int) ≤ d) : cn f j n = cn f j a.toNat := by
  induction n with
  | zero => have e : a.toNat = 0 := by omega
            rw [e]
  | succ n ih =>
    by_cases e : a.toNat = n + 1
    · rw [e]
    · have h3 := ih (by omega) (by omega)
      have h4 := h n (by omega) (by omega)
      have e1 : cn f j (n + 1) = cn f j n + (if j < (n : Int) + mS f n then 1 else 0) := rfl
      rw [e1, if_neg (by omega), h3]
      omega
theorem dpt.zero : dpt g a a m := fun j h1 h2 => absurd h1 (by omega)
theorem dpt.to (h : dpt f a b m) (hs : same f g a b 0) (h0 : 0 ≤ a) : dpt g a b m := fun j h1 h2 => by
  have h3 := cn_same (j := j) hs h0 j.toNat (by omega) (by omega)
  have h4 := h j h1 h2
  omega
end DPT
/-- behind the thing at i its parts have come, up to d; g are the cells now, f those before -/
def rdF (f g : Nat → Int32) (i d m : Int) : Prop := mT g (i + 1) d ∧ same f g 0 (i + 1) 0 ∧ i + 1 ≤ d ∧ dpt g (i + 1) d (6 - m) ∧ ∃ R, Ch g (i + 1) R d ∧ (mK f i = 3 → (R.map (mY g)).Nodup)
/-- a thing has come, from a to b, with a key -/
def rdT (f g : Nat → Int32) (a b v m : Int) : Prop := mT g a b ∧ mS g a = b - a ∧ mY g a = v ∧ same f g 0 a 0 ∧ a < b ∧ dpt g a b (7 - m)
section RD
variable {f g h : Nat → Int32} {a b c d i j v m : Int} {R : List Int}
theorem same.tr (h1 : same f g a b 0) (h2 : same g h a b 0) : same f h a b 0 := fun x h3 h4 => by
  have e1 := h1 x h3 h4
  have e2 := h2 x h3 h4
  rw [show x + 4 * 0 = x by omega] at e1 e2 ⊢
  rw [e2, e1]
theorem Ch.to (hc : Ch f a R b) (hs : same f g a b 0) : Ch g a R b := by
  have := hc.shift hs (Int.le_refl _) (Int.le_refl _)
  rwa [Int.add_zero, Int.add_zero, show R.map (· + 0) = R from by simp] at this
theorem keys_to (hc : Ch f a R b) (hs : same f g a b 0) : R.map (mY g) = R.map (mY f) := by
  apply List.map_congr_left
  intro r hr
  have hm := hc.mem r hr
  have := hs.y1 (i := r) (by omega) (by omega)
  rwa [Int.add_zero] at this
theorem rdF.zero (h1 : same f g 0 (i + 1) 0) : rdF f g i (i + 1) m := ⟨mT.nil, h1, Int.le_refl _, dpt.zero, [], rfl, fun _ => List.nodup_nil⟩
theorem rdF.step (h1 : rdF f g i d m) (h2 : rdT g h d b v (m + 1)) (hn : mK f i = 3 → nok g (i + 1) d v) (hi : 0 ≤ i) : rdF f h i b m := by
  obtain ⟨t1, s1, l1, p1, R, c1, n1⟩ := h1
  obtain ⟨t2, z2, y2, s2, l2, p2⟩ := h2
  have sw : same g h (i + 1) d 0 := s2.sub (by omega) (Int.le_refl _)
  have c2 : Ch h (i + 1) R d := c1.to sw
  refine ⟨(t1.to sw).app t2 (by omega), s1.tr (s2.sub (Int.le_refl _) (by omega)), by omega, fun j h3 h4 => ?_, R ++ [d], c2.app (Ch.one (by omega) (by omega)), fun hk => ?_⟩
  · by_cases e : j < d
    · exact (p1.to sw (by omega)) j h3 e
    · have h5 := p2 j (by omega) h4
      have h6 := cn_flat (f := h) (a := i + 1) (d := d) (j := j) (fun q h7 h8 => by
        have := (t1.to sw).1.end h7 h8
        omega) (by omega) d.toNat (by omega) (by omega)
      omega
  rw [List.map_append, List.nodup_append]
  refine ⟨?_, by simp, ?_⟩
  · rw [keys_to c1 sw]; exact n1 hk
  · intro x hx w hw e
    obtain ⟨R', c3, n3⟩ := hn hk
    have e3 : R = R' := c1.uniq c3
    rw [keys_to c1 sw] at hx
    obtain ⟨r, hr, hx⟩ := List.mem_map.mp hx
    simp only [List.map_cons, List.map_nil, List.mem_singleton] at hw
    refine n3 r (by rw [← e3]; exact hr) ?_
    rw [hx, e, hw, y2]
/-- the thing itself: its size is written -/
theorem rdF.node {x : Int} {c0 : Nat → Int32} (h1 : rdF f g i d m) (hm : m ≤ 7) (hh : h = upd g (4 * i + 3).toNat (I x)) (hx : x = d - i) (hr : rng x) (hi : 0 ≤ i) (hf : same c0 f 0 i 0) (hy : mY f i = v) : rdT c0 h i d v m := by
  obtain ⟨t1, s1, l1, p1, R, c1, n1⟩ := h1
  have so : ∀ a b, 4 * i + 3 < 4 * a ∨ 4 * b ≤ 4 * i + 3 → 0 ≤ a → same g h a b 0 := fun a b hab ha => by
    rw [hh]
    exact same.wr (by omega) ha
  have sS : mS h i = x := by
    unfold mS
    rw [hh, upd_at, I_toInt hr]
  have sK : mK h i = mK f i := by
    have e1 : mK g i = mK f i := by
      have := s1.k1 (i := i) hi (by omega)
      rwa [Int.add_zero] at this
    rw [← e1]
    unfold mK
    rw [hh, upd_no]
    omega
  have sY : mY h i = v := by
    have e1 : mY g i = mY f i := by
      have := s1.y1 (i := i) hi (by omega)
      rwa [Int.add_zero] at this
    rw [← hy, ← e1]
    unfold mY
    rw [hh, upd_no]
    omega
  have sw : same g h (i + 1) d 0 := so _ _ (Or.inl (by omega)) (by omega)
  refine ⟨(t1.to sw).node (by omega) (by rw [sS]; exact hx) (fun hk R' hR' => ?_), by rw [sS]; exact hx, sY, ?_, by omega, fun j h3 h4 => ?_⟩
  · have e1 : R' = R := hR'.uniq (c1.to sw)
    rw [e1, keys_to c1 sw]
    exact n1 (by rw [← sK]; exact hk)
  · exact (hf.tr (s1.sub (Int.le_refl _) (by omega))).tr (so 0 i (Or.inr (by omega)) (Int.le_refl _))
  · by_cases e : j = i
    · rw [e]; omega
    · have h5 := (p1.to sw (by omega)) j (by omega) h4
      have h6 : cn h j (i + 1).toNat = cn h j i.toNat + 1 := cn_step hi (by rw [if_pos]; rw [sS]; omega)
      omega
theorem same.up1 {x : Nat} {w : Int32} (h1 : same f g 0 i 0) (e : h = upd g x w) (hx : 4 * i ≤ (x : Int)) : same f h 0 i 0 := by
  rw [e]
  exact h1.tr (same.wr (Or.inr hx) (Int.le_refl _))
theorem mY_up {x : Nat} {w : Int32} (e : h = upd g x w) (hx : (x : Int) ≠ 4 * i + 2) (hi : 0 ≤ i) : mY h i = mY g i := by
  unfold mY
  rw [e, upd_no]
  omega
theorem mY_at {w : Int} (e : h = upd g (4 * i + 2).toNat (I w)) (hr : rng w) : mY h i = w := by
  unfold mY
  rw [e, upd_at, I_toInt hr]
theorem mK_at {w : Int} (e : h = upd g (4 * i).toNat (I w)) (hr : rng w) : mK h i = w := by
  unfold mK
  rw [e, upd_at, I_toInt hr]
theorem rdF.k (h1 : rdF f g i d m) (hi : 0 ≤ i) : mK g i = mK f i := by
  have := h1.2.1.k1 (i := i) hi (by omega)
  rwa [Int.add_zero] at this
end RD
