/-! WORDS AS NUMBERS -/
def wq : Nat → Int → Prop
  | 0, _ => True
  | f + 1, r => r ≤ 0 ∨ (1 ≤ r % 32 ∧ r % 32 ≤ 26 ∧ wq f (r / 32))
/-- a word of one to six letters -/
def isW (w : Int) : Prop := 1 ≤ w ∧ w < 1073741824 ∧ wq 6 w
section WQS
variable {f : Nat} {r w v v2 k n n2 z s s2 : Int}
theorem wq.none (h : r ≤ 0) : wq f r := by
  cases f with
  | zero => trivial
  | succ f => exact Or.inl h
theorem wq.on (h0 : 0 < r) (h1 : 1 ≤ r % 32) (h2 : r % 32 ≤ 26) : wq (f + 1) r ↔ wq f (r / 32) := ⟨fun h => h.elim (fun h9 => absurd h9 (by omega)) (fun h9 => h9.2.2), fun h => Or.inr ⟨h1, h2, h⟩⟩
theorem wq.bad (h0 : 0 < r) (h1 : ¬ (1 ≤ r % 32 ∧ r % 32 ≤ 26)) : ¬ wq (f + 1) r := fun h => h.elim (fun h9 => absurd h9 (by omega)) (fun h9 => h1 ⟨h9.1, h9.2.1⟩)
/-- the class: k letters are gone over, v is left -/
def wk (w v k : Int) : Prop := 0 ≤ k ∧ k ≤ 6 ∧ (wq (6 - k).toNat v ↔ wq 6 w)
theorem wk.start : wk w w 0 := ⟨by decide, by decide, by rw [show ((6 : Int) - 0).toNat = 6 by decide]⟩
theorem wk.step (h : wk w v k) (hk : k < 6) (h0 : 0 < v) (h1 : 1 ≤ z) (h2 : z ≤ 26) (hz : z = v % 32) (hv : v2 = v / 32) (hn : n = k + 1) : wk w v2 n := by
  obtain ⟨a, b, c⟩ := h
  subst hn
  subst hv
  refine ⟨by omega, by omega, ?_⟩
  rw [show (6 - k).toNat = (6 - (k + 1)).toNat + 1 by omega] at c
  exact (wq.on h0 (by omega) (by omega)).symm.trans c
theorem wk.yes (h : wk w v k) (he : k = 6 ∨ v ≤ 0) (h1 : 1 ≤ w) (h2 : w < 1073741824) : isW w := by
  refine ⟨h1, h2, h.2.2.mp ?_⟩
  rcases he with e | e
  · rw [show (6 - k).toNat = 0 by omega]
    trivial
  · exact wq.none e
theorem wk.no (h : wk w v k) (hk : k < 6) (h0 : 0 < v) (hz : z = v % 32) (hb : ¬ (1 ≤ z ∧ z ≤ 26)) : ¬ isW w := fun h9 => by
  have c := h.2.2.mpr h9.2.2
  rw [show (6 - k).toNat = (6 - (k + 1)).toNat + 1 by omega] at c
  exact wq.bad h0 (fun h8 => hb (by omega)) c
/-- the reference: n letters are counted, v is left -/
def lto (w v n : Int) : Prop := (n = 0 ∧ v = w) ∨ (n = 1 ∧ v = w / 32 ∧ 0 < w) ∨ (n = 2 ∧ v = w / 1024 ∧ 0 < w / 32) ∨ (n = 3 ∧ v = w / 32768 ∧ 0 < w / 1024) ∨ (n = 4 ∧ v = w / 1048576 ∧ 0 < w / 32768) ∨ (n = 5 ∧ v = w / 33554432 ∧ 0 < w / 1048576) ∨ (n = 6 ∧ v = w / 1073741824 ∧ 0 < w / 33554432) ∨ (n = 7 ∧ v = w / 34359738368 ∧ 0 < w / 1073741824)
theorem lto.start : lto w w 0 := Or.inl ⟨rfl, rfl⟩
theorem lto.step (h : lto w v n) (h0 : 0 < v) (hw : w ≤ 2147483647) (hv : v2 = v / 32) (hn : n2 = n + 1) : lto w v2 n2 := by
  subst hv
  subst hn
  unfold lto at h ⊢
  rcases h with h | h | h | h | h | h | h | h
  · exact Or.inr (Or.inl (by omega))
  · exact Or.inr (Or.inr (Or.inl (by omega)))
  · exact Or.inr (Or.inr (Or.inr (Or.inl (by omega))))
  · exact Or.inr (Or.inr (Or.inr (Or.inr (Or.inl (by omega)))))
  · exact Or.inr (Or.inr (Or.inr (Or.inr (Or.inr (Or.inl (by omega))))))
  · exact Or.inr (Or.inr (Or.inr (Or.inr (Or.inr (Or.inr (Or.inl (by omega)))))))
  · exact Or.inr (Or.inr (Or.inr (Or.inr (Or.inr (Or.inr (Or.inr (by omega)))))))
  · exfalso
    omega
theorem lto.fin (h : lto w v n) (h0 : v ≤ 0) : (n ≤ 6 → w < 1073741824) ∧ (¬ n ≤ 6 → 1073741824 ≤ w) := by
  unfold lto at h
  rcases h with h | h | h | h | h | h | h | h <;> exact ⟨fun h9 => by omega, fun h9 => by omega⟩
def ki (w v s : Int) : Prop := (s = 0 ∧ ¬ isW w) ∨ (s = 1 ∧ 1 ≤ w ∧ w < 1073741824 ∧ ∃ f : Nat, v < 32 ^ f ∧ (wq f v ↔ wq 6 w))
theorem ki.start (h1 : 1 ≤ w) (h2 : w < 1073741824) : ki w w 1 := Or.inr ⟨rfl, h1, h2, 6, by rw [show (32 : Int) ^ 6 = 1073741824 by decide]; exact h2, Iff.rfl⟩
theorem ki.no (h : ¬ (1 ≤ w ∧ w < 1073741824)) : ki w v 0 := Or.inl ⟨rfl, fun h9 => h ⟨h9.1, h9.2.1⟩⟩
theorem ki.step (h : ki w v s) (hs : ¬ s = 0) (h0 : 0 < v) (hz : z = v % 32) (hv : v2 = v / 32) (h1 : (s2 = 1 ∧ 1 ≤ z ∧ z ≤ 26) ∨ (s2 = 0 ∧ ¬ (1 ≤ z ∧ z ≤ 26))) : ki w v2 s2 := by
  rcases h with ⟨a, -⟩ | ⟨-, a, b, f, c, d⟩
  · exact absurd a hs
  · subst hv
    cases f with
    | zero =>
      have c' : v < 1 := c
      exact absurd h0 (by omega)
    | succ f =>
      rcases h1 with ⟨e, g1, g2⟩ | ⟨e, g1⟩
      · refine Or.inr ⟨e, a, b, f, ?_, (wq.on h0 (by omega) (by omega)).symm.trans d⟩
        rw [Int.pow_succ] at c
        exact Int.ediv_lt_of_lt_mul (by decide) c
      · exact Or.inl ⟨e, fun h9 => wq.bad h0 (fun h8 => g1 (by omega)) (d.mpr h9.2.2)⟩
theorem ki.fin (h : ki w v s) (he : v ≤ 0 ∨ s = 0) : (s = 1 ∧ isW w) ∨ (s = 0 ∧ ¬ isW w) := by
  rcases h with h | ⟨a, b, c, f, d, e⟩
  · exact Or.inr h
  · exact Or.inl ⟨a, b, c, e.mp (wq.none (by omega))⟩
end WQS
theorem a31 {a : Int} (h0 : 0 ≤ a) : I a &&& I 31 = I (a % 32) := by
  obtain ⟨n, rfl⟩ := Int.eq_ofNat_of_zero_le h0
  rw [show ((n : Int) % 32) = ((n % 2 ^ 5 : Nat) : Int) by omega]
  apply b_ext
  intro i hi
  rw [b_and, bt_I _ _ hi, bt_I _ _ hi, show I 31 = I ((31 : Nat) : Int) from rfl, bt_I 31 i hi, Nat.testBit_mod_two_pow, (by decide +kernel : ∀ i, i < 32 → Nat.testBit 31 i = decide (i < 5)) i hi, Bool.and_comm]
theorem us5 {a : Int} (h0 : 0 ≤ a) (ha : rng a) : ((I a).toUInt32 >>> ((I 5).toUInt32 &&& Int32.toUInt32 31)).toInt32 = I (a / 32) := by
  obtain ⟨n, rfl⟩ := Int.eq_ofNat_of_zero_le h0
  have hn : n < 2 ^ 31 := by have := ha.2; omega
  rw [show ((n : Int) / 32) = ((n / 2 ^ 5 : Nat) : Int) by omega, show I 5 = nI 5 from by decide]
  apply b_ext
  intro i hi
  rw [b_ushr 5 (by decide), bt_I _ _ hi, Nat.testBit_div_two_pow]
  by_cases h : 5 + i < 32
  · rw [bt_I _ _ h, Nat.add_comm]
  · rw [b_big (by omega)]
    exact (Nat.testBit_lt_two_pow (Nat.lt_of_lt_of_le hn (Nat.pow_le_pow_right (by decide) (by omega)))).symm
section A31
variable {p : Program} {l : Launch} {e : Env} {R : Room} {s : State} {m : MethodId} {args : Array Value} {below : List Frame} {meth : Method} {c : Code} {H : Heap} {locs : List Loc} {cells slots : Nat} {Q : State → Prop} {rest : List Value} {pc : Nat} {ls : Array Slot}
theorem th_a31 {a : Int} (h0 : 0 ≤ a) (k : ∀ z : Int, rng z → (0 ≤ z ∧ z ≤ 31 ∧ z = a % 32) → W p l e R s m args below meth c H locs cells slots Q (F0 m pc ls (.int (I z) :: rest))) : W p l e R s m args below meth c H locs cells slots Q (F0 m pc ls (.int (I a &&& I 31) :: rest)) := by
  rw [a31 h0]
  exact k _ ⟨by omega, by omega⟩ ⟨by omega, by omega, rfl⟩
theorem th_us5 {a : Int} (h0 : 0 ≤ a) (ha : rng a) (k : ∀ z : Int, rng z → (0 ≤ z ∧ z = a / 32) → W p l e R s m args below meth c H locs cells slots Q (F0 m pc ls (.int (I z) :: rest))) : W p l e R s m args below meth c H locs cells slots Q (F0 m pc ls (.int ((I a).toUInt32 >>> ((I 5).toUInt32 &&& Int32.toUInt32 31)).toInt32 :: rest)) := by
  rw [us5 h0 ha]
  exact k _ ⟨by omega, by have := ha.2; omega⟩ ⟨by omega, rfl⟩
theorem th_rem32 {a : Int} (ha : rng a) (h0 : 0 ≤ a) (k : ∀ z : Int, rng z → (0 ≤ z ∧ z ≤ 31 ∧ z = a % 32) → W p l e R s m args below meth c H locs cells slots Q (F0 m pc ls (.int (I z) :: rest))) : W p l e R s m args below meth c H locs cells slots Q (F0 m pc ls (.int (I a - I a / I 32 * I 32) :: rest)) :=
  th_rem9 ha h0 ⟨by decide, by decide⟩ (by decide) (fun z rz hz => k z rz ⟨hz.1, by omega, hz.2.2⟩)
end A31
/-- the class's path at a place -/
def pAt (σ : th_M) (E : th_E) (a : Nat) (i : Int) : Option Nat := if 0 ≤ i ∧ i ≤ 3 then aQ σ (ad E a 3) i.toNat else none
theorem pAt.out {σ : th_M} {E : th_E} {a : Nat} {i : Int} (h : ¬ (0 ≤ i ∧ i ≤ 3)) : none = pAt σ E a i := (if_neg h).symm
theorem pAt.in_ {σ : th_M} {E : th_E} {a : Nat} {i : Int} {f : Nat → Option Nat} {x : Option Nat} (h : 0 ≤ i ∧ i ≤ 3) (hf : aQ σ (ad E a 3) = f) (hx : x = f i.toNat) : x = pAt σ E a i := by
  unfold pAt
  rw [if_pos h, hf]
  exact hx
