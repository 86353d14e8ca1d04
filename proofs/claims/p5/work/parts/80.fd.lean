/-! TWENTY BYTES MORE -/
def wsel (a b c d e q : Int) : Int := if q < 4 then a else if q < 8 then b else if q < 12 then c else if q < 16 then d else e
/-- v bytes of x behind m -/
def lay4 (f g : Nat → Int32) (m v x : Int) : Prop := (∀ k : Int, 0 ≤ k → k < m → (g k.toNat).toInt = (f k.toNat).toInt) ∧ ∀ q : Int, 0 ≤ q → q < v → (g (m + q).toNat).toInt = sb (I x) (24 - 8 * q)
def fdp (f g : Nat → Int32) (m v a b c d e : Int) : Prop := (∀ k : Int, 0 ≤ k → k < m → (g k.toNat).toInt = (f k.toNat).toInt) ∧ ∀ q : Int, 0 ≤ q → q < v → (g (m + q).toNat).toInt = sb (I (wsel a b c d e q)) (24 - 8 * (q % 4))
section FDP
variable {f g h g1 g2 g3 g4 g5 : Nat → Int32} {m v x z a b c d e s : Int}
theorem lay4.zero (hv : v = 0) : lay4 f f m v x := ⟨fun _ _ _ => rfl, fun q h0 h1 => absurd h1 (by omega)⟩
theorem upd_z {i : Int} (h0 : 0 ≤ i) {k : Int} (hk : 0 ≤ k) (hz : rng z) : (upd f i.toNat (I z) k.toNat).toInt = if k = i then z else (f k.toNat).toInt := by
  by_cases e : k = i
  · rw [if_pos e, e, upd_at, I_toInt hz]
  · rw [if_neg e, upd_no _ _ (by omega)]
theorem lay4.step {v2 i : Int} (hl : lay4 f g m v x) (hh : h = upd g i.toNat (I z)) (hz : rng z) (hv : 0 ≤ v) (hm : 0 ≤ m) (hi : i = m + v) (h2 : v2 = v + 1) (hs : s = 24 - 8 * v) (hx : z = sb (I x) s) : lay4 f h m v2 x := by
  subst hh
  refine ⟨fun k h0 h1 => ?_, fun q h0 h1 => ?_⟩
  · rw [upd_z (by omega) h0 hz, if_neg (by omega)]; exact hl.1 k h0 h1
  · rw [upd_z (by omega) (by omega) hz]
    by_cases e : q = v
    · rw [if_pos (by omega), hx, hs, e]
    · rw [if_neg (by omega)]; exact hl.2 q h0 (by omega)
theorem fdp.zero (hv : v = 0) : fdp f f m v a b c d e := ⟨fun _ _ _ => rfl, fun q h0 h1 => absurd h1 (by omega)⟩
theorem fdp.step {v2 i w : Int} (hl : fdp f g m v a b c d e) (hh : h = upd g i.toNat (I z)) (hz : rng z) (hv : 0 ≤ v) (hm : 0 ≤ m) (hi : i = m + v) (h2 : v2 = v + 1) (hw : w = wsel a b c d e v) (hs : s = 24 - 8 * (v % 4)) (hx : z = sb2 (I w) s) : fdp f h m v2 a b c d e := by
  subst hh
  refine ⟨fun k h0 h1 => ?_, fun q h0 h1 => ?_⟩
  · rw [upd_z (by omega) h0 hz, if_neg (by omega)]; exact hl.1 k h0 h1
  · rw [upd_z (by omega) (by omega) hz]
    by_cases e : q = v
    · rw [if_pos (by omega), hx, sb_eq (by omega), hs, e, hw]
    · rw [if_neg (by omega)]; exact hl.2 q h0 (by omega)
theorem lay4.fdp5 (hm : 0 ≤ m) (h1 : lay4 f g1 m 4 a) (h2 : lay4 g1 g2 (m + 4) 4 b) (h3 : lay4 g2 g3 (m + 8) 4 c) (h4 : lay4 g3 g4 (m + 12) 4 d) (h5 : lay4 g4 g5 (m + 16) 4 e) : fdp f g5 m 20 a b c d e := by
  refine ⟨fun k h0 hk => ?_, fun q h0 hq => ?_⟩
  · rw [h5.1 k h0 (by omega), h4.1 k h0 (by omega), h3.1 k h0 (by omega), h2.1 k h0 (by omega), h1.1 k h0 hk]
  · unfold wsel
    by_cases e1 : q < 4
    · rw [if_pos e1, h5.1 _ (by omega) (by omega), h4.1 _ (by omega) (by omega), h3.1 _ (by omega) (by omega), h2.1 _ (by omega) (by omega), h1.2 q h0 e1, show q % 4 = q by omega]
    by_cases e2 : q < 8
    · rw [if_neg e1, if_pos e2, h5.1 _ (by omega) (by omega), h4.1 _ (by omega) (by omega), h3.1 _ (by omega) (by omega), show m + q = m + 4 + (q - 4) by omega, h2.2 (q - 4) (by omega) (by omega), show q % 4 = q - 4 by omega]
    by_cases e3 : q < 12
    · rw [if_neg e1, if_neg e2, if_pos e3, h5.1 _ (by omega) (by omega), h4.1 _ (by omega) (by omega), show m + q = m + 8 + (q - 8) by omega, h3.2 (q - 8) (by omega) (by omega), show q % 4 = q - 8 by omega]
    by_cases e4 : q < 16
    · rw [if_neg e1, if_neg e2, if_neg e3, if_pos e4, h5.1 _ (by omega) (by omega), show m + q = m + 12 + (q - 12) by omega, h4.2 (q - 12) (by omega) (by omega), show q % 4 = q - 12 by omega]
    · rw [if_neg e1, if_neg e2, if_neg e3, if_neg e4, show m + q = m + 16 + (q - 16) by omega, h5.2 (q - 16) (by omega) (by omega), show q % 4 = q - 16 by omega]
/-- what both tapes have in common -/
def tps (f g : Nat → Int32) (m : Int) : Prop := ∀ k : Int, 0 ≤ k → k < m → (f k.toNat).toInt = (g k.toNat).toInt ∧ 0 ≤ (g k.toNat).toInt ∧ (g k.toNat).toInt ≤ 255
theorem tps.zero {m : Int} (hm : m ≤ 0) : tps f g m := fun k h0 h1 => absurd h1 (by omega)
theorem tps.le {n : Int} (h : tps f g m) (hn : n ≤ m) : tps f g n := fun k h0 h1 => h k h0 (by omega)
theorem tps.fed {f2 g2 : Nat → Int32} {n : Int} (h : tps f g m) (hm : 0 ≤ m) (hf : fdp f f2 m 20 a b c d e) (hg : fdp g g2 m 20 a b c d e) (hn : n = m + 20) : tps f2 g2 n := fun k h0 h1 => by
  by_cases hk : k < m
  · rw [hf.1 k h0 hk, hg.1 k h0 hk]
    exact h k h0 hk
  · have e1 := hf.2 (k - m) (by omega) (by omega)
    have e2 := hg.2 (k - m) (by omega) (by omega)
    rw [show m + (k - m) = k by omega] at e1 e2
    rw [e1, e2]
    exact ⟨rfl, sb_rng _ _⟩
end FDP
theorem th_rem9 {p : Program} {l : Launch} {e : Env} {R : Room} {s : State} {m : MethodId} {args : Array Value} {below : List Frame} {meth : Method} {c : Code} {H : Heap} {locs : List Loc} {cells slots : Nat} {Q : State → Prop} {rest : List Value} {pc : Nat} {ls : Array Slot} {a n : Int} (ha : rng a) (h0 : 0 ≤ a) (hn : rng n) (h1 : 1 ≤ n) (k : ∀ z : Int, rng z → (0 ≤ z ∧ z < n ∧ z = a % n) → W p l e R s m args below meth c H locs cells slots Q (F0 m pc ls (.int (I z) :: rest))) : W p l e R s m args below meth c H locs cells slots Q (F0 m pc ls (.int (I a - I a / I n * I n) :: rest)) := by
  rw [I_rem ha hn h0 h1]
  have h2 : 0 ≤ a % n := Int.emod_nonneg _ (by omega)
  have h3 : a % n < n := Int.emod_lt_of_pos _ (by omega)
  exact k _ ⟨by omega, by have := hn.2; omega⟩ ⟨h2, h3, rfl⟩
