theorem wv_bw {B : Int → Int} {b x w : Int} (h : ∀ q, b ≤ q → q < x → isLt (B q)) (hw : x - b ≤ 6 → w = wv B b (x - b).toNat) (h5 : b ≤ x ∧ x - b ≤ 5) : 0 ≤ w ∧ w < 33554432 := by
  rw [hw (by omega)]
  exact wv_b B b (x - b).toNat (fun q h1 h2 => h q h1 (by omega)) (by omega)
/-! THE REFERENCE'S READERS: where they stand -/
/-- what the reference calls a token of the kind k -/
def rk (k t : Int) : Prop := (k = 259 ∧ t = 0) ∨ (k = 256 ∧ t = 1) ∨ (k = 257 ∧ t = 2) ∨ (k = 258 ∧ t = 4) ∨ (k < 256 ∧ t = 3)
/-- a token has been read from x on -/
def rtok (B : Int → Int) (σ : th_M) (a : Nat) (x : Int) : Prop := ∃ k v, Tok B x (gI σ a 17) (gI σ a 13) k v ∧ rk k (gI σ a 14) ∧ gI σ a 18 = gI σ a 13 ∧ (k = 256 → gI σ a 13 - gI σ a 17 ≤ 6 → gI σ a 16 = v)
/-- it stands at the token j, or has found the fault c there -/
def RSt (σ : th_M) (a : Nat) (T : tkT) (c j : Int) : Prop := (0 ≤ j ∧ j < tm T ∧ gI σ a 19 = c ∧ (c = 0 → gI σ a 13 = tS T j + tL T j ∧ gI σ a 17 = tS T j ∧ gI σ a 18 = tS T j + tL T j) ∧ (c ≠ 0 → gI σ a 20 = tS T j)) ∧ (c = 0 → rk (tK T j) (gI σ a 14) ∧ (tK T j = 256 → tL T j ≤ 6 → gI σ a 16 = tV T j))
section RSTS
variable {y : Nat → ClassId} {E : th_E} {σ σ1 : th_M} {a : Nat} {L : List Nat} {B : Int → Int} {T : tkT} {c j k t v b e : Int}
theorem RSt.mv (hM : fm L E σ σ1 a) (h13 : 13 ∉ L) (h14 : 14 ∉ L) (h16 : 16 ∉ L) (h17 : 17 ∉ L) (h18 : 18 ∉ L) (h19 : 19 ∉ L) (h20 : 20 ∉ L) (h : RSt σ a T c j) : RSt σ1 a T c j := by
  unfold RSt
  rw [hM.i h13, hM.i h14, hM.i h16, hM.i h17, hM.i h18, hM.i h19, hM.i h20]
  exact h
theorem RSt.t2 (h : RSt σ a T c j) : c = 0 → (gI σ a 14 = 2 ↔ tK T j = 257) := fun hc => by
  have := (h.2 hc).1
  unfold rk at this
  omega
theorem RSt.t1 (h : RSt σ a T c j) : c = 0 → (gI σ a 14 = 1 ↔ tK T j = 256) := fun hc => by
  have := (h.2 hc).1
  unfold rk at this
  omega
theorem RSt.t4 (h : RSt σ a T c j) : c = 0 → (gI σ a 14 = 4 ↔ tK T j = 258) := fun hc => by
  have := (h.2 hc).1
  unfold rk at this
  omega
theorem RSt.t0 (h : RSt σ a T c j) : c = 0 → (gI σ a 14 = 0 ↔ tK T j = 259) := fun hc => by
  have := (h.2 hc).1
  unfold rk at this
  omega
theorem RSt.t3 (h : RSt σ a T c j) : c = 0 → (gI σ a 14 = 3 ↔ tK T j < 256) := fun hc => by
  have := (h.2 hc).1
  unfold rk at this
  omega
theorem Tok.k_of (hB : byt B) (h : Tok B t b e k v) : k < 256 → B b = k ∧ 0 ≤ k := fun hk => by
  have hb := hB b
  obtain ⟨-, -, -, h⟩ := h
  rcases h with ⟨a1, a2, a3⟩ | ⟨a1, a2, -⟩ | ⟨a1, a2, -⟩ | ⟨a1, a2, a3, a4⟩ | ⟨a1, a2, a3, a4, a5, a6⟩ <;> omega
/-- the sign that it stands at -/
theorem RSt.sign (hSt : tkSt B T) (h : RSt σ a T c j) : c = 0 → tK T j < 256 → B (gI σ a 17) = tK T j := fun hc hk => by
  have h1 := hSt.tok h.1.1 h.1.2.1
  rw [(h.1.2.2.2.1 hc).2.1]
  exact (Tok.k_of hSt.1 h1 hk).1
theorem RSt.next (hSt : tkSt B T) (h : RSt σ a T 0 j) (hk : tK T j ≠ 259) (ht : rtok B σ1 a (gI σ a 13)) (h19 : gI σ1 a 19 = 0) : RSt σ1 a T 0 (j + 1) := by
  obtain ⟨k, v, ht, hr, h18, hv⟩ := ht
  have h0 := h.1.1
  have hm := hSt.fin h0 h.1.2.1 hk
  have h1 := hSt.tok (j := j + 1) (by omega) hm
  have e13 := (h.1.2.2.2.1 rfl).1
  unfold tks1 tE at h1
  rw [if_neg (by omega), show j + 1 - 1 = j by omega, ← e13] at h1
  obtain ⟨d1, d2, d3, d4⟩ := Tok.det hSt.1 h1 ht
  refine ⟨⟨by omega, hm, h19, fun _ => ⟨d2, d1, by omega⟩, fun h9 => absurd rfl h9⟩, fun _ => ⟨by rw [← d3]; exact hr, fun h9 h8 => ?_⟩⟩
  exact (hv (by omega) (by omega)).trans (d4 h9 (by omega))
theorem RSt.first (hSt : tkSt B T) (ht : rtok B σ1 a 0) (h19 : gI σ1 a 19 = 0) : RSt σ1 a T 0 0 := by
  obtain ⟨k, v, ht, hr, h18, hv⟩ := ht
  have hm := hSt.2.1
  have h1 := hSt.tok (j := 0) (by omega) (by omega)
  unfold tks1 tE at h1
  rw [if_pos rfl] at h1
  obtain ⟨d1, d2, d3, d4⟩ := Tok.det hSt.1 h1 ht
  refine ⟨⟨by omega, by omega, h19, fun _ => ⟨d2, d1, by omega⟩, fun h9 => absurd rfl h9⟩, fun _ => ⟨by rw [← d3]; exact hr, fun h9 h8 => ?_⟩⟩
  exact (hv (by omega) (by omega)).trans (d4 h9 (by omega))
theorem RSt.bad {c2 : Int} (h : RSt σ a T c j) (hc : c2 ≠ 0) (h19 : gI σ1 a 19 = c2) (h20 : gI σ1 a 20 = tS T j) : RSt σ1 a T c2 j := ⟨⟨h.1.1, h.1.2.1, h19, fun h9 => absurd h9 hc, fun _ => h20⟩, fun h9 => absurd h9 hc⟩
theorem sr_mk6 {n : Int} (hv : gV σ a 9 = some (.ref (ad E a 6))) (h10 : gI σ a 10 = 0) (h11 : gI σ a 11 = n) (hn : 0 ≤ n) (h4 : n ≤ 400) : ∃ B, sr E σ a B ∧ B = byf (aF σ (ad E a 6)) n := by
  refine ⟨byf (aF σ (ad E a 6)) n, ⟨by omega, by omega, by omega, fun k hk => byf_out (by omega), Or.inl ⟨hv, by omega, fun k h1 h2 => ?_⟩⟩, rfl⟩
  rw [h10, show 0 + k = k by omega]
  exact (byf_in h1 (by omega)).symm
/-- what stands in a list, a map has these keys -/
def krl (g : Nat → Int32) (i d : Int) (ks : List Int) : Prop := ∃ R, Ch g (i + 1) R d ∧ R.map (mY g) = ks
theorem krl.zero {g : Nat → Int32} {i : Int} : krl g i (i + 1) [] := ⟨[], rfl, rfl⟩
theorem kR_of {ks : List Int} {cw c2 c3 j3 : Int} (hw : (tK T j ≠ 256 ∧ cw = 1) ∨ (tK T j = 256 ∧ 6 < tL T j ∧ cw = 2) ∨ (tK T j = 256 ∧ tL T j ≤ 6 ∧ cw = 0 ∧ v = tV T j)) (h2 : c2 = cw ∨ (c2 = 3 ∧ cw = 0 ∧ v ∈ ks)) (h3 : c2 = 0 → v ∉ ks) (h4 : c2 ≠ 0 → c3 = c2 ∧ j3 = j) (h5 : c2 = 0 → c3 = 0 ∧ j3 = j + 1) : kR T j ks c3 j3 v := by
  rcases hw with ⟨a1, a2⟩ | ⟨a1, a2, a3⟩ | ⟨a1, a2, a3, a4⟩
  · have e : c2 = 1 := by rcases h2 with h2 | ⟨-, h2, -⟩ <;> omega
    have := h4 (by omega)
    exact Or.inl ⟨a1, by omega, by omega⟩
  · have e : c2 = 2 := by rcases h2 with h2 | ⟨-, h2, -⟩ <;> omega
    have := h4 (by omega)
    exact Or.inr (Or.inl ⟨a1, a2, by omega, by omega⟩)
  · rcases h2 with h2 | ⟨e, -, hm⟩
    · have e : c2 = 0 := by omega
      have h6 := h3 e
      have h7 := h5 e
      rw [a4] at h6
      exact Or.inr (Or.inr (Or.inr ⟨a1, a2, h6, h7.1, h7.2, a4⟩))
    · have h7 := h4 (by omega)
      rw [a4] at hm
      exact Or.inr (Or.inr (Or.inl ⟨a1, a2, hm, by omega, by omega⟩))
end RSTS
theorem mK_upd {f : Nat → Int32} {k x : Int} (h : k % 4 = 0) (h0 : 0 ≤ k) (hx : rng x) : mK (upd f k.toNat (I x)) (k / 4) = x := by
  unfold mK
  rw [show 4 * (k / 4) = k by omega, upd_at, I_toInt hx]
section KRL
variable {f g h : Nat → Int32} {i b d v m u : Int} {ks : List Int}
theorem krl.to (hk : krl f i d ks) (hs : same f g 0 d 0) (h0 : 0 ≤ i) : krl g i d ks := by
  obtain ⟨R, c, e⟩ := hk
  have sw : same f g (i + 1) d 0 := hs.sub (by omega) (Int.le_refl _)
  exact ⟨R, c.to sw, by rw [keys_to c sw]; exact e⟩
theorem krl.step (hk : krl g i d ks) (h2 : rdT g h d b v m) (h0 : 0 ≤ i) : krl h i b (ks ++ [v]) := by
  obtain ⟨t2, z2, y2, s2, l2, p2⟩ := h2
  obtain ⟨R, c, e⟩ := hk.to s2 h0
  refine ⟨R ++ [d], c.app (Ch.one (by omega) (by omega)), ?_⟩
  rw [List.map_append, e]
  show ks ++ [mY h d] = ks ++ [v]
  rw [y2]
theorem Ch.here {q : Int} : ∀ {R R' : List Int} {a : Int}, Ch f a R d → Ch f a R' q → q < d → q ∈ R
  | [], _, a, h, h', hl => by have h : a = d := h; have := h'.le; omega
  | r :: R, [], a, h, h', _ => by have h' : a = q := h'; exact List.mem_cons.mpr (Or.inl (by rw [h.1, h']))
  | _ :: _, _ :: _, _, h, h', hl => List.mem_cons_of_mem _ (Ch.here h.2.2.2 h'.2.2.2 hl)
/-- a key that none has, that one has -/
theorem krl.no (hk : krl f i d ks) (hn : nok f (i + 1) d u) : u ∉ ks := by
  obtain ⟨R, c, e⟩ := hk
  obtain ⟨R', c', n⟩ := hn
  rw [← e, c.uniq c']
  intro hu
  obtain ⟨q, hq, hy⟩ := List.mem_map.mp hu
  exact n q hq hy
theorem krl.yes {q : Int} (hk : krl f i d ks) (hn : nok f (i + 1) q u) (hq : q < d) (hy : mY f q = u) : u ∈ ks := by
  obtain ⟨R, c, e⟩ := hk
  obtain ⟨R', c', n⟩ := hn
  rw [← e]
  exact List.mem_map.mpr ⟨q, Ch.here c c' hq, hy⟩
end KRL
/-- set aside: omega doesn't look into it -/
def hid (p : Prop) : Prop := p
theorem hid.mk {p : Prop} (h : p) : hid p := h
theorem fr_q {a b c n : Nat} (h : a ≤ b) : a ≤ c * n + b := Nat.le_trans h (Nat.le_add_left b (c * n))
theorem fr_r {a b c n : Nat} (h : a ≤ b) : c * n + a ≤ c * n + b := Nat.add_le_add_left h (c * n)
theorem fr_s {a b c n : Nat} (h : a ≤ c + b) : c * n + a ≤ c * (n + 1) + b := by
  rw [Nat.mul_add, Nat.mul_one, Nat.add_assoc]
  exact Nat.add_le_add_left h (c * n)
theorem pgo.tb {b0 t0 b t x z w : Int} (h7 : pgo b0 t0 x z) (h8 : pgo b t z w) (h6 : bdo b0 b) (hz : z ≤ w) (hx : x ≤ z) : pgo b t x w := by
  unfold pgo at h7 h8 ⊢
  unfold bdo at h6
  omega
