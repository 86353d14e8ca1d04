def bt (x : Int32) (i : Nat) : Bool := x.toBitVec.getLsbD i
theorem b_ext {x y : Int32} (h : ∀ i, i < 32 → bt x i = bt y i) : x = y := Int32.toBitVec_inj.mp (BitVec.eq_of_getLsbD_eq (fun i hi => h i hi))
theorem b_or (x y : Int32) (i : Nat) : bt (x ||| y) i = (bt x i || bt y i) := by unfold bt; rw [Int32.toBitVec_or, BitVec.getLsbD_or]
theorem b_and (x y : Int32) (i : Nat) : bt (x &&& y) i = (bt x i && bt y i) := by unfold bt; rw [Int32.toBitVec_and, BitVec.getLsbD_and]
theorem b_xor (x y : Int32) (i : Nat) : bt (x ^^^ y) i = (bt x i ^^ bt y i) := by unfold bt; rw [Int32.toBitVec_xor, BitVec.getLsbD_xor]
theorem b_big {x : Int32} {i : Nat} (h : 32 ≤ i) : bt x i = false := BitVec.getLsbD_of_ge _ _ h
theorem b_255 (i : Nat) : bt 255 i = decide (i < 8) := by
  rcases Nat.lt_or_ge i 32 with h | h
  · exact (by decide +kernel : ∀ i, i < 32 → bt 255 i = decide (i < 8)) i h
  · rw [b_big h, decide_eq_false (by omega)]
theorem b_65535 (i : Nat) : bt 65535 i = decide (i < 16) := by
  rcases Nat.lt_or_ge i 32 with h | h
  · exact (by decide +kernel : ∀ i, i < 32 → bt 65535 i = decide (i < 16)) i h
  · rw [b_big h, decide_eq_false (by omega)]
theorem b_m1 : ∀ i, i < 32 → bt (-1) i = true := by decide +kernel
theorem b_0 (i : Nat) : bt 0 i = false := BitVec.getLsbD_zero
theorem s_l : ∀ n, n < 32 → ((nI n &&& 31).toBitVec.smod 32).toNat = n := by decide +kernel
theorem s_u : ∀ n, n < 32 → (((nI n).toUInt32 &&& Int32.toUInt32 31).toBitVec % 32).toNat = n := by decide +kernel
theorem b_shl (n : Nat) (hn : n < 32) (x : Int32) {i : Nat} (hi : i < 32) : bt (x <<< (nI n &&& 31)) i = (decide (n ≤ i) && bt x (i - n)) := by
  unfold bt
  rw [Int32.toBitVec_shiftLeft]
  show (x.toBitVec <<< ((nI n &&& 31).toBitVec.smod 32).toNat).getLsbD i = _
  rw [s_l n hn, BitVec.getLsbD_shiftLeft]
  rcases Nat.lt_or_ge i n with h | h
  · simp [h, Nat.not_le.mpr h]
  · simp [hi, h, Nat.not_lt.mpr h]
theorem b_ushr (n : Nat) (hn : n < 32) (x : Int32) (i : Nat) : bt ((x.toUInt32 >>> ((nI n).toUInt32 &&& Int32.toUInt32 31)).toInt32) i = bt x (n + i) := by
  show (x.toUInt32 >>> ((nI n).toUInt32 &&& Int32.toUInt32 31)).toBitVec.getLsbD i = x.toUInt32.toBitVec.getLsbD (n + i)
  rw [UInt32.toBitVec_shiftRight]
  show (x.toUInt32.toBitVec >>> (((nI n).toUInt32 &&& Int32.toUInt32 31).toBitVec % 32).toNat).getLsbD i = _
  rw [s_u n hn, BitVec.getLsbD_ushiftRight]
theorem b_sshr (n : Nat) (hn : n < 32) (x : Int32) {i : Nat} (hi : i < 32) : bt (x >>> (nI n &&& 31)) i = if n + i < 32 then bt x (n + i) else bt x 31 := by
  unfold bt
  rw [Int32.toBitVec_shiftRight]
  show (x.toBitVec.sshiftRight ((nI n &&& 31).toBitVec.smod 32).toNat).getLsbD i = _
  rw [s_l n hn, BitVec.getLsbD_sshiftRight, BitVec.msb_eq_getLsbD_last]
  simp [hi]
theorem bt_I (n i : Nat) (hi : i < 32) : bt (I (n : Int)) i = n.testBit i := by
  show (BitVec.ofInt 32 (n : Int)).getLsbD i = _
  rw [BitVec.ofInt_natCast, BitVec.getLsbD_ofNat]
  simp [hi]
theorem so5 {w b : Int} (h0 : 0 ≤ w) (h2 : 0 ≤ b) (h3 : b < 32) : (I w <<< (I 5 &&& 31)) ||| I b = I (32 * w + b) := by
  obtain ⟨n, rfl⟩ := Int.eq_ofNat_of_zero_le h0
  obtain ⟨k, rfl⟩ := Int.eq_ofNat_of_zero_le h2
  have hk : k < 2 ^ 5 := by omega
  have e : (32 * (n : Int) + (k : Int)) = ((2 ^ 5 * n + k : Nat) : Int) := by omega
  rw [e, show I 5 = nI 5 from by decide]
  apply b_ext
  intro i hi
  rw [b_or, b_shl 5 (by decide) _ hi, bt_I _ _ hi, bt_I _ _ hi, Nat.testBit_two_pow_mul_add n hk i]
  by_cases h : i < 5
  · rw [if_pos h, decide_eq_false (by omega), Bool.false_and, Bool.false_or]
  · rw [if_neg h, decide_eq_true (by omega), Bool.true_and, bt_I _ _ (by omega)]
    have : k.testBit i = false := Nat.testBit_lt_two_pow (Nat.lt_of_lt_of_le hk (Nat.pow_le_pow_right (by decide) (by omega)))
    rw [this, Bool.or_false]
/-- the byte of x at s, and how the reference cuts it out -/
def sb (x : Int32) (s : Int) : Int := ((x.toUInt32 >>> ((I s).toUInt32 &&& Int32.toUInt32 31)).toInt32 &&& I 255).toInt
def sb2 (x : Int32) (s : Int) : Int := (x >>> (I s &&& 31) &&& I 255).toInt
theorem sb_eq {x : Int32} {s : Int} (h : s = 0 ∨ s = 8 ∨ s = 16 ∨ s = 24) : sb2 x s = sb x s := by
  unfold sb sb2
  have key : ∀ n : Nat, n ≤ 24 → (x >>> (nI n &&& 31) &&& I 255) = ((x.toUInt32 >>> ((nI n).toUInt32 &&& Int32.toUInt32 31)).toInt32 &&& I 255) := by
    intro n hn
    apply b_ext
    intro i hi
    rw [b_and, b_and, b_ushr n (by omega), b_sshr n (by omega) _ hi, show I 255 = 255 from by decide, b_255]
    by_cases h8 : i < 8
    · rw [if_pos (by omega)]
    · rw [decide_eq_false h8, Bool.and_false, Bool.and_false]
  rcases h with h | h | h | h <;> subst h
  · have := key 0 (by decide); rw [show nI 0 = I 0 from by decide] at this; rw [this]
  · have := key 8 (by decide); rw [show nI 8 = I 8 from by decide] at this; rw [this]
  · have := key 16 (by decide); rw [show nI 16 = I 16 from by decide] at this; rw [this]
  · have := key 24 (by decide); rw [show nI 24 = I 24 from by decide] at this; rw [this]
theorem sb_rng (x : Int32) (s : Int) : 0 ≤ sb x s ∧ sb x s ≤ 255 := and_le _ (k := I 255) (n := 255) rfl (by decide)
section SOT
variable {p : Program} {l : Launch} {e : Env} {R : Room} {s : State} {m : MethodId} {args : Array Value} {below : List Frame} {meth : Method} {c : Code} {H H0 : Heap} {locs : List Loc} {cells slots : Nat} {Q : State → Prop} {rest st0 : List Value} {pc : Nat} {ls : Array Slot} {cc : ByteArray}
theorem th_so5 {w b : Int} (k : ∀ z : Int, rng z → (0 ≤ w → w < 33554432 → 0 ≤ b → b < 32 → z = 32 * w + b) → W p l e R s m args below meth c H locs cells slots Q (F0 m pc ls (.int (I z) :: rest))) : W p l e R s m args below meth c H locs cells slots Q (F0 m pc ls (.int ((I w <<< (I 5 &&& 31)) ||| I b) :: rest)) := by
  have h := k ((I w <<< (I 5 &&& 31)) ||| I b).toInt (rng_toInt _) (fun h0 h1 h2 h3 => by
    rw [so5 h0 h2 h3]
    exact I_toInt ⟨by omega, by omega⟩)
  rw [I_of] at h
  exact h
theorem th_sb {x : Int32} {t : Int} (k : ∀ z : Int, rng z → z = sb x t → W p l e R s m args below meth c H locs cells slots Q (F0 m pc ls (.int (I z) :: rest))) : W p l e R s m args below meth c H locs cells slots Q (F0 m pc ls (.int ((x.toUInt32 >>> ((I t).toUInt32 &&& Int32.toUInt32 31)).toInt32 &&& I 255) :: rest)) := by
  have h := k ((x.toUInt32 >>> ((I t).toUInt32 &&& Int32.toUInt32 31)).toInt32 &&& I 255).toInt (rng_toInt _) rfl
  rw [I_of] at h
  exact h
theorem th_sb2 {x : Int32} {t : Int} (k : ∀ z : Int, rng z → z = sb2 x t → W p l e R s m args below meth c H locs cells slots Q (F0 m pc ls (.int (I z) :: rest))) : W p l e R s m args below meth c H locs cells slots Q (F0 m pc ls (.int (x >>> (I t &&& 31) &&& I 255) :: rest)) := by
  have h := k (x >>> (I t &&& 31) &&& I 255).toInt (rng_toInt _) rfl
  rw [I_of] at h
  exact h
end SOT
theorem wv_b (B : Int → Int) (b : Int) (n : Nat) (h : ∀ q, b ≤ q → q < b + n → isLt (B q)) (hn : n ≤ 5) : 0 ≤ wv B b n ∧ wv B b n < 33554432 := by
  have step : ∀ k : Nat, k + 1 ≤ n → ∀ M K : Int, 0 ≤ wv B b k → wv B b k < M → K = 32 * M → 0 ≤ wv B b (k + 1) ∧ wv B b (k + 1) < K := by
    intro k hk M K h0 h1 hK
    have h2 := h (b + k) (by omega) (by omega)
    unfold isLt at h2
    have e : wv B b (k + 1) = 32 * wv B b k + (B (b + k) - 96) := rfl
    rw [e]
    omega
  have z0 : 0 ≤ wv B b 0 := Int.le_refl _
  have z1 : wv B b 0 < 1 := show (0 : Int) < 1 by decide
  by_cases e0 : n = 0
  · subst e0; exact ⟨z0, by omega⟩
  have a1 : 0 ≤ wv B b 1 ∧ wv B b 1 < 32 := step 0 (by omega) 1 32 z0 z1 (by decide)
  by_cases e1 : n = 1
  · subst e1; exact ⟨a1.1, by omega⟩
  have a2 : 0 ≤ wv B b 2 ∧ wv B b 2 < 1024 := step 1 (by omega) 32 1024 a1.1 a1.2 (by decide)
  by_cases e2 : n = 2
  · subst e2; exact ⟨a2.1, by omega⟩
  have a3 : 0 ≤ wv B b 3 ∧ wv B b 3 < 32768 := step 2 (by omega) 1024 32768 a2.1 a2.2 (by decide)
  by_cases e3 : n = 3
  · subst e3; exact ⟨a3.1, by omega⟩
  have a4 : 0 ≤ wv B b 4 ∧ wv B b 4 < 1048576 := step 3 (by omega) 32768 1048576 a3.1 a3.2 (by decide)
  by_cases e4 : n = 4
  · subst e4; exact ⟨a4.1, by omega⟩
  have a5 : 0 ≤ wv B b 5 ∧ wv B b 5 < 33554432 := step 4 (by omega) 1048576 33554432 a4.1 a4.2 (by decide)
  have e5 : n = 5 := by omega
  subst e5
  exact a5
/-- one letter more -/
theorem wv_next {B : Int → Int} {b x w : Int} (hb : b ≤ x) (h : ∀ q, b ≤ q → q < x → isLt (B q)) (hx : isLt (B x)) (hw : x - b ≤ 6 → w = wv B b (x - b).toNat) {z : Int} (hz : 0 ≤ w → w < 33554432 → 0 ≤ B x - 96 → B x - 96 < 32 → z = 32 * w + (B x - 96)) : x + 1 - b ≤ 6 → z = wv B b (x + 1 - b).toNat := by
  intro h6
  have e1 := hw (by omega)
  have e2 := wv_b B b (x - b).toNat (fun q h1 h2 => h q h1 (by omega)) (by omega)
  unfold isLt at hx
  have e3 := hz (by omega) (by omega) (by omega) (by omega)
  rw [show (x + 1 - b).toNat = (x - b).toNat + 1 by omega]
  show z = 32 * wv B b (x - b).toNat + (B (b + ((x - b).toNat : Nat)) - 96)
  rw [show b + (((x - b).toNat : Nat) : Int) = x by omega, e3, e1]
/-! tokens as they are found -/
def tT (E : th_E) (σ : th_M) (a : Nat) : tkT := (aF σ (ad E a 0), aF σ (ad E a 1), aF σ (ad E a 2), aF σ (ad E a 3), gI σ a 4)
def tadd (E : th_E) (σ σ1 : th_M) (a : Nat) (k s v l : Int) : Prop := aF σ1 (ad E a 0) = upd (aF σ (ad E a 0)) (gI σ a 4).toNat (I k) ∧ aF σ1 (ad E a 1) = upd (aF σ (ad E a 1)) (gI σ a 4).toNat (I s) ∧ aF σ1 (ad E a 2) = upd (aF σ (ad E a 2)) (gI σ a 4).toNat (I v) ∧ aF σ1 (ad E a 3) = upd (aF σ (ad E a 3)) (gI σ a 4).toNat (I l) ∧ gI σ1 a 4 = gI σ a 4 + 1
/-- all tokens so far, none of them the end; where the next is looked for from -/
def pfx (B : Int → Int) (T : tkT) : Prop := ∀ j, 0 ≤ j → j < tm T → tks1 B T j ∧ tK T j ≠ 259
def tEnd (T : tkT) : Int := tE T (tm T)
section PFX
variable {E : th_E} {σ σ1 : th_M} {a : Nat} {k s v l j n x : Int} {B : Int → Int} {T : tkT}
theorem tm_T : tm (tT E σ a) = gI σ a 4 := rfl
theorem tadd.m (h : tadd E σ σ1 a k s v l) : tm (tT E σ1 a) = tm (tT E σ a) + 1 := h.2.2.2.2
theorem tadd.lt (h : tadd E σ σ1 a k s v l) (h0 : 0 ≤ j) (hj : j < tm (tT E σ a)) : tK (tT E σ1 a) j = tK (tT E σ a) j ∧ tS (tT E σ1 a) j = tS (tT E σ a) j ∧ tV (tT E σ1 a) j = tV (tT E σ a) j ∧ tL (tT E σ1 a) j = tL (tT E σ a) j := by
  obtain ⟨e0, e1, e2, e3, e4⟩ := h
  have hm : tm (tT E σ a) = gI σ a 4 := rfl
  unfold tK tS tV tL tT
  dsimp only
  rw [e0, e1, e2, e3, upd_no _ _ (by omega), upd_no _ _ (by omega), upd_no _ _ (by omega), upd_no _ _ (by omega)]
  exact ⟨rfl, rfl, rfl, rfl⟩
theorem tadd.new (h : tadd E σ σ1 a k s v l) (rk : rng k) (rs : rng s) (rv : rng v) (rl : rng l) : tK (tT E σ1 a) (tm (tT E σ a)) = k ∧ tS (tT E σ1 a) (tm (tT E σ a)) = s ∧ tV (tT E σ1 a) (tm (tT E σ a)) = v ∧ tL (tT E σ1 a) (tm (tT E σ a)) = l := by
  obtain ⟨e0, e1, e2, e3, e4⟩ := h
  have hm : tm (tT E σ a) = gI σ a 4 := rfl
  rw [hm]
  unfold tK tS tV tL tT
  dsimp only
  rw [e0, e1, e2, e3, upd_at, upd_at, upd_at, upd_at, I_toInt rk, I_toInt rs, I_toInt rv, I_toInt rl]
  exact ⟨rfl, rfl, rfl, rfl⟩
theorem tadd.e (h : tadd E σ σ1 a k s v l) (h0 : 0 ≤ j) (hj : j ≤ tm (tT E σ a)) : tE (tT E σ1 a) j = tE (tT E σ a) j := by
  unfold tE
  by_cases e : j = 0
  · rw [if_pos e, if_pos e]
  · rw [if_neg e, if_neg e]
    obtain ⟨-, e1, -, e3⟩ := h.lt (j := j - 1) (by omega) (by omega)
    rw [e1, e3]
theorem tadd.last (h : tadd E σ σ1 a k s v l) (rk : rng k) (rs : rng s) (rv : rng v) (rl : rng l) (hm : 0 ≤ gI σ a 4) : tks1 B (tT E σ1 a) (tm (tT E σ a)) ↔ Tok B (tEnd (tT E σ a)) s (s + l) k v := by
  obtain ⟨n0, n1, n2, n3⟩ := h.new rk rs rv rl
  have hq : tm (tT E σ a) = gI σ a 4 := rfl
  unfold tks1 tEnd
  rw [h.e (by omega) (Int.le_refl _), n0, n1, n2, n3]
theorem tadd.old (h : tadd E σ σ1 a k s v l) (h0 : 0 ≤ j) (hj : j < tm (tT E σ a)) : tks1 B (tT E σ1 a) j ↔ tks1 B (tT E σ a) j := by
  obtain ⟨n0, n1, n2, n3⟩ := h.lt h0 hj
  unfold tks1
  rw [h.e h0 (by omega), n0, n1, n2, n3]
theorem tadd.end (h : tadd E σ σ1 a k s v l) (rk : rng k) (rs : rng s) (rv : rng v) (rl : rng l) (hm : 0 ≤ gI σ a 4) : tEnd (tT E σ1 a) = s + l := by
  obtain ⟨n0, n1, n2, n3⟩ := h.new rk rs rv rl
  have hq : tm (tT E σ a) = gI σ a 4 := rfl
  have h1 := h.m
  unfold tEnd tE
  rw [if_neg (by omega), show tm (tT E σ1 a) - 1 = tm (tT E σ a) by omega, n1, n3]
theorem pfx.add (hp : pfx B (tT E σ a)) (h : tadd E σ σ1 a k s v l) (rk : rng k) (rs : rng s) (rv : rng v) (rl : rng l) (hm : 0 ≤ gI σ a 4) (ht : Tok B (tEnd (tT E σ a)) s (s + l) k v) (hk : k ≠ 259) : pfx B (tT E σ1 a) := by
  intro j h0 hj
  have h1 := h.m
  by_cases e : j = tm (tT E σ a)
  · rw [e]
    exact ⟨(h.last rk rs rv rl hm).mpr ht, by rw [(h.new rk rs rv rl).1]; exact hk⟩
  · have h2 : j < tm (tT E σ a) := by omega
    obtain ⟨a1, a2⟩ := hp j h0 h2
    exact ⟨(h.old h0 h2).mpr a1, by rw [(h.lt h0 h2).1]; exact a2⟩
theorem pfx.fin (hB : byt B) (hp : pfx B (tT E σ a)) (h : tadd E σ σ1 a 259 s v l) (rs : rng s) (rv : rng v) (rl : rng l) (hm : 0 ≤ gI σ a 4) (h4 : gI σ a 4 ≤ 400) (ht : Tok B (tEnd (tT E σ a)) s (s + l) 259 v) : tkSt B (tT E σ1 a) := by
  have h1 := h.m
  have hq : tm (tT E σ a) = gI σ a 4 := rfl
  have rk : rng 259 := ⟨by decide, by decide⟩
  refine ⟨hB, by omega, by omega, fun j h0 hj => ?_⟩
  by_cases e : j = tm (tT E σ a)
  · rw [e]
    exact ⟨(h.last rk rs rv rl hm).mpr ht, fun _ => by omega, fun _ => (h.new rk rs rv rl).1⟩
  · have h2 : j < tm (tT E σ a) := by omega
    obtain ⟨a1, a2⟩ := hp j h0 h2
    exact ⟨(h.old h0 h2).mpr a1, fun h9 => absurd h9 (by rw [(h.lt h0 h2).1]; exact a2), fun h9 => absurd h9 (by omega)⟩
theorem pfx.nil (h : gI σ a 4 = 0) : pfx B (tT E σ a) ∧ tEnd (tT E σ a) = 0 := by
  have hq : tm (tT E σ a) = gI σ a 4 := rfl
  refine ⟨fun j h0 hj => absurd hj (by omega), ?_⟩
  unfold tEnd tE
  rw [if_pos (by omega)]
theorem tT_tks : tks E σ a (tT E σ a) := ⟨rfl, rfl, rfl, rfl, rfl⟩
theorem tkSt.tfin (h : tkSt B T) : tfin T := fun j h0 h1 hk => h.fin h0 h1 hk
end PFX
/-- the text of n bytes -/
def byf (f : Nat → Int32) (n : Int) : Int → Int := fun k => if 0 ≤ k ∧ k < n then (f k.toNat).toInt else -1
theorem byf_in {f : Nat → Int32} {n k : Int} (h0 : 0 ≤ k) (h1 : k < n) : byf f n k = (f k.toNat).toInt := if_pos ⟨h0, h1⟩
theorem byf_out {f : Nat → Int32} {n k : Int} (h : n ≤ k) : byf f n k = -1 := if_neg (by omega)
theorem byf_byt {f : Nat → Int32} {n m : Int} (h : ∀ k : Int, 0 ≤ k → k < m → 0 ≤ (f k.toNat).toInt ∧ (f k.toNat).toInt ≤ 255) (hn : n ≤ m) : byt (byf f n) := fun k => by
  unfold byf
  split
  · have := h k (by omega) (by omega); omega
  · decide
theorem byf_eq {f g : Nat → Int32} {n m : Int} (h : ∀ k : Int, 0 ≤ k → k < m → (f k.toNat).toInt = (g k.toNat).toInt) (hn : n ≤ m) : byf f n = byf g n := by
  funext k
  unfold byf
  split
  · exact h k (by omega) (by omega)
  · rfl
section TOKB
variable {B : Int → Int} {i b r v k e : Int}
theorem run_gt {P : Int → Prop} (h : P (B b)) (hle : b ≤ r) (hn : ¬ P (B r)) : b < r := by
  by_cases e : b = r
  · rw [e] at h; exact absurd h hn
  · omega
theorem Tok.word (h1 : i ≤ b) (h2 : ∀ q, i ≤ q → q < b → isBk (B q)) (h3 : b < r) (h4 : ∀ q, b ≤ q → q < r → isLt (B q)) (h5 : ¬ isLt (B r)) (h6 : r - b ≤ 6 → v = wv B b (r - b).toNat) : Tok B i b (b + (r - b)) 256 v := by
  have h7 := h4 b (Int.le_refl _) h3
  rw [show b + (r - b) = r by omega]
  exact ⟨h1, h2, by unfold isBk; unfold isLt at h7; omega, Or.inr (Or.inl ⟨h7, rfl, h3, h4, h5, h6⟩)⟩
theorem Tok.digits (h1 : i ≤ b) (h2 : ∀ q, i ≤ q → q < b → isBk (B q)) (h3 : b < r) (h4 : ∀ q, b ≤ q → q < r → isDg (B q)) (h5 : ¬ isDg (B r)) : Tok B i b (b + (r - b)) 257 v := by
  have h7 := h4 b (Int.le_refl _) h3
  rw [show b + (r - b) = r by omega]
  exact ⟨h1, h2, by unfold isBk; unfold isDg at h7; omega, Or.inr (Or.inr (Or.inl ⟨h7, rfl, h3, h4, h5⟩))⟩
theorem Tok.dots (h1 : i ≤ b) (h2 : ∀ q, i ≤ q → q < b → isBk (B q)) (h3 : B b = 46) (h4 : B (b + 1) = 46) : Tok B i b (b + 2) 258 v := ⟨h1, h2, by unfold isBk; omega, Or.inr (Or.inr (Or.inr (Or.inl ⟨h3, h4, rfl, rfl⟩)))⟩
theorem Tok.sign (h1 : i ≤ b) (h2 : ∀ q, i ≤ q → q < b → isBk (B q)) (hk : B b = k) (h3 : k ≠ -1) (h4 : ¬ (k = 32 ∨ k = 10)) (h5 : ¬ (97 ≤ k ∧ k ≤ 122)) (h6 : ¬ (48 ≤ k ∧ k ≤ 57)) (h7 : ¬ (k = 46 ∧ B (b + 1) = 46)) : Tok B i b (b + 1) k v := by
  subst hk
  exact ⟨h1, h2, h4, Or.inr (Or.inr (Or.inr (Or.inr ⟨h3, h5, h6, h7, rfl, rfl⟩)))⟩
theorem Tok.stop (h1 : i ≤ b) (h2 : ∀ q, i ≤ q → q < b → isBk (B q)) (h3 : B b = -1) : Tok B i b (b + 0) 259 v := ⟨h1, h2, by unfold isBk; omega, Or.inl ⟨h3, rfl, by omega⟩⟩
end TOKB
