/-! ORDERS OF WHAT LIES WITHIN ONE -/
def ls (f : Nat → Int32) (b : Int) (n : Nat) : List Int := (List.range n).map (fun (p : Nat) => (f (b + (p : Int)).toNat).toInt)
/-- the n at the place b are those that lie at once within i, in some order -/
def prm (f1 f : Nat → Int32) (b : Int) (n : Nat) (i : Int) : Prop := ∃ R, Ch f1 (i + 1) R (i + mS f1 i) ∧ R.length = n ∧ (ls f b n).Perm R
/-- the first p are told: from the first on, or (T) from the last on -/
def ofl (T : Prop) (f1 f : Nat → Int32) (b n i p : Int) : Prop := (T → ∀ q : Int, 0 ≤ q → q < p → chn f1 (i + 1) (n - 1 - q) (f (b + q).toNat).toInt) ∧ (¬ T → ∀ q : Int, 0 ≤ q → q < p → chn f1 (i + 1) q (f (b + q).toNat).toInt)
section ORD
variable {f g f1 : Nat → Int32} {b c i p q z j a d : Int} {n m : Nat} {T : Prop} {R : List Int}
theorem ls_succ : ls f b (n + 1) = ls f b n ++ [(f (b + (n : Int)).toNat).toInt] := by
  unfold ls
  rw [List.range_succ, List.map_append]
  rfl
theorem ls_len : (ls f b n).length = n := by
  unfold ls
  rw [List.length_map, List.length_range]
theorem ls_get {k : Nat} (h : k < n) : (ls f b n)[k]? = some ((f (b + (k : Int)).toNat).toInt) := by
  unfold ls
  rw [List.getElem?_map, List.getElem?_range h]
  rfl
theorem ls_same (h : ∀ q : Int, b ≤ q → q < b + n → g q.toNat = f q.toNat) : ls g b n = ls f b n := by
  unfold ls
  apply List.map_congr_left
  intro p hp
  have := List.mem_range.mp hp
  rw [h _ (by omega) (by omega)]
theorem ls_app : ∀ m : Nat, ls f b (n + m) = ls f b n ++ ls f (b + n) m
  | 0 => by
    have : ls f (b + n) 0 = [] := rfl
    rw [this, List.append_nil]
    rfl
  | m + 1 => by
    rw [← Nat.add_assoc, ls_succ, ls_succ, ls_app m, List.append_assoc]
    rw [show b + ((n + m : Nat) : Int) = b + (n : Int) + (m : Int) by omega]
theorem Ch.nth : ∀ {R R1 : List Int} {a : Int}, Ch f a R d → Ch f a R1 c → R1.length < R.length → R[R1.length]? = some c
  | [], R1, a, _, _, h => absurd h (Nat.not_lt_zero _)
  | r :: R, [], a, h, h1, _ => by
    have h1 : a = c := h1
    obtain ⟨e, _⟩ := h
    rw [← h1, ← e]
    rfl
  | r :: R, r1 :: R1, a, h, h1, hl => by
    obtain ⟨_, _, _, h2⟩ := h
    obtain ⟨_, _, _, h3⟩ := h1
    have := Ch.nth h2 h3 (by simpa using hl)
    simpa using this
theorem ofl.zero : ofl T f1 f b d i 0 := ⟨fun _ q h1 h2 => absurd h1 (by omega), fun _ q h1 h2 => absurd h1 (by omega)⟩
theorem ofl.st1 {x : Nat} {n : Int} (h : ofl T f1 f b n i p) (hT : T) (hc : chn f1 (i + 1) (n - 1 - p) z) (e : g = upd f x (I z)) (hx : (x : Int) = b + p) (hr : rng z) (hp : 0 ≤ p) (hb : 0 ≤ b) : ofl T f1 g b n i (p + 1) := by
  refine ⟨fun _ q h1 h2 => ?_, fun h9 => absurd hT h9⟩
  by_cases e2 : q = p
  · rw [e2, e, show (b + p).toNat = x by omega, upd_at, I_toInt hr]; exact hc
  · rw [e, upd_no _ _ (by omega)]; exact h.1 hT q h1 (by omega)
theorem ofl.st0 {x : Nat} {n : Int} (h : ofl T f1 f b n i p) (hT : ¬ T) (hc : chn f1 (i + 1) p z) (e : g = upd f x (I z)) (hx : (x : Int) = b + p) (hr : rng z) (hp : 0 ≤ p) (hb : 0 ≤ b) : ofl T f1 g b n i (p + 1) := by
  refine ⟨fun h9 => absurd h9 hT, fun _ q h1 h2 => ?_⟩
  by_cases e2 : q = p
  · rw [e2, e, show (b + p).toNat = x by omega, upd_at, I_toInt hr]; exact hc
  · rw [e, upd_no _ _ (by omega)]; exact h.2 hT q h1 (by omega)
theorem ofl.prm {k : Int} (h : ofl T f1 f b k i k) (hc : chn f1 (i + 1) k (i + mS f1 i)) (hn : (n : Int) = k) : prm f1 f b n i := by
  obtain ⟨R, hR, hl⟩ := hc
  have hln : R.length = n := by omega
  refine ⟨R, hR, hln, ?_⟩
  have key : ls f b n = R ∨ ls f b n = R.reverse := by
    by_cases hT : T
    · right
      apply List.ext_getElem?
      intro w
      by_cases hw : w < n
      · rw [ls_get hw, List.getElem?_reverse (by omega)]
        obtain ⟨R1, hR1, hl1⟩ := h.1 hT (w : Int) (by omega) (by omega)
        rw [← Ch.nth hR hR1 (by omega)]
        rw [show R.length - 1 - w = R1.length by omega]
      · rw [List.getElem?_eq_none (by rw [ls_len]; omega), List.getElem?_eq_none (by rw [List.length_reverse]; omega)]
    · left
      apply List.ext_getElem?
      intro w
      by_cases hw : w < n
      · rw [ls_get hw]
        obtain ⟨R1, hR1, hl1⟩ := h.2 hT (w : Int) (by omega) (by omega)
        rw [← Ch.nth hR hR1 (by omega)]
        rw [show w = R1.length by omega]
      · rw [List.getElem?_eq_none (by rw [ls_len]; omega), List.getElem?_eq_none (by omega)]
  rcases key with e | e
  · exact List.Perm.of_eq e
  · exact (List.Perm.of_eq e).trans (List.reverse_perm R)
theorem prm.at {k x : Nat} (h : prm f1 f b n i) (hw : wf f1 a d) (ha : a ≤ i) (hd : i < d) (hk : k < n) (hx : (x : Int) = b + k) (hz : (f x).toInt = z) : kc f1 i z := by
  obtain ⟨R, hR, _, hP⟩ := h
  refine (Ch.iff hw ha hd hR).mp (hP.mem_iff.mp ?_)
  have := ls_get (f := f) (b := b) hk
  rw [show (b + (k : Int)).toNat = x by omega, hz] at this
  exact List.mem_of_getElem? this
theorem prm.same (h : prm f1 f b n i) (hs : ∀ q : Int, b ≤ q → q < b + n → g q.toNat = f q.toNat) : prm f1 g b n i := by
  obtain ⟨R, hR, hl, hP⟩ := h
  exact ⟨R, hR, hl, by rw [ls_same hs]; exact hP⟩
theorem upd_self {x : Nat} : upd f x (I (f x).toInt) = f := by
  funext q
  by_cases e : q = x
  · rw [e, upd_at, I_of]
  · rw [upd_no _ _ e]
/-- one moves on by one -/
theorem prm.swap {x y : Nat} {q : Int} (h : prm f1 (upd f x (I j)) b n i) (hx : (x : Int) = b + q) (hy : (y : Int) = b + q - 1) (hz : (f y).toInt = z) (hq : 0 < q) (hn : q < n) (hb : 0 ≤ b) (hrz : rng z) (hrj : rng j) (e : g = upd f x (I z)) : prm f1 (upd g y (I j)) b n i := by
  obtain ⟨R, hR, hl, hP⟩ := h
  refine ⟨R, hR, hl, List.Perm.trans ?_ hP⟩
  obtain ⟨k, hk⟩ : ∃ k : Nat, (k : Int) = q - 1 := ⟨(q - 1).toNat, by omega⟩
  obtain ⟨w, hw⟩ : ∃ w : Nat, n = k + (2 + w) := ⟨n - k - 2, by omega⟩
  have hs : ∀ v : Nat → Int32, ls v b n = ls v b k ++ ([(v y).toInt, (v x).toInt] ++ ls v (b + k + 2) w) := fun v => by
    rw [hw, ls_app, ls_app]
    have : ls v (b + k) 2 = [(v y).toInt, (v x).toInt] := by
      rw [show y = (b + k + ((0 : Nat) : Int)).toNat by omega, show x = (b + k + ((1 : Nat) : Int)).toNat by omega]
      rfl
    rw [this]
    rfl
  have hne : x ≠ y := by omega
  rw [hs, hs]
  have e1 : (upd g y (I j) y).toInt = j := by rw [upd_at, I_toInt hrj]
  have e2 : (upd g y (I j) x).toInt = z := by rw [upd_no _ _ hne, e, upd_at, I_toInt hrz]
  have e3 : (upd f x (I j) y).toInt = z := by rw [upd_no _ _ (Ne.symm hne)]; exact hz
  have e4 : (upd f x (I j) x).toInt = j := by rw [upd_at, I_toInt hrj]
  have e5 : ls (upd g y (I j)) b k = ls (upd f x (I j)) b k := ls_same (fun t h1 h2 => by
    rw [upd_no _ _ (by omega), e, upd_no _ _ (by omega), upd_no _ _ (by omega)])
  have e6 : ls (upd g y (I j)) (b + k + 2) w = ls (upd f x (I j)) (b + k + 2) w := ls_same (fun t h1 h2 => by
    rw [upd_no _ _ (by omega), e, upd_no _ _ (by omega), upd_no _ _ (by omega)])
  rw [e1, e2, e3, e4, e5, e6]
  exact List.Perm.append_left _ (List.Perm.append_right _ (List.Perm.swap _ _ _))
theorem perm_sum {l1 l2 : List Int} (h : l1.Perm l2) : l1.sum = l2.sum := by
  induction h with
  | nil => rfl
  | cons x _ ih => rw [List.sum_cons, List.sum_cons, ih]
  | swap x y l => simp only [List.sum_cons]; omega
  | trans _ _ i1 i2 => rw [i1, i2]
theorem Ch.sum : ∀ {R : List Int} {a : Int}, Ch f a R d → (R.map (mS f)).sum = d - a
  | [], a, h => by
    have h : a = d := h
    simp
    omega
  | r :: R, a, h => by
    obtain ⟨e, h1, h2, h3⟩ := h
    rw [List.map_cons, List.sum_cons, Ch.sum h3, e]
    omega
theorem prm.sum (h : prm f1 f b n i) : ((ls f b n).map (mS f1)).sum = mS f1 i - 1 := by
  obtain ⟨R, hR, _, hP⟩ := h
  rw [perm_sum (hP.map (mS f1)), hR.sum]
  omega
theorem ls_sum_le (hp : ∀ k : Nat, k < n → 0 ≤ mS f1 (f (b + (k : Int)).toNat).toInt) : ∀ m : Nat, m ≤ n → ((ls f b m).map (mS f1)).sum ≤ ((ls f b n).map (mS f1)).sum := by
  induction n with
  | zero => intro m hm; rw [show m = 0 by omega]; exact Int.le_refl _
  | succ n ih =>
    intro m hm
    by_cases e : m = n + 1
    · rw [e]; exact Int.le_refl _
    · have h1 := ih (fun k hk => hp k (by omega)) m (by omega)
      have h2 := hp n (by omega)
      rw [ls_succ, List.map_append, List.sum_append]
      simp only [List.map_cons, List.map_nil, List.sum_cons, List.sum_nil]
      omega
theorem ls_step {x : Nat} (hx : (x : Int) = b + m) (hz : (f x).toInt = z) : ls f b (m + 1) = ls f b m ++ [z] := by
  rw [ls_succ, show (b + (m : Int)).toNat = x by omega, hz]
/-- what is done before the one at m, and it -/
theorem prm.pre {x : Nat} (h : prm f1 f b n i) (hw : wf f1 a d) (ha : a ≤ i) (hd : i < d) (hb : 0 ≤ b) (hm : m < n) (hx : (x : Int) = b + m) (hz : (f x).toInt = z) : ((ls f b m).map (mS f1)).sum + mS f1 z ≤ mS f1 i - 1 := by
  have h1 := ls_sum_le (f := f) (f1 := f1) (b := b) (n := n) (fun k hk => by
    have h2 := prm.at h hw ha hd hk (x := (b + (k : Int)).toNat) (z := (f (b + (k : Int)).toNat).toInt) (by omega) rfl
    have h4 := hw.end ha hd
    have h5 := h2.1
    have h6 := h2.2.1
    have := hw.pos (i := (f (b + (k : Int)).toNat).toInt) (by omega) (by omega)
    omega) (m + 1) (by omega)
  rw [h.sum, ls_step hx hz, List.map_append, List.sum_append] at h1
  simpa using h1
end ORD
