/-! WHAT THE REFERENCE KEEPS BETWEEN CALLS -/
def kept (f39 f40 f42 f43 f44 f45 f46 : Nat → Int32) : Prop := rws 1 f39 f40 f42 f43 f44 (f45 (1 : Int).toNat).toInt (f46 (1 : Int).toNat).toInt ∧ 0 ≤ (f45 (1 : Int).toNat).toInt ∧ (f45 (1 : Int).toNat).toInt ≤ 130 ∧ 0 ≤ (f46 (1 : Int).toNat).toInt ∧ (f46 (1 : Int).toNat).toInt ≤ 150
def jw (f1 f37 f61 f62 f39 f40 f42 f43 f44 f45 f46 : Nat → Int32) (acts has then_ : Int) : Prop := tr f1 ∧ trs f37 acts ∧ (has = 0 ∨ (tr f61 ∧ trs f62 then_)) ∧ kept f39 f40 f42 f43 f44 f45 f46
section JV
variable {f1 f37 f61 f62 f39 f40 f42 f43 f44 f45 f46 g1 g37 g61 g62 g39 g40 g42 g43 g44 g45 g46 : Nat → Int32} {a b c a2 b2 c2 : Int}
theorem jw.n (h : jw f1 f37 f61 f62 f39 f40 f42 f43 f44 f45 f46 a b c) (h1 : a2 = a) (h2 : b2 = b) (h3 : c2 = c) : jw f1 f37 f61 f62 f39 f40 f42 f43 f44 f45 f46 a2 b2 c2 := by rw [h1, h2, h3]; exact h
/-- another tree -/
theorem jw.tree (h : jw f1 f37 f61 f62 f39 f40 f42 f43 f44 f45 f46 a b c) (h1 : tr g1) (h2 : trs g37 a2) (h3 : b2 = b) (h4 : c2 = c) : jw g1 g37 f61 f62 f39 f40 f42 f43 f44 f45 f46 a2 b2 c2 := by
  rw [h3, h4]
  exact ⟨h1, h2, h.2.2.1, h.2.2.2⟩
theorem jw.rows (h : jw f1 f37 f61 f62 f39 f40 f42 f43 f44 f45 f46 a b c) (h1 : kept g39 g40 g42 g43 g44 g45 g46) (h2 : a2 = a) (h3 : b2 = b) (h4 : c2 = c) : jw f1 f37 f61 f62 g39 g40 g42 g43 g44 g45 g46 a2 b2 c2 := by
  rw [h2, h3, h4]
  exact ⟨h.1, h.2.1, h.2.2.1, h1⟩
/-- the patch that is found leaves the one that is kept -/
theorem kept.oth (h : kept f39 f40 f42 f43 f44 f45 f46) (h1 : hall 0 f39 f40 f42 f43 f44 f45 f46 g39 g40 g42 g43 g44 g45 g46) : kept g39 g40 g42 g43 g44 g45 g46 := by
  obtain ⟨a1, a2, a3, a4, a5⟩ := h
  obtain ⟨b1, b2, b3, b4, b5, b6, b7⟩ := h1
  have e5 : g45 (1 : Int).toNat = f45 (1 : Int).toNat := b6 1 (by omega) (Or.inr (by omega))
  have e6 : g46 (1 : Int).toNat = f46 (1 : Int).toNat := b7 1 (by omega) (Or.inr (by omega))
  unfold kept
  rw [e5, e6]
  exact ⟨a1.oth b1 b2 b3 b4 b5 a2 a5, a2, a3, a4, a5⟩
/-- how far what is made may have grown -/
def ap (f42 f43 f44 : Nat → Int32) (tu n k g : Int) : Prop := (tu = 0 → g ≤ 60 + wsum f42 f43 f44 130 k.toNat) ∧ (tu = 1 → g ≤ 60 + wsum f42 f43 f44 130 n.toNat - wsum f42 f43 f44 130 (n - k).toNat)
theorem wsum_nn {m : Int} {N : Nat} (h1 : ∀ j : Int, 0 ≤ j → j < N → rwo 1 m f39 f40 f42 f43 f44 (130 + j)) : 0 ≤ wsum f42 f43 f44 130 N := by
  induction N with
  | zero => exact Int.le_refl _
  | succ N ih =>
    have a := ih (fun j h3 h4 => h1 j h3 (by omega))
    have c := h1 N (by omega) (by omega)
    have d := wt_nn c.2.2.2.1
    have e := wt_nn c.2.2.2.2.1
    show 0 ≤ wsum f42 f43 f44 130 N + (wt f44 (f42 (130 + (N : Int)).toNat).toInt + wt f44 (f43 (130 + (N : Int)).toNat).toInt)
    omega
theorem wsum_le {m : Int} {N : Nat} (h1 : ∀ j : Int, 0 ≤ j → j < N → rwo 1 m f39 f40 f42 f43 f44 (130 + j)) : ∀ k : Nat, k ≤ N → wsum f42 f43 f44 130 k ≤ wsum f42 f43 f44 130 N := by
  induction N with
  | zero => intro k hk; rw [show k = 0 by omega]; exact Int.le_refl _
  | succ N ih =>
    intro k hk
    by_cases e : k = N + 1
    · rw [e]; exact Int.le_refl _
    · have a := ih (fun j h3 h4 => h1 j h3 (by omega)) k (by omega)
      have c := h1 N (by omega) (by omega)
      have d := wt_nn c.2.2.2.1
      have e := wt_nn c.2.2.2.2.1
      show _ ≤ wsum f42 f43 f44 130 N + (wt f44 (f42 (130 + (N : Int)).toNat).toInt + wt f44 (f43 (130 + (N : Int)).toNat).toInt)
      omega
theorem kept.row (h : kept f39 f40 f42 f43 f44 f45 f46) {j : Int} (h0 : 0 ≤ j) (hj : j < (f45 (1 : Int).toNat).toInt) : rwo 1 150 f39 f40 f42 f43 f44 (130 + j) := by
  obtain ⟨a1, a2, a3, a4, a5⟩ := h
  have := (a1.mono a5).1 j h0 hj
  rwa [show (130 : Int) * 1 + j = 130 + j by omega] at this
theorem kept.sum (h : kept f39 f40 f42 f43 f44 f45 f46) {n : Int} (hn : (f45 (1 : Int).toNat).toInt = n) : wsum f42 f43 f44 130 n.toNat ≤ 150 ∧ ∀ k : Int, 0 ≤ k → k ≤ n → 0 ≤ wsum f42 f43 f44 130 k.toNat ∧ wsum f42 f43 f44 130 k.toNat ≤ wsum f42 f43 f44 130 n.toNat := by
  obtain ⟨a1, a2, a3, a4, a5⟩ := h
  have h2 := a1.2
  rw [show (130 : Int) * 1 = 130 by omega, hn] at h2
  have h3 : ∀ j : Int, 0 ≤ j → j < n → rwo 1 (f46 (1 : Int).toNat).toInt f39 f40 f42 f43 f44 (130 + j) := fun j h4 h5 => by
    have := a1.1 j h4 (by omega)
    rwa [show (130 : Int) * 1 + j = 130 + j by omega] at this
  exact ⟨by omega, fun k h4 h5 => ⟨wsum_nn (N := k.toNat) (fun j h6 h7 => h3 j h6 (by omega)), wsum_le (N := n.toNat) (fun j h6 h7 => h3 j h6 (by omega)) k.toNat (by omega)⟩⟩
theorem ap.zero {tu n g : Int} (hg : g ≤ 60) : ap f42 f43 f44 tu n 0 g := by
  refine ⟨fun _ => ?_, fun _ => ?_⟩
  · show g ≤ 60 + 0
    omega
  · rw [show (n - 0).toNat = n.toNat by omega]; omega
theorem ap.room (h : kept f39 f40 f42 f43 f44 f45 f46) {tu n k g : Int} (ha : ap f42 f43 f44 tu n k g) (hn : (f45 (1 : Int).toNat).toInt = n) (h0 : 0 ≤ k) (hk : k ≤ n) (ht : tu = 0 ∨ tu = 1) : g ≤ 210 := by
  obtain ⟨h1, h2⟩ := h.sum hn
  obtain ⟨a1, a2⟩ := h2 k h0 hk
  obtain ⟨b1, b2⟩ := h2 (n - k) (by omega) (by omega)
  rcases ht with e | e
  · have := ha.1 e; omega
  · have := ha.2 e; omega
theorem kept.wts (h : kept f39 f40 f42 f43 f44 f45 f46) {j n : Int} (hn : (f45 (1 : Int).toNat).toInt = n) (h0 : 0 ≤ j) (hj : j < n) : wt f44 (f42 (130 + j).toNat).toInt + wt f44 (f43 (130 + j).toNat).toInt = wsum f42 f43 f44 130 (j + 1).toNat - wsum f42 f43 f44 130 j.toNat ∧ wt f44 (f42 (130 + j).toNat).toInt + wt f44 (f43 (130 + j).toNat).toInt ≤ 150 := by
  have e : wsum f42 f43 f44 130 (j + 1).toNat = wsum f42 f43 f44 130 j.toNat + (wt f44 (f42 (130 + j).toNat).toInt + wt f44 (f43 (130 + j).toNat).toInt) := by
    rw [show (j + 1).toNat = j.toNat + 1 by omega]
    show wsum f42 f43 f44 130 j.toNat + (wt f44 (f42 (130 + (j.toNat : Int)).toNat).toInt + wt f44 (f43 (130 + (j.toNat : Int)).toNat).toInt) = _
    rw [show ((j.toNat : Nat) : Int) = j by omega]
  obtain ⟨h1, h2⟩ := h.sum hn
  obtain ⟨a1, a2⟩ := h2 j h0 (by omega)
  obtain ⟨b1, b2⟩ := h2 (j + 1) (by omega) (by omega)
  exact ⟨by omega, by omega⟩
theorem ap.step (h : kept f39 f40 f42 f43 f44 f45 f46) {tu n k k2 g g2 j w : Int} (ha : ap f42 f43 f44 tu n k g) (hn : (f45 (1 : Int).toNat).toInt = n) (h0 : 0 ≤ k) (hk : k < n) (hj : (tu = 0 ∧ j = k) ∨ (tu = 1 ∧ j = n - 1 - k)) (hw : w = 130 + j) (hg : g2 ≤ g + (wt f44 (f42 w.toNat).toInt + wt f44 (f43 w.toNat).toInt)) (hk2 : k2 = k + 1) : ap f42 f43 f44 tu n k2 g2 := by
  have h1 := (h.wts hn (j := j) (by omega) (by omega)).1
  rw [hw] at hg
  rw [hk2]
  rcases hj with ⟨e1, e2⟩ | ⟨e1, e2⟩
  · refine ⟨fun _ => ?_, fun h9 => by omega⟩
    have := ha.1 e1
    rw [e2] at h1 hg
    omega
  · refine ⟨fun h9 => by omega, fun _ => ?_⟩
    have := ha.2 e1
    rw [show j + 1 = n - k by omega] at h1
    rw [show n - (k + 1) = j by omega]
    omega
end JV
theorem I_rem {a n : Int} (ha : rng a) (hn : rng n) (h0 : 0 ≤ a) (h1 : 1 ≤ n) : I a - I a / I n * I n = I (a % n) := by
  obtain ⟨k, rfl⟩ : ∃ k : Nat, n = (k : Int) := ⟨n.toNat, by omega⟩
  have e : a - a / (k : Int) * (k : Int) = a % (k : Int) := by rw [Int.emod_def, Int.mul_comm]
  rw [I_div ha h0 (by omega) hn.2, I_mul, I_sub, e]
theorem th_rem {p : Program} {l : Launch} {e : Env} {R : Room} {s : State} {m : MethodId} {args : Array Value} {below : List Frame} {meth : Method} {c : Code} {H : Heap} {locs : List Loc} {cells slots : Nat} {Q : State → Prop} {rest : List Value} {pc : Nat} {ls : Array Slot} {a n : Int} (ha : rng a) (h0 : 0 ≤ a) (hn : rng n) (h1 : 1 ≤ n) (k : ∀ z : Int, rng z → (0 ≤ z ∧ z < n) → W p l e R s m args below meth c H locs cells slots Q (F0 m pc ls (.int (I z) :: rest))) : W p l e R s m args below meth c H locs cells slots Q (F0 m pc ls (.int (I a - I a / I n * I n) :: rest)) := by
  rw [I_rem ha hn h0 h1]
  have h2 : 0 ≤ a % n := Int.emod_nonneg _ (by omega)
  have h3 : a % n < n := Int.emod_lt_of_pos _ (by omega)
  exact k _ ⟨by omega, by have := hn.2; omega⟩ ⟨h2, h3⟩
section JW
variable {f g h f1 f37 f61 f62 f39 f40 f42 f43 f44 f45 f46 : Nat → Int32} {a b c a2 b2 c2 m k p v : Int} {n : Nat}
def cel (n : Nat) (f g : Nat → Int32) : Prop := ∀ x : Nat, x < n → g x = f x
theorem cel.of (h1 : cpd f g h 0 0 p) (hp : (n : Int) ≤ p) : cel n h g := fun x hx => by
  have := h1.2 (x : Int) (by omega) (by omega)
  rw [Int.mul_zero, Int.zero_add, show ((x : Int)).toNat = x by omega] at this
  exact this
theorem jw.gone (h : jw f1 f37 f61 f62 f39 f40 f42 f43 f44 f45 f46 0 b c) (h1 : a2 = 0) (h2 : b2 = 0) (h3 : c2 = c) : jw f1 f37 f61 f62 f39 f40 f42 f43 f44 f45 f46 a2 b2 c2 := by
  rw [h1, h2, h3]
  exact ⟨h.1, h.2.1, Or.inl rfl, h.2.2.2⟩
/-- only the cells that it has matter -/
theorem tr.cp (h1 : tr f) (hs2 : same f g 0 (mS f 0) 0) : tr g := by
  obtain ⟨a1, a2, a3, a4⟩ := h1
  have e : mS g 0 = mS f 0 := by
    have := hs2.s1 (i := 0) (Int.le_refl _) (by omega)
    rwa [Int.add_zero] at this
  unfold tr
  rw [e]
  exact ⟨a1.to hs2, a2, a3, a4.to hs2 (Int.le_refl _)⟩
theorem rdT.toTr (h1 : rdT f g 0 b v 0) (hb : b ≤ 60) : tr g := by
  obtain ⟨a1, a2, a3, a4, a5, a6⟩ := h1
  have e : mS g 0 = b := by omega
  unfold tr
  rw [e]
  exact ⟨a1, by omega, hb, a6⟩
end JW
