/-! PATCHES: rows and what they hold -/
/-- cells copied to a place, all others stay -/
def cpx (f g h : Nat → Int32) (m k p : Int) : Prop := ∀ x : Int, 0 ≤ x → (4 * m ≤ x → x < 4 * m + p → g x.toNat = h (4 * k + (x - 4 * m)).toNat) ∧ (x < 4 * m ∨ 4 * m + p ≤ x → g x.toNat = f x.toNat)
/-- a thing that a row of the half w holds -/
def plw (w m : Int) (f : Nat → Int32) (p : Int) : Prop := 150 * w ≤ p ∧ p + mS f p ≤ 150 * w + m ∧ 1 ≤ mS f p ∧ mS f p ≤ 60 ∧ mT f p (p + mS f p)
def wt (f : Nat → Int32) (p : Int) : Int := if p = -1 then 0 else mS f p
def rwo (w m : Int) (fk fs fw fi fp : Nat → Int32) (r : Int) : Prop := (1 ≤ (fk r.toNat).toInt ∧ (fk r.toNat).toInt ≤ 3) ∧ (0 ≤ (fs r.toNat).toInt ∧ (fs r.toNat).toInt ≤ 8) ∧ (¬ (fk r.toNat).toInt = 3 → 1 ≤ (fs r.toNat).toInt) ∧ ((fw r.toNat).toInt = -1 ∨ plw w m fp (fw r.toNat).toInt) ∧ ((fi r.toNat).toInt = -1 ∨ plw w m fp (fi r.toNat).toInt) ∧ (¬ (fk r.toNat).toInt = 1 → ¬ (fw r.toNat).toInt = -1) ∧ (¬ (fk r.toNat).toInt = 2 → ¬ (fi r.toNat).toInt = -1)
def wsum (fw fi fp : Nat → Int32) (b : Int) : Nat → Int
  | 0 => 0
  | n + 1 => wsum fw fi fp b n + (wt fp (fw (b + (n : Int)).toNat).toInt + wt fp (fi (b + (n : Int)).toNat).toInt)
def rws (w : Int) (fk fs fw fi fp : Nat → Int32) (n m : Int) : Prop := (∀ j : Int, 0 ≤ j → j < n → rwo w m fk fs fw fi fp (130 * w + j)) ∧ wsum fw fi fp (130 * w) n.toNat ≤ m
/-- cells of the other half stay -/
def hlf (w k : Int) (f g : Nat → Int32) : Prop := ∀ x : Int, 0 ≤ x → x < k * w ∨ k * w + k ≤ x → g x.toNat = f x.toNat
section PT
variable {f g g' h fk fs fw fi fp gk gs gw gi gp : Nat → Int32} {w m m2 n k p q r v z A B s i j K D : Int} {x y : Nat} {N : Nat}
theorem cpx.zero : cpx f f h m k 0 := fun x _ => ⟨fun h1 h2 => absurd h1 (by omega), fun _ => rfl⟩
theorem cpx.step (h1 : cpx f g h m k p) (e : g' = upd g x (I z)) (hx : (x : Int) = 4 * m + p) (hz : (h y).toInt = z) (hy : (y : Int) = 4 * k + p) (hm : 0 ≤ m) (hp : 0 ≤ p) : cpx f g' h m k (p + 1) := by
  intro t ht
  obtain ⟨a1, a2⟩ := h1 t ht
  refine ⟨fun h2 h3 => ?_, fun h2 => ?_⟩
  · by_cases e2 : t = 4 * m + p
    · rw [e2, e, show (4 * m + p).toNat = x by omega, upd_at, ← hz, I_of, show (4 * k + (4 * m + p - 4 * m)).toNat = y by omega]
    · rw [e, upd_no _ _ (by omega)]; exact a1 h2 (by omega)
  · rw [e, upd_no _ _ (by omega)]; exact a2 (by omega)
theorem cpx.sm (h1 : cpx f g h m k p) (hp : p = 4 * s) (hk : 0 ≤ k) (hm : 0 ≤ m) : same h g k (k + s) (m - k) := by
  intro t h2 h3
  have := (h1 (t + 4 * (m - k)) (by omega)).1 (by omega) (by omega)
  rw [this, show 4 * k + (t + 4 * (m - k) - 4 * m) = t by omega]
theorem cpx.low (h1 : cpx f g h m k p) (hA : A ≤ m) (ha : 0 ≤ q) : same f g q A 0 := by
  intro t h2 h3
  rw [show t + 4 * 0 = t by omega]
  exact (h1 t (by omega)).2 (Or.inl (by omega))
/-- a thing comes into the pool -/
theorem cpx.thing (h1 : cpx f g h m k (4 * s)) (hT : mT h k (k + s)) (hs : mS h k = s) (h0 : 1 ≤ s) (h6 : s ≤ 60) (hk : 0 ≤ k) (hm : 0 ≤ m) (hw : 150 * w ≤ m) (hm2 : m + s ≤ 150 * w + m2) : plw w m2 g m ∧ mS g m = s := by
  have h2 := h1.sm rfl hk hm
  have h3 := hT.shift h2
  have h4 := h2.s1 (i := k) (Int.le_refl _) (by omega)
  rw [show k + (m - k) = m by omega] at h3 h4
  rw [show k + s + (m - k) = m + s by omega] at h3
  have h5 : mS g m = s := h4.trans hs
  refine ⟨⟨hw, by omega, by omega, by omega, ?_⟩, h5⟩
  rw [h5]; exact h3
theorem plw.up (h1 : plw w m f A) (hs : same f g (150 * w) (150 * w + m) 0) (hm : m ≤ m2) : plw w m2 g A ∧ mS g A = mS f A := by
  obtain ⟨a1, a2, a3, a4, a5⟩ := h1
  have e : mS g A = mS f A := by
    have := hs.s1 (i := A) (by omega) (by omega)
    rwa [Int.add_zero] at this
  refine ⟨⟨a1, by omega, by omega, by omega, ?_⟩, e⟩
  rw [e]
  exact a5.to (hs.sub a1 (by omega))
theorem wt_nn (h1 : A = -1 ∨ plw w m f A) : 0 ≤ wt f A := by
  unfold wt
  rcases h1 with h1 | h1
  · rw [if_pos h1]; exact Int.le_refl _
  · split
    · omega
    · have := h1.2.2.1; omega
theorem wt_up (h1 : A = -1 ∨ plw w m f A) (hs : same f g (150 * w) (150 * w + m) 0) : wt g A = wt f A := by
  unfold wt
  rcases h1 with h1 | h1
  · rw [if_pos h1, if_pos h1]
  · rw [(h1.up hs (Int.le_refl _)).2]
theorem wsum_up (h1 : ∀ j : Int, 0 ≤ j → j < N → rwo w m fk fs fw fi fp (130 * w + j)) (h2 : ∀ j : Int, 0 ≤ j → j < N → gw (130 * w + j).toNat = fw (130 * w + j).toNat ∧ gi (130 * w + j).toNat = fi (130 * w + j).toNat) (hs : same fp gp (150 * w) (150 * w + m) 0) : wsum gw gi gp (130 * w) N = wsum fw fi fp (130 * w) N := by
  induction N with
  | zero => rfl
  | succ N ih =>
    have a := ih (fun j h3 h4 => h1 j h3 (by omega)) (fun j h3 h4 => h2 j h3 (by omega))
    obtain ⟨b1, b2⟩ := h2 N (by omega) (by omega)
    have c := h1 N (by omega) (by omega)
    show wsum gw gi gp (130 * w) N + _ = wsum fw fi fp (130 * w) N + _
    rw [a, b1, b2, wt_up c.2.2.2.1 hs, wt_up c.2.2.2.2.1 hs]
theorem rwo.up (h1 : rwo w m fk fs fw fi fp r) (e1 : gk r.toNat = fk r.toNat) (e2 : gs r.toNat = fs r.toNat) (e3 : gw r.toNat = fw r.toNat) (e4 : gi r.toNat = fi r.toNat) (hs : same fp gp (150 * w) (150 * w + m) 0) (hm : m ≤ m2) : rwo w m2 gk gs gw gi gp r := by
  unfold rwo at h1 ⊢
  rw [e1, e2, e3, e4]
  obtain ⟨a1, a2, a3, a4, a5, a6, a7⟩ := h1
  exact ⟨a1, a2, a3, a4.imp_right (fun h9 => (h9.up hs hm).1), a5.imp_right (fun h9 => (h9.up hs hm).1), a6, a7⟩
/-- one more row -/
theorem row_add (h : rws w fk fs fw fi fp n m) (ek : gk = upd fk x (I K)) (es : gs = upd fs x (I D)) (ew : gw = upd fw x (I A)) (ei : gi = upd fi x (I B)) (hx : (x : Int) = 130 * w + n) (hK : 1 ≤ K ∧ K ≤ 3) (hD : 0 ≤ D ∧ D ≤ 8) (hKD : ¬ K = 3 → 1 ≤ D) (hA : A = -1 ∨ plw w m2 gp A) (hB : B = -1 ∨ plw w m2 gp B) (hKA : ¬ K = 1 → ¬ A = -1) (hKB : ¬ K = 2 → ¬ B = -1) (hp : same fp gp (150 * w) (150 * w + m) 0) (hm : m ≤ m2) (hw : wt gp A + wt gp B ≤ m2 - m) (h0 : 0 ≤ w) (hn : 0 ≤ n) (rA : rng A) (rB : rng B) : rws w gk gs gw gi gp (n + 1) m2 := by
  obtain ⟨h1, h2⟩ := h
  have ex : (130 * w + n).toNat = x := by omega
  refine ⟨fun j h3 h4 => ?_, ?_⟩
  · by_cases e : j = n
    · rw [e]
      unfold rwo
      rw [ex, ek, es, ew, ei, upd_at, upd_at, upd_at, upd_at, I_toInt (show rng K from ⟨by omega, by omega⟩), I_toInt (show rng D from ⟨by omega, by omega⟩), I_toInt rA, I_toInt rB]
      exact ⟨hK, hD, hKD, hA, hB, hKA, hKB⟩
    · exact (h1 j h3 (by omega)).up (by rw [ek, upd_no _ _ (by omega)]) (by rw [es, upd_no _ _ (by omega)]) (by rw [ew, upd_no _ _ (by omega)]) (by rw [ei, upd_no _ _ (by omega)]) hp hm
  · have hN : ((n.toNat : Nat) : Int) = n := by omega
    have h5 := wsum_up (N := n.toNat) (gw := gw) (gi := gi) (fun j h3 h4 => h1 j h3 (by omega)) (fun j h3 h4 => ⟨by rw [ew, upd_no _ _ (by omega)], by rw [ei, upd_no _ _ (by omega)]⟩) hp
    rw [show (n + 1).toNat = n.toNat + 1 by omega]
    show wsum gw gi gp (130 * w) n.toNat + (wt gp (gw (130 * w + (n.toNat : Int)).toNat).toInt + wt gp (gi (130 * w + (n.toNat : Int)).toNat).toInt) ≤ m2
    rw [h5, hN, ex, ew, ei, upd_at, upd_at, I_toInt rA, I_toInt rB]
    omega
theorem rws.zero (hn : n = 0) (hm : 0 ≤ m) : rws w fk fs fw fi fp n m := by
  rw [hn]
  exact ⟨fun j h1 h2 => absurd h1 (by omega), hm⟩
theorem rws.mono (h : rws w fk fs fw fi fp n m) (hm : m ≤ m2) : rws w fk fs fw fi fp n m2 := by
  refine ⟨fun j h1 h2 => (h.1 j h1 h2).up rfl rfl rfl rfl same.rf hm, by have := h.2; omega⟩
theorem hlf.rf : hlf w k f f := fun _ _ _ => rfl
theorem hlf.tr (h1 : hlf w k f g) (h2 : hlf w k g h) : hlf w k f h := fun x a b => (h2 x a b).trans (h1 x a b)
theorem hlf.up {v0 : Int32} (h1 : hlf w k f g) (e : g' = upd g x v0) (hx : k * w ≤ (x : Int)) (hx2 : (x : Int) < k * w + k) : hlf w k f g' := fun t a b => by
  rw [e, upd_no _ _ (by omega)]; exact h1 t a b
theorem hlf.cp (h1 : hlf w 600 f g) (h2 : cpx g g' h m q p) (hm : 150 * w ≤ m) (hp : 4 * m + p ≤ 600 * w + 600) (hw : 0 ≤ w) : hlf w 600 f g' := fun t a b => ((h2 t a).2 (by omega)).trans (h1 t a b)
/-- the rows of one half, while those of the other half change -/
theorem rws.oth (h : rws 1 fk fs fw fi fp n m) (h1 : hlf 0 130 fk gk) (h2 : hlf 0 130 fs gs) (h3 : hlf 0 130 fw gw) (h4 : hlf 0 130 fi gi) (h5 : hlf 0 600 fp gp) (hn : 0 ≤ n) (hm : m ≤ 150) : rws 1 gk gs gw gi gp n m := by
  have hs : same fp gp (150 * 1) (150 * 1 + m) 0 := fun t a b => by
    rw [show t + 4 * 0 = t by omega]
    exact h5 t (by omega) (Or.inr (by omega))
  refine ⟨fun j a b => (h.1 j a b).up (h1 _ (by omega) (Or.inr (by omega))) (h2 _ (by omega) (Or.inr (by omega))) (h3 _ (by omega) (Or.inr (by omega))) (h4 _ (by omega) (Or.inr (by omega))) hs (Int.le_refl _), ?_⟩
  rw [wsum_up (N := n.toNat) (fun j a b => h.1 j a (by omega)) (fun j a b => ⟨h3 _ (by omega) (Or.inr (by omega)), h4 _ (by omega) (Or.inr (by omega))⟩) hs]
  exact h.2
theorem hlf.one (h1 : hlf 0 1 f g) : g 1 = f 1 := h1 1 (by omega) (Or.inr (by omega))
/-! numbers of things that rows take -/
def ub (f : Nat → Int32) (ks : List Int) : List Int → Int
  | [] => 0
  | r :: R => (if mY f r ∈ ks then mS f r else 0) + ub f ks R
def vb (f : Nat → Int32) (ks : List Int) : List Int → Int
  | [] => 0
  | r :: R => (if mY f r ∈ ks then 0 else mS f r) + vb f ks R
theorem ub_vb {ks R : List Int} : ub f ks R + vb f ks R = (R.map (mS f)).sum := by
  induction R with
  | nil => rfl
  | cons r R ih =>
    simp only [ub, vb, List.map_cons, List.sum_cons]
    split <;> omega
theorem vb_app {ks R : List Int} : vb f ks (R ++ [r]) = vb f ks R + (if mY f r ∈ ks then 0 else mS f r) := by
  induction R with
  | nil => simp only [List.nil_append, vb]; omega
  | cons z R ih => simp only [List.cons_append, vb, ih]; omega
theorem ub_le {ks R : List Int} (hp : ∀ r ∈ R, 0 ≤ mS f r) : ub f ks R ≤ ub f (ks ++ [v]) R := by
  induction R with
  | nil => exact Int.le_refl _
  | cons r R ih =>
    have h1 := ih (fun z hz => hp z (List.mem_cons_of_mem _ hz))
    have h2 := hp r (List.mem_cons.mpr (Or.inl rfl))
    simp only [ub]
    by_cases e : mY f r ∈ ks
    · rw [if_pos e, if_pos (List.mem_append_left _ e)]; omega
    · rw [if_neg e]; split <;> omega
theorem ub_one {ks R : List Int} (hp : ∀ r ∈ R, 0 ≤ mS f r) (hr : r ∈ R) (hv : mY f r = v) (hn : v ∉ ks) : ub f ks R + mS f r ≤ ub f (ks ++ [v]) R := by
  induction R with
  | nil => cases hr
  | cons z R ih =>
    have h2 := hp z (List.mem_cons.mpr (Or.inl rfl))
    have hp2 : ∀ r ∈ R, 0 ≤ mS f r := fun z hz => hp z (List.mem_cons_of_mem _ hz)
    simp only [ub]
    rcases List.mem_cons.mp hr with e | hr
    · have h3 := ub_le (v := v) (ks := ks) hp2
      rw [← e, hv, if_neg hn, if_pos (List.mem_append_right _ (List.mem_singleton.mpr rfl))]
      omega
    · have h3 := ih hp2 hr
      by_cases e : mY f z ∈ ks
      · rw [if_pos e, if_pos (List.mem_append_left _ e)]; omega
      · rw [if_neg e]; split <;> omega
theorem Ch.nn {R : List Int} (h : Ch f i R j) : ∀ r ∈ R, 0 ≤ mS f r := fun r hr => by have := (h.mem r hr).2.2.1; omega
/-- of two maps: those of the first up to x are told; of n and m rows and things have come since n0, m0 -/
def bm1 (fa fb : Nat → Int32) (i j x n0 n m0 m : Int) : Prop := ∃ Ra Rb, Ch fa (i + 1) Ra x ∧ Ch fb (j + 1) Rb (j + mS fb j) ∧ n ≤ n0 + (x - (i + 1)) + ub fb (Ra.map (mY fa)) Rb ∧ m ≤ m0 + (x - (i + 1)) + ub fb (Ra.map (mY fa)) Rb
def bm2 (fa fb : Nat → Int32) (i j x n0 n m0 m : Int) : Prop := ∃ Ra Rb Rp, Ch fa (i + 1) Ra (i + mS fa i) ∧ Ch fb (j + 1) Rb (j + mS fb j) ∧ Ch fb (j + 1) Rp x ∧ n ≤ n0 + (mS fa i - 1) + ub fb (Ra.map (mY fa)) Rb + vb fb (Ra.map (mY fa)) Rp ∧ m ≤ m0 + (mS fa i - 1) + ub fb (Ra.map (mY fa)) Rb + vb fb (Ra.map (mY fa)) Rp
variable {fa fb : Nat → Int32} {n0 m0 n1 m1 t o e1 : Int}
theorem ub_tot {ks R : List Int} (h : Ch fb (j + 1) R (j + mS fb j)) : ub fb ks R ≤ mS fb j - 1 := by
  have h1 := ub_vb (f := fb) (ks := ks) (R := R)
  rw [h.sum] at h1
  have h2 : 0 ≤ vb fb ks R := by
    have hp := h.nn
    clear h h1
    induction R with
    | nil => exact Int.le_refl _
    | cons r R ih =>
      have h3 := ih (fun z hz => hp z (List.mem_cons_of_mem _ hz))
      have h4 := hp r (List.mem_cons.mpr (Or.inl rfl))
      simp only [vb]
      split <;> omega
  omega
theorem bm1.zero (hw : wf fb j (j + mS fb j)) (h1 : 1 ≤ mS fb j) (hx : t = i + 1) (hn : n ≤ n0) (hm : m ≤ m0) : bm1 fa fb i j t n0 n m0 m := by
  obtain ⟨Rb, hR⟩ := (hw.tail (show j ≤ j + 1 by omega)).ch (by omega)
  refine ⟨[], Rb, hx.symm, hR, ?_, ?_⟩
  · have h2 : 0 ≤ ub fb ([].map (mY fa)) Rb := by
      have := hR.nn
      clear hR
      induction Rb with
      | nil => exact Int.le_refl _
      | cons r R ih => simp only [ub, List.map_nil, List.not_mem_nil, if_false] at ih ⊢; have := ih (fun z hz => this z (List.mem_cons_of_mem _ hz)); omega
    omega
  · have h2 : 0 ≤ ub fb ([].map (mY fa)) Rb := by
      have := hR.nn
      clear hR
      induction Rb with
      | nil => exact Int.le_refl _
      | cons r R ih => simp only [ub, List.map_nil, List.not_mem_nil, if_false] at ih ⊢; have := ih (fun z hz => this z (List.mem_cons_of_mem _ hz)); omega
    omega
theorem bm1.room (h : bm1 fa fb i j t n0 n m0 m) : n ≤ n0 + (t - (i + 1)) + (mS fb j - 1) ∧ m ≤ m0 + (t - (i + 1)) + (mS fb j - 1) := by
  obtain ⟨Ra, Rb, hA, hB, h1, h2⟩ := h
  have := ub_tot (ks := Ra.map (mY fa)) hB
  omega
/-- one that the second one hasn't -/
theorem bm1.goes (h : bm1 fa fb i j t n0 n m0 m) (h1 : 1 ≤ mS fa t) (hn : n1 ≤ n + mS fa t) (hm : m1 ≤ m + mS fa t) (hx : e1 = t + mS fa t) : bm1 fa fb i j e1 n0 n1 m0 m1 := by
  obtain ⟨Ra, Rb, hA, hB, h2, h3⟩ := h
  have h4 := ub_le (v := mY fa t) (ks := Ra.map (mY fa)) hB.nn
  refine ⟨Ra ++ [t], Rb, by rw [hx]; exact hA.app (Ch.one h1 rfl), hB, ?_, ?_⟩
  · rw [List.map_append]; simp only [List.map_cons, List.map_nil]; omega
  · rw [List.map_append]; simp only [List.map_cons, List.map_nil]; omega
/-- one that both have -/
theorem bm1.both (h : bm1 fa fb i j t n0 n m0 m) (hTa : mT fa i (i + mS fa i)) (hwb : wf fb j (j + mS fb j)) (hk : mK fa i = 3) (hit : i < t) (hti : t < i + mS fa i) (hj : 1 ≤ mS fb j) (ho : kid fb j o) (hy : mY fb o = mY fa t) (hn : n1 ≤ n + mS fa t + mS fb o) (hm : m1 ≤ m + mS fa t + mS fb o) (hx : e1 = t + mS fa t) : bm1 fa fb i j e1 n0 n1 m0 m1 := by
  obtain ⟨Ra, Rb, hA, hB, h2, h3⟩ := h
  have h1 := hTa.1.pos (i := t) (by omega) hti
  have hoR : o ∈ Rb := (Ch.iff hwb (Int.le_refl _) (by omega) hB).mpr (kid_of hwb (Int.le_refl _) (by omega) ho)
  obtain ⟨R2, hR2⟩ := (hTa.1.tail (show i ≤ t by omega)).ch (by omega)
  have hall := hA.app hR2
  have hnd := hTa.2 i (Int.le_refl _) (by omega) hk _ hall
  have hni : mY fa t ∉ Ra.map (mY fa) := by
    intro hm9
    cases R2 with
    | nil => have hR2 : t = i + mS fa i := hR2; omega
    | cons z R2 =>
      obtain ⟨e9, _⟩ := hR2
      rw [List.map_append, List.nodup_append] at hnd
      exact hnd.2.2 _ hm9 _ (List.mem_map.mpr ⟨z, List.mem_cons.mpr (Or.inl rfl), rfl⟩) (by rw [e9])
  have h4 := ub_one (v := mY fa t) (ks := Ra.map (mY fa)) hB.nn hoR hy hni
  refine ⟨Ra ++ [t], Rb, by rw [hx]; exact hA.app (Ch.one h1 rfl), hB, ?_, ?_⟩
  · rw [List.map_append]; simp only [List.map_cons, List.map_nil]; omega
  · rw [List.map_append]; simp only [List.map_cons, List.map_nil]; omega
theorem bm2.zero (h : bm1 fa fb i j t n0 n m0 m) (ht : t = i + mS fa i) (hx : o = j + 1) : bm2 fa fb i j o n0 n m0 m := by
  obtain ⟨Ra, Rb, hA, hB, h2, h3⟩ := h
  rw [ht] at hA
  refine ⟨Ra, Rb, [], hA, hB, hx.symm, ?_, ?_⟩ <;> (simp only [vb]; omega)
theorem bm2.skip (h : bm2 fa fb i j t n0 n m0 m) (h1 : 1 ≤ mS fb t) (hx : e1 = t + mS fb t) : bm2 fa fb i j e1 n0 n m0 m := by
  obtain ⟨Ra, Rb, Rp, hA, hB, hP, h2, h3⟩ := h
  refine ⟨Ra, Rb, Rp ++ [t], hA, hB, by rw [hx]; exact hP.app (Ch.one h1 rfl), ?_, ?_⟩ <;> (rw [vb_app]; split <;> omega)
theorem bm2.comes (h : bm2 fa fb i j t n0 n m0 m) (h1 : 1 ≤ mS fb t) (hk : nok fa (i + 1) (i + mS fa i) (mY fb t)) (hn : n1 ≤ n + mS fb t) (hm : m1 ≤ m + mS fb t) (hx : e1 = t + mS fb t) : bm2 fa fb i j e1 n0 n1 m0 m1 := by
  obtain ⟨Ra, Rb, Rp, hA, hB, hP, h2, h3⟩ := h
  have hni : mY fb t ∉ Ra.map (mY fa) := by
    intro h9
    obtain ⟨R, hR, h8⟩ := hk
    obtain ⟨r, hr, h7⟩ := List.mem_map.mp h9
    exact h8 r (by rw [hR.uniq hA]; exact hr) h7
  refine ⟨Ra, Rb, Rp ++ [t], hA, hB, by rw [hx]; exact hP.app (Ch.one h1 rfl), ?_, ?_⟩ <;> (rw [vb_app, if_neg hni]; omega)
theorem vb_app2 {ks R R2 : List Int} : vb f ks (R ++ R2) = vb f ks R + vb f ks R2 := by
  induction R with
  | nil => simp only [List.nil_append, vb]; omega
  | cons z R ih => simp only [List.cons_append, vb, ih]; omega
theorem vb_nn {ks R : List Int} (hp : ∀ r ∈ R, 0 ≤ mS f r) : 0 ≤ vb f ks R := by
  induction R with
  | nil => exact Int.le_refl _
  | cons r R ih =>
    have h3 := ih (fun z hz => hp z (List.mem_cons_of_mem _ hz))
    have h4 := hp r (List.mem_cons.mpr (Or.inl rfl))
    simp only [vb]
    split <;> omega
theorem bm2.room (h : bm2 fa fb i j t n0 n m0 m) (hwb : wf fb j (j + mS fb j)) (htj : t ≤ j + mS fb j) (hjt : j < t) : n ≤ n0 + (mS fa i - 1) + (mS fb j - 1) ∧ m ≤ m0 + (mS fa i - 1) + (mS fb j - 1) := by
  obtain ⟨Ra, Rb, Rp, hA, hB, hP, h2, h3⟩ := h
  obtain ⟨R2, hR2⟩ := (hwb.tail (show j ≤ t by omega)).ch (by omega)
  have h4 := ub_vb (f := fb) (ks := Ra.map (mY fa)) (R := Rb)
  rw [hB.sum, hB.uniq (hP.app hR2), vb_app2] at h4
  have h5 := vb_nn (ks := Ra.map (mY fa)) hR2.nn
  rw [hB.uniq (hP.app hR2)] at h2 h3
  omega
theorem bm2.roomC (h : bm2 fa fb i j t n0 n m0 m) (hwb : wf fb j (j + mS fb j)) (htj : t < j + mS fb j) (hjt : j < t) (hk : nok fa (i + 1) (i + mS fa i) (mY fb t)) : n + mS fb t ≤ n0 + (mS fa i - 1) + (mS fb j - 1) ∧ m + mS fb t ≤ m0 + (mS fa i - 1) + (mS fb j - 1) := by
  have hp := hwb.pos (i := t) (by omega) htj
  have he := hwb.end (i := t) (by omega) htj
  have h1 := (h.comes (n1 := n + mS fb t) (m1 := m + mS fb t) hp hk (Int.le_refl _) (Int.le_refl _) rfl).room hwb he (by omega)
  exact h1
/-- of two lists: the first p of both are told -/
def bl1 (fa fb : Nat → Int32) (i j p n0 n m0 m : Int) : Prop := ∃ xa xb, chn fa (i + 1) p xa ∧ chn fb (j + 1) p xb ∧ n ≤ n0 + (xa - (i + 1)) + (xb - (j + 1)) ∧ m ≤ m0 + (xa - (i + 1)) + (xb - (j + 1))
theorem chn.uniq {a b c n : Int} (h : chn f a n b) (h2 : chn f a n c) : b = c := by
  obtain ⟨R, hR, e⟩ := h
  obtain ⟨R2, hR2, e2⟩ := h2
  have key : ∀ {R R2 : List Int} {a : Int}, Ch f a R b → Ch f a R2 c → R.length = R2.length → b = c := by
    intro R
    induction R with
    | nil =>
      intro R2 a h1 h2 h3
      cases R2 with
      | nil => have h1 : a = b := h1; have h2 : a = c := h2; omega
      | cons z R2 => simp at h3
    | cons r R ih =>
      intro R2 a h1 h2 h3
      cases R2 with
      | nil => simp at h3
      | cons z R2 => exact ih h1.2.2.2 h2.2.2.2 (by simpa using h3)
  exact key hR hR2 (by omega)
theorem bl1.zero (hn : n ≤ n0) (hm : m ≤ m0) : bl1 fa fb i j 0 n0 n m0 m := ⟨i + 1, j + 1, chn.zero, chn.zero, by omega, by omega⟩
theorem bl1.at (h : bl1 fa fb i j p n0 n m0 m) (ha : chn fa (i + 1) p t) (hb : chn fb (j + 1) p o) : n ≤ n0 + (t - (i + 1)) + (o - (j + 1)) ∧ m ≤ m0 + (t - (i + 1)) + (o - (j + 1)) := by
  obtain ⟨xa, xb, h1, h2, h3, h4⟩ := h
  have e1 := h1.uniq ha
  have e2 := h2.uniq hb
  omega
theorem bl1.step (h : bl1 fa fb i j p n0 n m0 m) (ha : chn fa (i + 1) p t) (hb : chn fb (j + 1) p o) (h1 : 1 ≤ mS fa t) (h2 : 1 ≤ mS fb o) (hn : n1 ≤ n + mS fa t + mS fb o) (hm : m1 ≤ m + mS fa t + mS fb o) : bl1 fa fb i j (p + 1) n0 n1 m0 m1 := by
  have h3 := h.at ha hb
  exact ⟨t + mS fa t, o + mS fb o, ha.step h1, hb.step h2, by omega, by omega⟩
/-- those of the second one from p on come -/
def bl2 (fa fb : Nat → Int32) (i j na nb p n0 n m0 m : Int) : Prop := (na ≤ p ∧ p ≤ nb ∧ ∃ xb, chn fb (j + 1) p xb ∧ n ≤ n0 + (mS fa i - 1) + (xb - (j + 1)) ∧ m ≤ m0 + (mS fa i - 1) + (xb - (j + 1))) ∨ (nb < na ∧ nb < p ∧ ∃ xa, chn fa (i + 1) nb xa ∧ n ≤ n0 + (mS fb j - 1) + (xa - (i + 1)) ∧ m ≤ m0 + (mS fb j - 1) + (xa - (i + 1)))
variable {na nb : Int}
theorem bl2.zero (h : bl1 fa fb i j p n0 n m0 m) (ha : chn fa (i + 1) na (i + mS fa i)) (hb : chn fb (j + 1) nb (j + mS fb j)) (h1 : p ≤ na) (h2 : p ≤ nb) (h3 : na ≤ p ∨ nb ≤ p) : bl2 fa fb i j na nb na n0 n m0 m := by
  obtain ⟨xa, xb, k1, k2, k3, k4⟩ := h
  by_cases e : na ≤ nb
  · have ep : p = na := by omega
    rw [ep] at k1 k2
    have e1 := k1.uniq ha
    exact Or.inl ⟨Int.le_refl _, e, xb, k2, by omega, by omega⟩
  · have ep : p = nb := by omega
    rw [ep] at k1 k2
    have e1 := k2.uniq hb
    exact Or.inr ⟨by omega, by omega, xa, k1, by omega, by omega⟩
theorem bl2.at (h : bl2 fa fb i j na nb p n0 n m0 m) (hp : p < nb) (hb : chn fb (j + 1) p o) : n ≤ n0 + (mS fa i - 1) + (o - (j + 1)) ∧ m ≤ m0 + (mS fa i - 1) + (o - (j + 1)) := by
  rcases h with ⟨_, _, xb, k1, k2, k3⟩ | ⟨_, h9, _⟩
  · have := k1.uniq hb
    omega
  · omega
theorem bl2.step (h : bl2 fa fb i j na nb p n0 n m0 m) (hp : p < nb) (hb : chn fb (j + 1) p o) (h1 : 1 ≤ mS fb o) (hn : n1 ≤ n + mS fb o) (hm : m1 ≤ m + mS fb o) : bl2 fa fb i j na nb (p + 1) n0 n1 m0 m1 := by
  have h3 := h.at hp hb
  rcases h with ⟨a1, a2, _⟩ | ⟨_, h9, _⟩
  · exact Or.inl ⟨by omega, by omega, o + mS fb o, hb.step h1, by omega, by omega⟩
  · omega
/-- those of the first one behind p have gone -/
def bl3 (fa fb : Nat → Int32) (i j na nb p n0 n m0 m : Int) : Prop := (na ≤ nb ∧ n ≤ n0 + (mS fa i - 1) + (mS fb j - 1) ∧ m ≤ m0 + (mS fa i - 1) + (mS fb j - 1)) ∨ (nb < na ∧ ∃ xa xp, chn fa (i + 1) nb xa ∧ chn fa (i + 1) (p + 1) xp ∧ n ≤ n0 + (mS fb j - 1) + (xa - (i + 1)) + (i + mS fa i - xp) ∧ m ≤ m0 + (mS fb j - 1) + (xa - (i + 1)) + (i + mS fa i - xp))
theorem bl3.zero (h : bl2 fa fb i j na nb p n0 n m0 m) (hp : nb ≤ p) (ha : chn fa (i + 1) na (i + mS fa i)) (hb : chn fb (j + 1) nb (j + mS fb j)) (hq : q = na - 1) : bl3 fa fb i j na nb q n0 n m0 m := by
  rcases h with ⟨a1, a2, xb, k1, k2, k3⟩ | ⟨a1, a2, xa, k1, k2, k3⟩
  · have ep : p = nb := by omega
    rw [ep] at k1
    have := k1.uniq hb
    exact Or.inl ⟨by omega, by omega, by omega⟩
  · exact Or.inr ⟨a1, xa, i + mS fa i, k1, by rw [hq, show na - 1 + 1 = na by omega]; exact ha, by omega, by omega⟩
theorem bl3.at (h : bl3 fa fb i j na nb p n0 n m0 m) (hp : nb ≤ p) (hpa : p < na) (ht : chn fa (i + 1) p t) (h1 : 1 ≤ mS fa t) : n + mS fa t ≤ n0 + (mS fb j - 1) + (mS fa i - 1) ∧ m + mS fa t ≤ m0 + (mS fb j - 1) + (mS fa i - 1) := by
  rcases h with ⟨a1, _⟩ | ⟨a1, xa, xp, k1, k2, k3, k4⟩
  · omega
  · have e := (ht.step h1).uniq k2
    have h5 : xa ≤ t := by
      obtain ⟨R, hR, l1⟩ := k1
      obtain ⟨R2, hR2, l2⟩ := ht
      by_cases h9 : t < xa
      · have := hR2.ge hR h9
        omega
      · omega
    omega
theorem bl3.step (h : bl3 fa fb i j na nb p n0 n m0 m) (hp : nb ≤ p) (hpa : p < na) (ht : chn fa (i + 1) p t) (h1 : 1 ≤ mS fa t) (hn : n1 ≤ n + mS fa t) (hm : m1 ≤ m + mS fa t) (hq : q = p - 1) : bl3 fa fb i j na nb q n0 n1 m0 m1 := by
  rcases h with ⟨a1, _⟩ | ⟨a1, xa, xp, k1, k2, k3, k4⟩
  · omega
  · have e := (ht.step h1).uniq k2
    exact Or.inr ⟨a1, xa, t, k1, by rw [hq, show p - 1 + 1 = p by omega]; exact ht, by omega, by omega⟩
theorem bl3.fin (h : bl3 fa fb i j na nb p n0 n m0 m) (hp : p < nb) (ha : nb ≤ p + 1) : n ≤ n0 + (mS fa i - 1) + (mS fb j - 1) ∧ m ≤ m0 + (mS fa i - 1) + (mS fb j - 1) := by
  rcases h with ⟨_, h1, h2⟩ | ⟨a1, xa, xp, k1, k2, k3, k4⟩
  · exact ⟨h1, h2⟩
  · rw [show p + 1 = nb by omega] at k2
    have := k1.uniq k2
    omega
theorem bl3.fin0 (h : bl3 fa fb i j na nb p n0 n m0 m) (ha : na ≤ nb) : n ≤ n0 + (mS fa i - 1) + (mS fb j - 1) ∧ m ≤ m0 + (mS fa i - 1) + (mS fb j - 1) := by
  rcases h with ⟨_, h1, h2⟩ | ⟨a1, _⟩
  · exact ⟨h1, h2⟩
  · omega
end PT
section PU
variable {f39 f40 f42 f43 f44 f45 f46 g39 g40 g42 g43 g44 g45 g46 h39 h40 h42 h43 h44 h45 h46 f g h : Nat → Int32} {w m n k p q v z A s : Int} {x y : Nat}
def hall (w : Int) (f39 f40 f42 f43 f44 f45 f46 g39 g40 g42 g43 g44 g45 g46 : Nat → Int32) : Prop := hlf w 130 f39 g39 ∧ hlf w 130 f40 g40 ∧ hlf w 130 f42 g42 ∧ hlf w 130 f43 g43 ∧ hlf w 600 f44 g44 ∧ hlf w 1 f45 g45 ∧ hlf w 1 f46 g46
theorem hall.rf : hall w f39 f40 f42 f43 f44 f45 f46 f39 f40 f42 f43 f44 f45 f46 := ⟨hlf.rf, hlf.rf, hlf.rf, hlf.rf, hlf.rf, hlf.rf, hlf.rf⟩
theorem hall.tr (h1 : hall w f39 f40 f42 f43 f44 f45 f46 g39 g40 g42 g43 g44 g45 g46) (h2 : hall w g39 g40 g42 g43 g44 g45 g46 h39 h40 h42 h43 h44 h45 h46) : hall w f39 f40 f42 f43 f44 f45 f46 h39 h40 h42 h43 h44 h45 h46 := by
  obtain ⟨a1, a2, a3, a4, a5, a6, a7⟩ := h1
  obtain ⟨b1, b2, b3, b4, b5, b6, b7⟩ := h2
  exact ⟨a1.tr b1, a2.tr b2, a3.tr b3, a4.tr b4, a5.tr b5, a6.tr b6, a7.tr b7⟩
theorem cpx.to (h1 : cpx f g h m k p) (e : p = q) : cpx f g h m k q := e ▸ h1
theorem cpx.low2 (h1 : cpx f g h m k p) (hA : A = m) (ha : 0 ≤ q) : same f g q A 0 := h1.low (by omega) ha
theorem wt_pos (h : ¬ A = -1) : wt f A = mS f A := if_neg h
theorem wt_neg : wt f (-1) = 0 := rfl
theorem upd_get {N : Nat} (e : g = upd f x (I z)) (hx : N = x) (hr : rng z) : (g N).toInt = z := by rw [e, hx, upd_at, I_toInt hr]
theorem upd_to {z2 : Int} {y : Nat} (e : g = upd f x (I z)) (hx : x = y) (hz : z = z2) : g = upd f y (I z2) := by rw [e, hx, hz]
end PU
