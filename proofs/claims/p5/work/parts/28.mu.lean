/-! TREES AS THEY ARE MADE: one is cut out, one is laid in -/
/-- one that lies at once within i -/
def kc (f : Nat → Int32) (i r : Int) : Prop := i < r ∧ r < i + mS f i ∧ ∀ x, i < x → x < r → x + mS f x ≤ r
def kdn (f : Nat → Int32) (a b : Int) : Prop := ∀ i, a ≤ i → i < b → mK f i = 3 → ∀ r q, kc f i r → kc f i q → mY f r = mY f q → r = q
section MU
variable {f g h : Nat → Int32} {a b c d i j t n m M q r s v p P S place : Int} {R : List Int}
theorem Ch.out : ∀ {R : List Int} {a : Int}, wf f a b → Ch f a R b → ∀ r ∈ R, ∀ x, a ≤ x → x < r → x + mS f x ≤ r
  | [], a, _, _, r, hr => by cases hr
  | s :: R, a, hw, h, r, hr => by
    obtain ⟨e, h1, h2, h3⟩ := h
    intro x hx hxr
    rcases List.mem_cons.mp hr with e2 | hr
    · omega
    · have hm := Ch.mem h3 r hr
      by_cases hxa : x < a + mS f a
      · by_cases e3 : x = a
        · rw [e3]; omega
        · have := hw.nest (i := a) (j := x) (by omega) (by omega) (by omega) hxa
          omega
      · exact Ch.out (hw.tail (by omega)) h3 r hr x (by omega) hxr
theorem Ch.of : ∀ {R : List Int} {a : Int}, Ch f a R b → ∀ r, a ≤ r → r < b → (∀ x, a ≤ x → x < r → x + mS f x ≤ r) → r ∈ R
  | [], a, h, r, h1, h2, _ => by have h : a = b := h; omega
  | s :: R, a, h, r, h1, h2, hx => by
    obtain ⟨e, h3, h4, h5⟩ := h
    by_cases e2 : r = a
    · rw [e2, ← e]; exact List.mem_cons.mpr (Or.inl rfl)
    · exact List.mem_cons_of_mem _ (Ch.of h5 r (hx a (Int.le_refl _) (by omega)) h2 (fun x h6 h7 => hx x (by omega) h7))
theorem Ch.iff (hw : wf f a b) (h1 : a ≤ i) (h2 : i < b) (h : Ch f (i + 1) R (i + mS f i)) : r ∈ R ↔ kc f i r := by
  have hk := hw.kids h1 h2
  constructor
  · intro hr
    have hm := h.mem r hr
    exact ⟨by omega, hm.2.1, fun x h3 h4 => Ch.out hk h r hr x (by omega) h4⟩
  · intro hr
    exact Ch.of h r (by have := hr.1; omega) hr.2.1 (fun x h3 h4 => hr.2.2 x (by omega) h4)
theorem Ch.nd : ∀ {R : List Int} {a : Int}, Ch f a R b → R.Nodup
  | [], a, _ => List.nodup_nil
  | s :: R, a, h => by
    obtain ⟨e, h1, h2, h3⟩ := h
    refine List.nodup_cons.mpr ⟨fun hm => ?_, Ch.nd h3⟩
    have := Ch.mem h3 s hm
    omega
theorem nd_inj {w : Int → Int} : ∀ {R : List Int}, (R.map w).Nodup → ∀ r ∈ R, ∀ q ∈ R, w r = w q → r = q
  | [], _, r, hr, _, _, _ => by cases hr
  | s :: R, hn, r, hr, q, hq, e => by
    rw [List.map_cons, List.nodup_cons] at hn
    rcases List.mem_cons.mp hr with e1 | hr
    · rcases List.mem_cons.mp hq with e2 | hq
      · rw [e1, e2]
      · exact absurd (List.mem_map.mpr ⟨q, hq, by rw [← e, e1]⟩) hn.1
    · rcases List.mem_cons.mp hq with e2 | hq
      · exact absurd (List.mem_map.mpr ⟨r, hr, by rw [e, e2]⟩) hn.1
      · exact nd_inj hn.2 r hr q hq e
theorem inj_nd {w : Int → Int} : ∀ {R : List Int}, R.Nodup → (∀ r ∈ R, ∀ q ∈ R, w r = w q → r = q) → (R.map w).Nodup
  | [], _, _ => List.nodup_nil
  | s :: R, hn, hi => by
    rw [List.nodup_cons] at hn
    rw [List.map_cons, List.nodup_cons]
    refine ⟨fun hm => ?_, inj_nd hn.2 (fun r hr q hq => hi r (List.mem_cons_of_mem _ hr) q (List.mem_cons_of_mem _ hq))⟩
    obtain ⟨q, hq, e⟩ := List.mem_map.mp hm
    have := hi q (List.mem_cons_of_mem _ hq) s (List.mem_cons.mpr (Or.inl rfl)) e
    exact hn.1 (by rw [← this]; exact hq)
theorem kdn_of (h : kdist f a b) (hw : wf f a b) : kdn f a b := by
  intro i h1 h2 hk r q hr hq e
  obtain ⟨R, hR⟩ := (hw.kids h1 h2).ch (by have := hw.pos h1 h2; omega)
  exact nd_inj (h i h1 h2 hk R hR) r ((Ch.iff hw h1 h2 hR).mpr hr) q ((Ch.iff hw h1 h2 hR).mpr hq) e
theorem kdist_of (h : kdn f a b) (hw : wf f a b) : kdist f a b := by
  intro i h1 h2 hk R hR
  exact inj_nd hR.nd (fun r hr q hq e => h i h1 h2 hk r q ((Ch.iff hw h1 h2 hR).mp hr) ((Ch.iff hw h1 h2 hR).mp hq) e)
theorem nok_of (hw : wf f a b) (h1 : a ≤ i) (h2 : i < b) (h : nok f (i + 1) (i + mS f i) v) : ∀ r, kc f i r → mY f r ≠ v := by
  obtain ⟨R, hR, hn⟩ := h
  exact fun r hr => hn r ((Ch.iff hw h1 h2 hR).mpr hr)
theorem kid_of (hw : wf f a b) (h1 : a ≤ i) (h2 : i < b) (h : kid f i r) : kc f i r := by
  obtain ⟨h3, h4, n, R, hR, _⟩ := h
  refine ⟨h3, h4, fun x h5 h6 => ?_⟩
  have hk := hw.kids h1 h2
  obtain ⟨R2, hR2⟩ := (hk.tail (show i + 1 ≤ r by omega)).ch (by omega)
  have hj := hR.app hR2
  have hm : r ∈ R ++ R2 := by
    cases R2 with
    | nil => have hR2 : r = i + mS f i := hR2; omega
    | cons z R2 => obtain ⟨e, _⟩ := hR2; rw [e]; exact List.mem_append_right _ (List.mem_cons.mpr (Or.inl rfl))
  exact Ch.out hk hj r hm x (by omega) h6
/-- what is cut out: t with the n of it; f before, g behind -/
def cutr (f g : Nat → Int32) (t n M : Int) : Prop := ∀ p, 0 ≤ p → p < M - n → (p < t → mK g p = mK f p ∧ mY g p = mY f p ∧ (t < p + mS f p → mS g p = mS f p - n) ∧ (p + mS f p ≤ t → mS g p = mS f p)) ∧ (t ≤ p → mK g p = mK f (p + n) ∧ mY g p = mY f (p + n) ∧ mS g p = mS f (p + n))
theorem cutr.at (hc : cutr f g t n M) (hw : wf f 0 M) (hn : n = mS f t) (h1 : 0 ≤ t) (ht : t < M) (hp : 0 ≤ p) (hp2 : p < M - n) (hP : (p < t ∧ P = p) ∨ (t ≤ p ∧ P = p + n)) : 1 ≤ n ∧ t + n ≤ M ∧ 0 ≤ P ∧ P < M ∧ mK g p = mK f P ∧ mY g p = mY f P ∧ 1 ≤ mS f P ∧ P + mS f P ≤ M ∧ ((P + mS f P ≤ t ∧ p + mS g p = P + mS f P) ∨ (t + n ≤ P + mS f P ∧ p + mS g p = P + mS f P - n)) := by
  have q1 := hw.pos (i := t) h1 ht
  have q2 := hw.end (i := t) h1 ht
  obtain ⟨c1, c2⟩ := hc p hp hp2
  rcases hP with ⟨h2, e⟩ | ⟨h2, e⟩
  · rw [e]
    obtain ⟨k1, k2, k3, k4⟩ := c1 h2
    have p1 := hw.pos (i := p) hp (by omega)
    have p2 := hw.end (i := p) hp (by omega)
    refine ⟨by omega, by omega, hp, by omega, k1, k2, p1, p2, ?_⟩
    by_cases h3 : t < p + mS f p
    · have h4 := hw.nest (i := p) (j := t) hp (by omega) h2 h3
      have h5 := k3 h3
      exact Or.inr ⟨by omega, by omega⟩
    · have h5 := k4 (by omega)
      exact Or.inl ⟨by omega, by omega⟩
  · rw [e]
    obtain ⟨k1, k2, k3⟩ := c2 h2
    have p1 := hw.pos (i := p + n) (by omega) (by omega)
    have p2 := hw.end (i := p + n) (by omega) (by omega)
    exact ⟨by omega, by omega, by omega, by omega, k1, k2, p1, p2, Or.inr ⟨by omega, by omega⟩⟩
theorem psi_ex (t n p : Int) : ∃ P, (p < t ∧ P = p) ∨ (t ≤ p ∧ P = p + n) := by
  by_cases h : p < t
  · exact ⟨p, Or.inl ⟨h, rfl⟩⟩
  · exact ⟨p + n, Or.inr ⟨by omega, rfl⟩⟩
theorem wf.cut (hw : wf f 0 M) (hc : cutr f g t n M) (hn : n = mS f t) (h1 : 0 ≤ t) (ht : t < M) : wf g 0 (M - n) := by
  intro i hi hi2
  obtain ⟨P, hP⟩ := psi_ex t n i
  obtain ⟨a1, a2, a3, a4, _, _, a5, a6, a7⟩ := hc.at hw hn h1 ht hi hi2 hP
  have hE : i + mS g i ≤ M - n := by omega
  refine ⟨by omega, hE, fun j h2 h3 => ?_⟩
  obtain ⟨Q, hQ⟩ := psi_ex t n j
  obtain ⟨b1, b2, b3, b4, _, _, b5, b6, b7⟩ := hc.at hw hn h1 ht (p := j) (by omega) (by omega) hQ
  have hN := hw.nest (i := P) (j := Q) (by omega) (by omega) (by omega) (by omega)
  omega
theorem kc_cut (hw : wf f 0 M) (hc : cutr f g t n M) (hn : n = mS f t) (h1 : 0 ≤ t) (ht : t < M) (hi : 0 ≤ i) (hi2 : i < M - n) (hP : (i < t ∧ P = i) ∨ (t ≤ i ∧ P = i + n)) (hS : (r < t ∧ S = r) ∨ (t ≤ r ∧ S = r + n)) (hk : kc g i r) : kc f P S := by
  obtain ⟨a1, a2, a3, a4, _, _, a5, a6, a7⟩ := hc.at hw hn h1 ht hi hi2 hP
  obtain ⟨k1, k2, k3⟩ := hk
  obtain ⟨b1, b2, b3, b4, _, _, b5, b6, b7⟩ := hc.at hw hn h1 ht (p := r) (by omega) (by omega) hS
  refine ⟨by omega, by omega, fun x h2 h3 => ?_⟩
  by_cases h4 : x < t
  · have h5 := k3 x (by omega) (by omega)
    obtain ⟨c1, c2, c3, c4, _, _, c5, c6, c7⟩ := hc.at hw hn h1 ht (p := x) (P := x) (by omega) (by omega) (Or.inl ⟨h4, rfl⟩)
    omega
  · by_cases h6 : x < t + n
    · by_cases e : x = t
      · rw [e]; omega
      · have := hw.nest (i := t) (j := x) h1 ht (by omega) (by omega)
        omega
    · have h5 := k3 (x - n) (by omega) (by omega)
      obtain ⟨c1, c2, c3, c4, _, _, c5, c6, c7⟩ := hc.at hw hn h1 ht (p := x - n) (P := x) (by omega) (by omega) (Or.inr ⟨by omega, by omega⟩)
      omega
theorem mT.cut (hm : mT f 0 M) (hc : cutr f g t n M) (hn : n = mS f t) (h1 : 0 ≤ t) (ht : t < M) : mT g 0 (M - n) := by
  have hw := hm.1
  have hw2 := hw.cut hc hn h1 ht
  refine ⟨hw2, kdist_of ?_ hw2⟩
  intro i hi hi2 hk r q hr hq e
  have hE := hw2.end hi hi2
  have hr1 := hr.1
  have hr2 := hr.2.1
  have hq1 := hq.1
  have hq2 := hq.2.1
  obtain ⟨P, hP⟩ := psi_ex t n i
  obtain ⟨S, hS⟩ := psi_ex t n r
  obtain ⟨Q, hQ⟩ := psi_ex t n q
  obtain ⟨_, _, a3, a4, a5, _⟩ := hc.at hw hn h1 ht hi hi2 hP
  obtain ⟨_, _, _, _, _, b6, _⟩ := hc.at hw hn h1 ht (p := r) (by omega) (by omega) hS
  obtain ⟨_, _, _, _, _, c6, _⟩ := hc.at hw hn h1 ht (p := q) (by omega) (by omega) hQ
  have := kdn_of hm.2 hw P a3 a4 (by rw [← a5]; exact hk) S Q (kc_cut hw hc hn h1 ht hi hi2 hP hS hr) (kc_cut hw hc hn h1 ht hi hi2 hP hQ hq) (by rw [← b6, ← c6]; exact e)
  omega
theorem cutr.root (hc : cutr f g t n M) (hw : wf f 0 M) (hn : n = mS f t) (h1 : 0 < t) (ht : t < M) (h0 : mS f 0 = M) : mS g 0 = M - n := by
  have := hc.at hw hn (by omega) ht (p := 0) (P := 0) (by omega) (by have := hw.end (i := t) (by omega) ht; omega) (Or.inl ⟨h1, rfl⟩)
  omega
/-- what is laid in: h with the n of it, at place within q, with key v -/
def layr (f g h : Nat → Int32) (q place n v M : Int) : Prop := ∀ p, 0 ≤ p → p < M + n → (p < place → mK g p = mK f p ∧ mY g p = mY f p ∧ (p ≤ q → q < p + mS f p → mS g p = mS f p + n) ∧ (¬ (p ≤ q ∧ q < p + mS f p) → mS g p = mS f p)) ∧ (place ≤ p → p < place + n → mK g p = mK h (p - place) ∧ mS g p = mS h (p - place) ∧ (p ≠ place → mY g p = mY h (p - place)) ∧ (p = place → mY g p = v)) ∧ (place + n ≤ p → mK g p = mK f (p - n) ∧ mY g p = mY f (p - n) ∧ mS g p = mS f (p - n))
/-- where it may be laid -/
def spot (f : Nat → Int32) (q place M : Int) : Prop := 0 ≤ q ∧ q < M ∧ q < place ∧ place ≤ q + mS f q ∧ ∀ x, q < x → x < place → x + mS f x ≤ place
theorem layr.at (hc : layr f g h q place n v M) (hw : wf f 0 M) (hn : 1 ≤ n) (hs : spot f q place M) (hp : 0 ≤ p) (hp2 : p < M + n) (hP : (p < place ∧ P = p) ∨ (place + n ≤ p ∧ P = p - n)) : 0 ≤ P ∧ P < M ∧ mK g p = mK f P ∧ mY g p = mY f P ∧ 1 ≤ mS f P ∧ P + mS f P ≤ M ∧ ((P ≤ q ∧ q < P + mS f P ∧ place ≤ P + mS f P ∧ p + mS g p = P + mS f P + n) ∨ (P < place ∧ ¬ (P ≤ q ∧ q < P + mS f P) ∧ P + mS f P ≤ place ∧ p + mS g p = P + mS f P) ∨ (place ≤ P ∧ p + mS g p = P + mS f P + n)) := by
  obtain ⟨s1, s2, s3, s4, s5⟩ := hs
  obtain ⟨c1, _, c3⟩ := hc p hp hp2
  have sE := hw.end (i := q) s1 s2
  rcases hP with ⟨h2, e⟩ | ⟨h2, e⟩
  · rw [e]
    obtain ⟨k1, k2, k3, k4⟩ := c1 h2
    have p1 := hw.pos (i := p) hp (by omega)
    have p2 := hw.end (i := p) hp (by omega)
    refine ⟨hp, by omega, k1, k2, p1, p2, ?_⟩
    by_cases h3 : p ≤ q ∧ q < p + mS f p
    · have h5 := k3 h3.1 h3.2
      refine Or.inl ⟨h3.1, h3.2, ?_, by omega⟩
      by_cases e2 : p = q
      · rw [e2]; exact s4
      · have := hw.nest (i := p) (j := q) hp (by omega) (by omega) h3.2
        omega
    · have h5 := k4 h3
      refine Or.inr (Or.inl ⟨h2, h3, ?_, by omega⟩)
      by_cases e2 : q < p
      · exact s5 p e2 h2
      · omega
  · rw [e]
    obtain ⟨k1, k2, k3⟩ := c3 h2
    have p1 := hw.pos (i := p - n) (by omega) (by omega)
    have p2 := hw.end (i := p - n) (by omega) (by omega)
    exact ⟨by omega, by omega, k1, k2, p1, p2, Or.inr (Or.inr ⟨by omega, by omega⟩)⟩
theorem chi_ex (t n p : Int) (h : ¬ (t ≤ p ∧ p < t + n)) : ∃ P, (p < t ∧ P = p) ∨ (t + n ≤ p ∧ P = p - n) := by
  by_cases h1 : p < t
  · exact ⟨p, Or.inl ⟨h1, rfl⟩⟩
  · exact ⟨p - n, Or.inr ⟨by omega, rfl⟩⟩
theorem layr.ins (hc : layr f g h q place n v M) (hh : wf h 0 n) (hs : spot f q place M) (hM : q + mS f q ≤ M) (h1 : place ≤ p) (h2 : p < place + n) : mK g p = mK h (p - place) ∧ mS g p = mS h (p - place) ∧ (p ≠ place → mY g p = mY h (p - place)) ∧ (p = place → mY g p = v) ∧ 1 ≤ mS g p ∧ p + mS g p ≤ place + n := by
  obtain ⟨s1, s2, s3, s4, s5⟩ := hs
  obtain ⟨k1, k2, k3, k4⟩ := (hc p (by omega) (by omega)).2.1 h1 h2
  have p1 := hh.pos (i := p - place) (by omega) (by omega)
  have p2 := hh.end (i := p - place) (by omega) (by omega)
  exact ⟨k1, k2, k3, k4, by omega, by omega⟩
theorem wf.lay (hw : wf f 0 M) (hc : layr f g h q place n v M) (hn : 1 ≤ n) (hs : spot f q place M) (hh : wf h 0 n) : wf g 0 (M + n) := by
  have hM := hw.end (i := q) hs.1 hs.2.1
  have hsp := hs
  obtain ⟨s1, s2, s3, s4, s5⟩ := hsp
  intro i hi hi2
  by_cases hI : place ≤ i ∧ i < place + n
  · obtain ⟨k1, k2, k3, k4, k5, k6⟩ := hc.ins hh hs hM hI.1 hI.2
    refine ⟨k5, by omega, fun j h2 h3 => ?_⟩
    obtain ⟨m1, m2, m3, m4, m5, m6⟩ := hc.ins hh hs hM (p := j) (by omega) (by omega)
    have := hh.nest (i := i - place) (j := j - place) (by omega) (by omega) (by omega) (by omega)
    omega
  · obtain ⟨P, hP⟩ := chi_ex place n i hI
    obtain ⟨a3, a4, _, _, a5, a6, a7⟩ := hc.at hw hn hs hi hi2 hP
    have hE : i + mS g i ≤ M + n := by omega
    refine ⟨by omega, hE, fun j h2 h3 => ?_⟩
    by_cases hJ : place ≤ j ∧ j < place + n
    · obtain ⟨m1, m2, m3, m4, m5, m6⟩ := hc.ins hh hs hM (p := j) hJ.1 hJ.2
      omega
    · obtain ⟨Q, hQ⟩ := chi_ex place n j hJ
      obtain ⟨b3, b4, _, _, b5, b6, b7⟩ := hc.at hw hn hs (p := j) (by omega) (by omega) hQ
      have hN := hw.nest (i := P) (j := Q) (by omega) (by omega) (by omega) (by omega)
      omega
theorem kc_lay (hw : wf f 0 M) (hc : layr f g h q place n v M) (hn : 1 ≤ n) (hs : spot f q place M) (hi : 0 ≤ i) (hi2 : i < M + n) (hr : r < M + n) (hP : (i < place ∧ P = i) ∨ (place + n ≤ i ∧ P = i - n)) (hS : (r < place ∧ S = r) ∨ (place + n ≤ r ∧ S = r - n)) (hk : kc g i r) : kc f P S := by
  obtain ⟨a3, a4, _, _, a5, a6, a7⟩ := hc.at hw hn hs hi hi2 hP
  obtain ⟨k1, k2, k3⟩ := hk
  obtain ⟨b3, b4, _, _, b5, b6, b7⟩ := hc.at hw hn hs (p := r) (by omega) hr hS
  refine ⟨by omega, by omega, fun x h2 h3 => ?_⟩
  by_cases h4 : x < place
  · have h5 := k3 x (by omega) (by omega)
    obtain ⟨c3, c4, _, _, c5, c6, c7⟩ := hc.at hw hn hs (p := x) (P := x) (by omega) (by omega) (Or.inl ⟨h4, rfl⟩)
    omega
  · have h5 := k3 (x + n) (by omega) (by omega)
    obtain ⟨c3, c4, _, _, c5, c6, c7⟩ := hc.at hw hn hs (p := x + n) (P := x) (by omega) (by omega) (Or.inr ⟨by omega, by omega⟩)
    omega
theorem kc_layin (hw : wf f 0 M) (hc : layr f g h q place n v M) (hn : 1 ≤ n) (hs : spot f q place M) (hh : wf h 0 n) (h0 : mS h 0 = n) (hi : 0 ≤ i) (hi2 : i < M + n) (hP : (i < place ∧ P = i) ∨ (place + n ≤ i ∧ P = i - n)) (hr : place ≤ r ∧ r < place + n) (hk : kc g i r) : r = place ∧ P = q := by
  have hM := hw.end (i := q) hs.1 hs.2.1
  obtain ⟨a3, a4, _, _, a5, a6, a7⟩ := hc.at hw hn hs hi hi2 hP
  obtain ⟨k1, k2, k3⟩ := hk
  obtain ⟨m1, m2, m3, m4, m5, m6⟩ := hc.ins hh hs hM (p := place) (Int.le_refl _) (by omega)
  rw [Int.sub_self, h0] at m2
  have e : r = place := by
    by_cases e : r = place
    · exact e
    · have := k3 place (by omega) (by omega)
      omega
  refine ⟨e, ?_⟩
  obtain ⟨s1, s2, s3, s4, s5⟩ := hs
  by_cases h2 : P < q
  · have h5 := k3 q (by omega) (by omega)
    obtain ⟨c3, c4, _, _, c5, c6, c7⟩ := hc.at hw hn ⟨s1, s2, s3, s4, s5⟩ (p := q) (P := q) (by omega) (by omega) (Or.inl ⟨s3, rfl⟩)
    omega
  · omega
theorem mT.lay (hm : mT f 0 M) (hc : layr f g h q place n v M) (hn : 1 ≤ n) (hs : spot f q place M) (hh : mT h 0 n) (h0 : mS h 0 = n) (hk : mK f q = 3 → ∀ r, kc f q r → mY f r ≠ v) : mT g 0 (M + n) := by
  have hw := hm.1
  have hw2 := hw.lay hc hn hs hh.1
  have hM := hw.end (i := q) hs.1 hs.2.1
  refine ⟨hw2, kdist_of ?_ hw2⟩
  intro i hi hi2 hK r s hr hq e
  have hE := hw2.end hi hi2
  have hr1 := hr.1
  have hr2 := hr.2.1
  have hq1 := hq.1
  have hq2 := hq.2.1
  by_cases hI : place ≤ i ∧ i < place + n
  · obtain ⟨k1, k2, k3, k4, k5, k6⟩ := hc.ins hh.1 hs hM hI.1 hI.2
    obtain ⟨m1, m2, m3, m4, m5, m6⟩ := hc.ins hh.1 hs hM (p := r) (by omega) (by omega)
    obtain ⟨n1, n2, n3, n4, n5, n6⟩ := hc.ins hh.1 hs hM (p := s) (by omega) (by omega)
    have hkc : ∀ z, kc g i z → kc h (i - place) (z - place) := fun z hz => by
      have z1 := hz.1
      have z2 := hz.2.1
      refine ⟨by omega, by omega, fun x h2 h3 => ?_⟩
      have h4 := hz.2.2 (x + place) (by omega) (by omega)
      obtain ⟨o1, o2, _⟩ := hc.ins hh.1 hs hM (p := x + place) (by omega) (by omega)
      rw [show x + place - place = x by omega] at o2
      omega
    have := kdn_of hh.2 hh.1 (i - place) (by omega) (by omega) (by rw [← k1]; exact hK) (r - place) (s - place) (hkc r hr) (hkc s hq) (by rw [← m3 (by omega), ← n3 (by omega)]; exact e)
    omega
  · obtain ⟨P, hP⟩ := chi_ex place n i hI
    obtain ⟨a3, a4, a1, _, a5, a6, a7⟩ := hc.at hw hn hs hi hi2 hP
    by_cases hJ : place ≤ r ∧ r < place + n
    · have h5 := kc_layin hw hc hn hs hh.1 h0 hi hi2 hP hJ hr
      by_cases hL : place ≤ s ∧ s < place + n
      · have h6 := kc_layin hw hc hn hs hh.1 h0 hi hi2 hP hL hq
        omega
      · obtain ⟨Q, hQ⟩ := chi_ex place n s hL
        obtain ⟨_, _, _, b6, _⟩ := hc.at hw hn hs (p := s) (by omega) (by omega) hQ
        have h7 := kc_lay hw hc hn hs hi hi2 (by omega) hP hQ hq
        have h8 := (hc.ins hh.1 hs hM (p := r) hJ.1 hJ.2).2.2.2.1 h5.1
        rw [h5.2] at h7 a1
        exact absurd (by rw [← b6, ← e]; exact h8) (hk (by rw [← a1]; exact hK) Q h7)
    · obtain ⟨S, hS⟩ := chi_ex place n r hJ
      obtain ⟨_, _, _, b6, _⟩ := hc.at hw hn hs (p := r) (by omega) (by omega) hS
      have h7 := kc_lay hw hc hn hs hi hi2 (by omega) hP hS hr
      by_cases hL : place ≤ s ∧ s < place + n
      · have h6 := kc_layin hw hc hn hs hh.1 h0 hi hi2 hP hL hq
        have h8 := (hc.ins hh.1 hs hM (p := s) hL.1 hL.2).2.2.2.1 h6.1
        rw [h6.2] at h7 a1
        exact absurd (by rw [← b6, e]; exact h8) (hk (by rw [← a1]; exact hK) S h7)
      · obtain ⟨Q, hQ⟩ := chi_ex place n s hL
        obtain ⟨_, _, _, c6, _⟩ := hc.at hw hn hs (p := s) (by omega) (by omega) hQ
        have h9 := kc_lay hw hc hn hs hi hi2 (by omega) hP hQ hq
        have := kdn_of hm.2 hw P a3 a4 (by rw [← a1]; exact hK) S Q h7 h9 (by rw [← b6, ← c6]; exact e)
        omega
theorem layr.root (hc : layr f g h q place n v M) (hw : wf f 0 M) (hn : 1 ≤ n) (hs : spot f q place M) (h0 : mS f 0 = M) : mS g 0 = M + n := by
  have h1 := hs.1
  have h2 := hs.2.1
  have h3 := hs.2.2.1
  have := hc.at hw hn hs (p := 0) (P := 0) (by omega) (by omega) (Or.inl ⟨by omega, rfl⟩)
  omega
/-- cut out and laid in at the same place -/
theorem spot_cut (hm : mT f 0 M) (hc : cutr f g t n M) (hn : n = mS f t) (h1 : 0 ≤ q) (hq : q < M) (ht : t < M) (hk : kc f q t) (hv : mK f q = 3 → mY f t = v) : spot g q t (M - n) ∧ mK g q = mK f q ∧ (mK g q = 3 → ∀ r, kc g q r → mY g r ≠ v) := by
  have hw := hm.1
  have k1 := hk.1
  have k2 := hk.2.1
  have tE := hw.nest (i := q) (j := t) h1 hq k1 k2
  have qE := hw.end h1 hq
  have hqM : q < M - n := by omega
  obtain ⟨a1, a2, _, _, a3, _, a5, a6, a7⟩ := hc.at hw hn (by omega) ht h1 hqM (Or.inl ⟨k1, rfl⟩ : (q < t ∧ q = q) ∨ _)
  refine ⟨⟨h1, hqM, k1, by omega, fun x h2 h3 => ?_⟩, a3, fun h3 r hr e => ?_⟩
  · have h4 := hk.2.2 x h2 h3
    obtain ⟨_, _, _, _, _, _, c5, c6, c7⟩ := hc.at hw hn (by omega) ht (p := x) (P := x) (by omega) (by omega) (Or.inl ⟨h3, rfl⟩)
    omega
  · have r1 := hr.1
    have r2 := hr.2.1
    obtain ⟨S, hS⟩ := psi_ex t n r
    obtain ⟨_, _, _, _, _, b6, _⟩ := hc.at hw hn (by omega) ht (p := r) (by omega) (by omega) hS
    have hk2 := kc_cut hw hc hn (by omega) ht h1 hqM (Or.inl ⟨k1, rfl⟩ : (q < t ∧ q = q) ∨ _) hS hr
    rw [a3] at h3
    have := kdn_of hm.2 hw q h1 hq h3 S t hk2 hk (by rw [← b6, e, hv h3])
    omega
/-- behind all of one -/
theorem spot_end (hw : wf f 0 M) (h1 : 0 ≤ q) (hq : q < M) : spot f q (q + mS f q) M := by
  have p1 := hw.pos h1 hq
  exact ⟨h1, hq, by omega, Int.le_refl _, fun x h2 h3 => hw.nest h1 hq h2 h3⟩
/-- keys of one that was elsewhere -/
theorem keys_cut (hm : mT f 0 M) (hc : cutr f g t n M) (hn : n = mS f t) (h1 : 0 ≤ t) (ht : t < M) (hi : 0 ≤ i) (hi2 : i < M - n) (hP : (i < t ∧ P = i) ∨ (t ≤ i ∧ P = i + n)) (hk : mK f P = 3 → ∀ r, kc f P r → mY f r ≠ v) : mK g i = mK f P ∧ (mK g i = 3 → ∀ r, kc g i r → mY g r ≠ v) := by
  have hw := hm.1
  have hE := (hw.cut hc hn h1 ht).end hi hi2
  obtain ⟨_, _, _, _, a3, _⟩ := hc.at hw hn h1 ht hi hi2 hP
  refine ⟨a3, fun h3 r hr e => ?_⟩
  have r1 := hr.1
  have r2 := hr.2.1
  obtain ⟨S, hS⟩ := psi_ex t n r
  obtain ⟨_, _, _, _, _, b6, _⟩ := hc.at hw hn h1 ht (p := r) (by omega) (by omega) hS
  exact hk (by rw [← a3]; exact h3) S (kc_cut hw hc hn h1 ht hi hi2 hP hS hr) (by rw [← b6]; exact e)
end MU
