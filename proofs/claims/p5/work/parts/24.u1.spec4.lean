/-! PATHS: what is told as a path, by a machine with a stack -/
abbrev pS : Type := List (Nat × Int) × Int × Int × Int × Int
/-- one step without a fault. On the stack: 0 the path, 1 an atom (how deep), 2 a condition, 3 all of, 4 behind @, 5 a sign that must come, 6 behind a condition's part, 7 behind an all-of's part, 8 a word, 9 a number, 10 places, 11 behind the first place, 12 behind its colon, 13 a name. Then: the fault, the token, tests, steps -/
def pM (T : tkT) (m : Nat) (d : Int) (k : List (Nat × Int)) (j t n : Int) : pS :=
  match m with
  | 0 => if tK T j = 259 then (k, 0, j, t, n)
    else if ¬ (tK T j = 46 ∨ tK T j = 258 ∨ tK T j = 91 ∨ tK T j = 63) then ((0, d) :: k, 1, j, t, n)
    else if 8 ≤ n then ((0, d) :: k, 2, j, t, n)
    else if tK T j = 46 then ((13, 0) :: (0, d) :: k, 0, j + 1, t, n + 1)
    else if tK T j = 258 then ((0, d) :: k, 0, j + 1, t, n + 1)
    else if tK T j = 91 then ((10, 0) :: (0, d) :: k, 0, j + 1, t, n + 1)
    else ((5, 40) :: (2, 0) :: (5, 41) :: (0, d) :: k, 0, j + 1, t, n + 1)
  | 1 => if tK T j = 33 then (if d = 5 then ((1, d) :: k, 2, j, t, n) else ((1, d + 1) :: k, 0, j + 1, t, n))
    else if tK T j = 40 then (if d = 5 then ((1, d) :: k, 2, j, t, n) else ((2, d + 1) :: (5, 41) :: k, 0, j + 1, t, n))
    else if tK T j = 64 then (if t = 12 then ((1, d) :: k, 2, j, t, n) else ((4, 0) :: k, 0, j + 1, t + 1, n))
    else ((1, d) :: k, 1, j, t, n)
  | 2 => ((3, d) :: (6, d) :: k, 0, j, t, n)
  | 3 => ((1, d) :: (7, d) :: k, 0, j, t, n)
  | 4 => if tK T j = 46 then ((8, 0) :: (4, 0) :: k, 0, j + 1, t, n)
    else if tK T j = 91 then ((9, 0) :: (5, 93) :: (4, 0) :: k, 0, j + 1, t, n)
    else if tK T j = 61 ∨ tK T j = 60 ∨ tK T j = 62 then (if tK T (j + 1) = 256 then ((8, 0) :: k, 0, j + 1, t, n) else ((9, 0) :: k, 0, j + 1, t, n))
    else (k, 0, j, t, n)
  | 5 => if tK T j = d then (k, 0, j + 1, t, n) else ((5, d) :: k, 1, j, t, n)
  | 6 => if tK T j = 124 then ((3, d) :: (6, d) :: k, 0, j + 1, t, n) else (k, 0, j, t, n)
  | 7 => if tK T j = 38 then ((1, d) :: (7, d) :: k, 0, j + 1, t, n) else (k, 0, j, t, n)
  | 8 => if tK T j ≠ 256 then ((8, d) :: k, 1, j, t, n) else if 6 < tL T j then ((8, d) :: k, 2, j, t, n) else (k, 0, j + 1, t, n)
  | 9 => if tK T j = 45 then ((14, d) :: k, 0, j + 1, t, n) else ((14, d) :: k, 0, j, t, n)
  | 10 => if tK T j = 58 then ((11, d) :: k, 0, j, t, n) else ((9, 0) :: (11, d) :: k, 0, j, t, n)
  | 11 => if tK T j = 58 then ((12, d) :: k, 0, j + 1, t, n) else ((5, 93) :: k, 0, j, t, n)
  | 12 => if tK T j = 93 then ((5, 93) :: k, 0, j, t, n) else ((9, 0) :: (5, 93) :: k, 0, j, t, n)
  | 13 => if tK T j = 42 then (k, 0, j + 1, t, n) else ((8, 0) :: k, 0, j, t, n)
  | _ => if tK T j ≠ 257 then ((14, d) :: k, 1, j, t, n) else if 3 < tL T j then ((14, d) :: k, 2, j, t, n) else (k, 0, j + 1, t, n)
def pN (T : tkT) : pS → pS
  | ([], c, j, t, n) => ([], c, j, t, n)
  | ((m, d) :: k, c, j, t, n) => if c = 0 then pM T m d k j t n else ((m, d) :: k, c, j, t, n)
def pR (T : tkT) : Nat → pS → pS
  | 0, s => s
  | f + 1, s => pR T f (pN T s)
/-- from s to r -/
def Rc (T : tkT) (s r : pS) : Prop := ∃ f, pR T f s = r
section PTHS
variable {T : tkT} {s r q : pS} {m : Nat} {d c j t n c1 j1 t1 c2 j2 t2 x : Int} {k l l2 : List (Nat × Int)} {e : List (Nat × Int)} {e2 : Nat × Int}
theorem pR_add (f g : Nat) : ∀ s : pS, pR T (f + g) s = pR T g (pR T f s) := by
  induction f with
  | zero => intro s; rw [Nat.zero_add]; rfl
  | succ f ih => intro s; rw [Nat.succ_add]; exact ih (pN T s)
theorem Rc.rf : Rc T s s := ⟨0, rfl⟩
theorem Rc.tr (h : Rc T s r) (h2 : Rc T r q) : Rc T s q := by
  obtain ⟨f, h⟩ := h
  obtain ⟨g, h2⟩ := h2
  exact ⟨f + g, by rw [pR_add, h, h2]⟩
theorem Rc.one (h : pN T s = r) : Rc T s r := ⟨1, h⟩
theorem Rc.go (h : pM T m d k j t n = r) : Rc T ((m, d) :: k, 0, j, t, n) r := Rc.one (by
  show (if (0 : Int) = 0 then pM T m d k j t n else ((m, d) :: k, 0, j, t, n)) = r
  rw [if_pos rfl]
  exact h)
/-- it has come to its end -/
def pF (s : pS) : Prop := s.1 = [] ∨ s.2.1 ≠ 0
theorem pF.stay (h : pF s) : pN T s = s := by
  obtain ⟨k, c, j, t, n⟩ := s
  rcases k with _ | ⟨⟨m, d⟩, k⟩
  · rfl
  · rcases h with h | h
    · exact absurd (show (m, d) :: k = [] from h) (List.cons_ne_nil _ _)
    · exact if_neg (show ¬ c = 0 from h)
theorem pF.stays (h : pF s) : ∀ f : Nat, pR T f s = s := by
  intro f
  induction f with
  | zero => rfl
  | succ f ih => show pR T f (pN T s) = s; rw [h.stay]; exact ih
theorem Rc.det (h : Rc T s r) (h2 : Rc T s q) (hr : pF r) (hq : pF q) : r = q := by
  obtain ⟨f, h⟩ := h
  obtain ⟨g, h2⟩ := h2
  rcases Nat.le_total f g with h9 | h9
  · obtain ⟨x, rfl⟩ := Nat.exists_eq_add_of_le h9
    rw [pR_add, h, hr.stays] at h2
    exact h2
  · obtain ⟨x, rfl⟩ := Nat.exists_eq_add_of_le h9
    rw [pR_add, h2, hq.stays] at h
    exact h.symm
/-- what stands on the stack is gone over: l is left of it -/
def GS (T : tkT) (e : List (Nat × Int)) (j t : Int) (l : List (Nat × Int)) (c1 j1 t1 : Int) : Prop := ∀ k n, (c1 = 0 → Rc T (e ++ k, 0, j, t, n) (l ++ k, 0, j1, t1, n)) ∧ (c1 ≠ 0 → ∃ k2 t2, Rc T (e ++ k, 0, j, t, n) (k2, c1, j1, t2, n))
theorem GS.start : GS T e j t e 0 j t := fun k n => ⟨fun _ => Rc.rf, fun h => absurd rfl h⟩
theorem GS.one (h : GS T e j t ((m, d) :: l) 0 j1 t1) (hs : ∀ k n, pM T m d (l ++ k) j1 t1 n = (l2 ++ k, c2, j2, t2, n)) : GS T e j t l2 c2 j2 t2 := fun k n => by
  have hr : Rc T (e ++ k, 0, j, t, n) (l2 ++ k, c2, j2, t2, n) := ((h k n).1 rfl).tr (Rc.go (hs k n))
  exact ⟨fun hc => by rw [hc] at hr; exact hr, fun _ => ⟨_, _, hr⟩⟩
theorem GS.bad (h : GS T e j t ((m, d) :: l) 0 j1 t1) (hs : ∀ k n, pM T m d (l ++ k) j1 t1 n = ((m, d) :: (l ++ k), c2, j1, t1, n)) (hc : c2 ≠ 0) : GS T e j t l2 c2 j1 t2 := fun k n => by
  have hr := ((h k n).1 rfl).tr (Rc.go (hs k n))
  exact ⟨fun h9 => absurd h9 hc, fun _ => ⟨_, _, hr⟩⟩
theorem GS.call (h : GS T e j t (e2 :: l) c1 j1 t1) (h2 : c1 = 0 → GS T [e2] j1 t1 [] c2 j2 t2) (h3 : c1 ≠ 0 → c2 = c1 ∧ j2 = j1) : GS T e j t l c2 j2 t2 := fun k n => by
  by_cases hc : c1 = 0
  · have a := (h k n).1 hc
    have b := h2 hc (l ++ k) n
    refine ⟨fun h9 => a.tr (b.1 h9), fun h9 => ?_⟩
    obtain ⟨k2, t3, b⟩ := b.2 h9
    exact ⟨k2, t3, a.tr b⟩
  · obtain ⟨e1, e3⟩ := h3 hc
    have a := (h k n).2 hc
    rw [e1, e3]
    exact ⟨fun h9 => absurd h9 hc, fun _ => a⟩
theorem GS.ec (h : GS T e j t l c1 j1 t1) (e1 : c2 = c1) (e3 : j2 = j1) (e4 : c1 = 0 → t2 = t1) : GS T e j t l c2 j2 t2 := by
  subst e1
  subst e3
  intro k n
  refine ⟨fun hc => ?_, fun hc => (h k n).2 hc⟩
  rw [e4 hc]
  exact (h k n).1 hc
theorem GS.cg1 {d2 : Int} (h : GS T [(m, d2)] j2 t2 l c1 j1 t1) (hd : d = d2) (hj : j = j2) (ht : t = t2) : GS T [(m, d)] j t l c1 j1 t1 := by
  subst hd
  subst hj
  subst ht
  exact h
/-- a fault was there: whatever is left -/
theorem GS.was (h : GS T e j t l c1 j1 t1) (hc : c1 ≠ 0) : GS T e j t l2 c1 j1 t2 := fun k n => ⟨fun h9 => absurd h9 hc, fun h9 => (h k n).2 h9⟩
/-- a sign that must come -/
def ndR (T : tkT) (x j c j2 : Int) : Prop := (tK T j = x ∧ c = 0 ∧ j2 = j + 1) ∨ (tK T j ≠ x ∧ c = 1 ∧ j2 = j)
theorem GS.need (h : GS T e j t ((5, x) :: l) c1 j1 t1) (h3 : c1 ≠ 0 → c2 = c1 ∧ j2 = j1) (h2 : c1 = 0 → (tK T j1 = x ∧ c2 = 0 ∧ j2 = j1 + 1) ∨ (tK T j1 ≠ x ∧ c2 = 1 ∧ j2 = j1)) : GS T e j t l c2 j2 t1 := by
  refine h.call (fun hc => ?_) h3
  rcases h2 hc with ⟨a, e1, e3⟩ | ⟨a, e1, e3⟩
  · subst e1
    subst e3
    exact GS.start.one (l := []) (l2 := []) (fun k n => if_pos a)
  · subst e1
    subst e3
    exact GS.start.bad (fun k n => if_neg a) (by decide)
theorem GS.wordL (h2 : (tK T j ≠ 256 ∧ c2 = 1 ∧ j2 = j) ∨ (tK T j = 256 ∧ 6 < tL T j ∧ c2 = 2 ∧ j2 = j) ∨ (tK T j = 256 ∧ tL T j ≤ 6 ∧ c2 = 0 ∧ j2 = j + 1)) : GS T [(8, 0)] j t [] c2 j2 t := by
  rcases h2 with ⟨a, e1, e3⟩ | ⟨a, b, e1, e3⟩ | ⟨a, b, e1, e3⟩
  · subst e1
    subst e3
    exact GS.start.bad (fun k n => if_pos a) (by decide)
  · subst e1
    subst e3
    exact GS.start.bad (fun k n => (if_neg (fun h9 => h9 a)).trans (if_pos b)) (by decide)
  · subst e1
    subst e3
    exact GS.start.one (fun k n => (if_neg (fun h9 => h9 a)).trans (if_neg (by omega)))
theorem GS.word (h : GS T e j t ((8, 0) :: l) c1 j1 t1) (h3 : c1 ≠ 0 → c2 = c1 ∧ j2 = j1) (h2 : c1 = 0 → (tK T j1 ≠ 256 ∧ c2 = 1 ∧ j2 = j1) ∨ (tK T j1 = 256 ∧ 6 < tL T j1 ∧ c2 = 2 ∧ j2 = j1) ∨ (tK T j1 = 256 ∧ tL T j1 ≤ 6 ∧ c2 = 0 ∧ j2 = j1 + 1)) : GS T e j t l c2 j2 t1 := h.call (fun hc => GS.wordL (h2 hc)) h3
theorem GS.digL (h2 : (tK T j ≠ 257 ∧ c2 = 1 ∧ j2 = j) ∨ (tK T j = 257 ∧ 3 < tL T j ∧ c2 = 2 ∧ j2 = j) ∨ (tK T j = 257 ∧ tL T j ≤ 3 ∧ c2 = 0 ∧ j2 = j + 1)) : GS T [(14, 0)] j t [] c2 j2 t := by
  rcases h2 with ⟨a, e1, e3⟩ | ⟨a, b, e1, e3⟩ | ⟨a, b, e1, e3⟩
  · subst e1
    subst e3
    exact GS.start.bad (fun k n => if_pos a) (by decide)
  · subst e1
    subst e3
    exact GS.start.bad (fun k n => (if_neg (fun h9 => h9 a)).trans (if_pos b)) (by decide)
  · subst e1
    subst e3
    exact GS.start.one (fun k n => (if_neg (fun h9 => h9 a)).trans (if_neg (by omega)))
theorem GS.numL (h2 : nuR T j c2 j2) : GS T [(9, 0)] j t [] c2 j2 t := by
  obtain ⟨q, hq, h2⟩ := h2
  have a : GS T [(9, 0)] j t [(14, 0)] 0 q t := by
    rcases hq with ⟨b, e1⟩ | ⟨b, e1⟩
    · subst e1
      exact GS.start.one (fun k n => if_pos b)
    · subst e1
      exact GS.start.one (fun k n => if_neg b)
  exact a.call (fun _ => GS.digL h2) (fun h9 => absurd rfl h9)
theorem GS.num (h : GS T e j t ((9, 0) :: l) c1 j1 t1) (h3 : c1 ≠ 0 → c2 = c1 ∧ j2 = j1) (h2 : c1 = 0 → nuR T j1 c2 j2) : GS T e j t l c2 j2 t1 := h.call (fun hc => GS.numL (h2 hc)) h3
-- atoms
theorem GS.no (h : GS T e j t ((1, d) :: l) 0 j1 t1) (a : tK T j1 ≠ 33) (a2 : tK T j1 ≠ 40) (a3 : tK T j1 ≠ 64) (hc : c2 = 1) (hj : j2 = j1) : GS T e j t l2 c2 j2 t2 := by
  subst hc
  subst hj
  exact h.bad (fun k n => (if_neg a).trans ((if_neg a2).trans (if_neg a3))) (by decide)
theorem GS.deep (h : GS T e j t ((1, d) :: l) 0 j1 t1) (a : tK T j1 = 33 ∨ tK T j1 = 40) (hd : d = 5) (hc : c2 = 2) (hj : j2 = j1) : GS T e j t l2 c2 j2 t2 := by
  subst hc
  subst hj
  rcases a with a | a
  · exact h.bad (fun k n => (if_pos a).trans (if_pos hd)) (by decide)
  · exact h.bad (fun k n => (if_neg (by omega)).trans ((if_pos a).trans (if_pos hd))) (by decide)
theorem GS.tests (h : GS T e j t ((1, d) :: l) 0 j1 t1) (a : tK T j1 = 64) (ht : t1 = 12) (hc : c2 = 2) (hj : j2 = j1) : GS T e j t l2 c2 j2 t2 := by
  subst hc
  subst hj
  exact h.bad (fun k n => (if_neg (by omega)).trans ((if_neg (by omega)).trans ((if_pos a).trans (if_pos ht)))) (by decide)
theorem GS.not (h : GS T e j t ((1, d) :: l) 0 j1 t1) (a : tK T j1 = 33) (hd : d ≠ 5) : GS T e j t ((1, d + 1) :: l) 0 (j1 + 1) t1 := h.one (fun k n => (if_pos a).trans (if_neg hd))
theorem GS.open_ (h : GS T e j t ((1, d) :: l) 0 j1 t1) (a : tK T j1 = 40) (hd : d ≠ 5) : GS T e j t ((2, d + 1) :: (5, 41) :: l) 0 (j1 + 1) t1 := h.one (fun k n => (if_neg (by omega)).trans ((if_pos a).trans (if_neg hd)))
theorem GS.test (h : GS T e j t ((1, d) :: l) 0 j1 t1) (a : tK T j1 = 64) (ht : t1 ≠ 12) : GS T e j t ((4, 0) :: l) 0 (j1 + 1) (t1 + 1) := h.one (fun k n => (if_neg (by omega)).trans ((if_neg (by omega)).trans ((if_pos a).trans (if_neg ht))))
-- conditions
theorem GS.cond (h : GS T e j t ((2, d) :: l) 0 j1 t1) : GS T e j t ((3, d) :: (6, d) :: l) 0 j1 t1 := h.one (fun _ _ => rfl)
theorem GS.all (h : GS T e j t ((3, d) :: l) 0 j1 t1) : GS T e j t ((1, d) :: (7, d) :: l) 0 j1 t1 := h.one (fun _ _ => rfl)
theorem GS.or (h : GS T e j t ((6, d) :: l) 0 j1 t1) (a : tK T j1 = 124) : GS T e j t ((3, d) :: (6, d) :: l) 0 (j1 + 1) t1 := h.one (fun _ _ => if_pos a)
theorem GS.orE (h : GS T e j t ((6, d) :: l) c1 j1 t1) (a : c1 = 0 → tK T j1 ≠ 124) : GS T e j t l c1 j1 t1 := h.call (fun hc => by subst hc; exact GS.start.one (fun _ _ => if_neg (a rfl))) (fun _ => ⟨rfl, rfl⟩)
theorem GS.and (h : GS T e j t ((7, d) :: l) 0 j1 t1) (a : tK T j1 = 38) : GS T e j t ((1, d) :: (7, d) :: l) 0 (j1 + 1) t1 := h.one (fun _ _ => if_pos a)
theorem GS.andE (h : GS T e j t ((7, d) :: l) c1 j1 t1) (a : c1 = 0 → tK T j1 ≠ 38) : GS T e j t l c1 j1 t1 := h.call (fun hc => by subst hc; exact GS.start.one (fun _ _ => if_neg (a rfl))) (fun _ => ⟨rfl, rfl⟩)
-- behind @
theorem GS.lkey (h : GS T e j t ((4, 0) :: l) 0 j1 t1) (a : tK T j1 = 46) : GS T e j t ((8, 0) :: (4, 0) :: l) 0 (j1 + 1) t1 := h.one (fun _ _ => if_pos a)
theorem GS.lplace (h : GS T e j t ((4, 0) :: l) 0 j1 t1) (a : tK T j1 = 91) : GS T e j t ((9, 0) :: (5, 93) :: (4, 0) :: l) 0 (j1 + 1) t1 := h.one (fun _ _ => (if_neg (by omega)).trans (if_pos a))
theorem GS.lend (h : GS T e j t ((4, 0) :: l) c1 j1 t1) (a : c1 = 0 → tK T j1 ≠ 46 ∧ tK T j1 ≠ 91 ∧ tK T j1 ≠ 61 ∧ tK T j1 ≠ 60 ∧ tK T j1 ≠ 62) : GS T e j t l c1 j1 t1 := h.call (fun hc => by subst hc; have a := a rfl; exact GS.start.one (fun _ _ => (if_neg (by omega)).trans ((if_neg (by omega)).trans (if_neg (by omega))))) (fun _ => ⟨rfl, rfl⟩)
theorem GS.lword (h : GS T e j t ((4, 0) :: l) 0 j1 t1) (a : tK T j1 = 61 ∨ tK T j1 = 60 ∨ tK T j1 = 62) (b : tK T (j1 + 1) = 256) : GS T e j t ((8, 0) :: l) 0 (j1 + 1) t1 := h.one (fun _ _ => (if_neg (by omega)).trans ((if_neg (by omega)).trans ((if_pos a).trans (if_pos b))))
theorem GS.lnum (h : GS T e j t ((4, 0) :: l) 0 j1 t1) (a : tK T j1 = 61 ∨ tK T j1 = 60 ∨ tK T j1 = 62) (b : tK T (j1 + 1) ≠ 256) : GS T e j t ((9, 0) :: l) 0 (j1 + 1) t1 := h.one (fun _ _ => (if_neg (by omega)).trans ((if_neg (by omega)).trans ((if_pos a).trans (if_neg b))))
-- places, names
theorem GS.pcol (h : GS T e j t ((10, d) :: l) 0 j1 t1) (a : tK T j1 = 58) : GS T e j t ((11, d) :: l) 0 j1 t1 := h.one (fun _ _ => if_pos a)
theorem GS.pnum (h : GS T e j t ((10, d) :: l) 0 j1 t1) (a : tK T j1 ≠ 58) : GS T e j t ((9, 0) :: (11, d) :: l) 0 j1 t1 := h.one (fun _ _ => if_neg a)
theorem GS.qcol (h : GS T e j t ((11, d) :: l) 0 j1 t1) (a : tK T j1 = 58) : GS T e j t ((12, d) :: l) 0 (j1 + 1) t1 := h.one (fun _ _ => if_pos a)
theorem GS.qend (h : GS T e j t ((11, d) :: l) c1 j1 t1) (a : c1 = 0 → tK T j1 ≠ 58) : GS T e j t ((5, 93) :: l) c1 j1 t1 := fun k n => by
  refine ⟨fun hc => ?_, fun hc => (h k n).2 hc⟩
  subst hc
  exact ((h k n).1 rfl).tr (Rc.go (if_neg (a rfl)))
theorem GS.rend (h : GS T e j t ((12, d) :: l) 0 j1 t1) (a : tK T j1 = 93) : GS T e j t ((5, 93) :: l) 0 j1 t1 := h.one (fun _ _ => if_pos a)
theorem GS.rnum (h : GS T e j t ((12, d) :: l) 0 j1 t1) (a : tK T j1 ≠ 93) : GS T e j t ((9, 0) :: (5, 93) :: l) 0 j1 t1 := h.one (fun _ _ => if_neg a)
theorem GS.each (h : GS T e j t ((13, d) :: l) 0 j1 t1) (a : tK T j1 = 42) : GS T e j t l 0 (j1 + 1) t1 := h.one (fun _ _ => if_pos a)
theorem GS.name (h : GS T e j t ((13, d) :: l) 0 j1 t1) (a : tK T j1 ≠ 42) : GS T e j t ((8, 0) :: l) 0 j1 t1 := h.one (fun _ _ => if_neg a)
-- the whole
/-- the path so far: n steps -/
def GP (T : tkT) (c j t n : Int) : Prop := (c = 0 → Rc T ([(0, 0)], 0, 0, 0, 0) ([(0, 0)], 0, j, t, n)) ∧ (c ≠ 0 → ∃ k t2 n2, Rc T ([(0, 0)], 0, 0, 0, 0) (k, c, j, t2, n2))
theorem GP.start : GP T 0 0 0 0 := ⟨fun _ => Rc.rf, fun h => absurd rfl h⟩
theorem GP.en (h : GP T c j t n) (ht : c = 0 → t2 = t) {n2 : Int} (hn : c = 0 → n2 = n) : GP T c j t2 n2 := by
  refine ⟨fun hc => ?_, fun hc => h.2 hc⟩
  rw [ht hc, hn hc]
  exact h.1 hc
/-- how far the path is read -/
def GPe (T : tkT) (c j : Int) : Prop := ∃ t n, GP T c j t n
/-- a step: what is left to read of it is e -/
theorem GP.via (h : GP T 0 j t n) (hs : pM T 0 0 [] j t n = (e ++ [(0, 0)], 0, j1, t, n + 1)) (h2 : GS T e j1 t [] c2 j2 t2) : GP T c2 j2 t2 (n + 1) := by
  have a := (h.1 rfl).tr (Rc.go hs)
  have b := h2 [(0, 0)] (n + 1)
  refine ⟨fun hc => ?_, fun hc => ?_⟩
  · have q := a.tr (b.1 hc)
    subst hc
    exact q
  · obtain ⟨k2, t3, b⟩ := b.2 hc
    exact ⟨k2, t3, n + 1, a.tr b⟩
theorem GP.dots (h : GP T 0 j t n) (a : tK T j = 258) (hn : n < 8) : GP T 0 (j + 1) t (n + 1) := ⟨fun _ => (h.1 rfl).tr (Rc.go ((if_neg (by omega)).trans ((if_neg (by omega)).trans ((if_neg (by omega)).trans ((if_neg (by omega)).trans (if_pos a)))))), fun h9 => absurd rfl h9⟩
theorem GP.byName (h : GP T 0 j t n) (a : tK T j = 46) (hn : n < 8) (h2 : GS T [(13, 0)] (j + 1) t [] c2 j2 t2) : GP T c2 j2 t2 (n + 1) := h.via ((if_neg (by omega)).trans ((if_neg (by omega)).trans ((if_neg (by omega)).trans (if_pos a)))) h2
theorem GP.byPlace (h : GP T 0 j t n) (a : tK T j = 91) (hn : n < 8) (h2 : GS T [(10, 0)] (j + 1) t [] c2 j2 t2) : GP T c2 j2 t2 (n + 1) := h.via ((if_neg (by omega)).trans ((if_neg (by omega)).trans ((if_neg (by omega)).trans ((if_neg (by omega)).trans ((if_neg (by omega)).trans (if_pos a)))))) h2
theorem GP.byFilter (h : GP T 0 j t n) (a : tK T j = 63) (hn : n < 8) (h2 : GS T [(5, 40), (2, 0), (5, 41)] (j + 1) t [] c2 j2 t2) : GP T c2 j2 t2 (n + 1) := h.via ((if_neg (by omega)).trans ((if_neg (by omega)).trans ((if_neg (by omega)).trans ((if_neg (by omega)).trans ((if_neg (by omega)).trans (if_neg (by omega))))))) h2
theorem GP.cant (h : GP T 0 j t n) (a : tK T j ≠ 259 ∧ tK T j ≠ 46 ∧ tK T j ≠ 258 ∧ tK T j ≠ 91 ∧ tK T j ≠ 63) (hc : c2 = 1) (hj : j2 = j) : GP T c2 j2 t2 x := by
  subst hc
  subst hj
  exact ⟨fun h9 => absurd h9 (by decide), fun _ => ⟨_, _, _, (h.1 rfl).tr (Rc.go ((if_neg a.1).trans (if_pos (by omega))))⟩⟩
theorem GP.much (h : GP T 0 j t n) (a : tK T j = 46 ∨ tK T j = 258 ∨ tK T j = 91 ∨ tK T j = 63) (hn : 8 ≤ n) (hc : c2 = 2) (hj : j2 = j) : GP T c2 j2 t2 x := by
  subst hc
  subst hj
  exact ⟨fun h9 => absurd h9 (by decide), fun _ => ⟨_, _, _, (h.1 rfl).tr (Rc.go ((if_neg (by omega)).trans ((if_neg (by omega)).trans (if_pos hn))))⟩⟩
/-- the whole text as a path: 0 or the fault, and where it is -/
def PthR (T : tkT) (r p : Int) : Prop := ∃ s : pS, Rc T ([(0, 0)], 0, 0, 0, 0) s ∧ pF s ∧ r = s.2.1 ∧ ((r ≠ 0 ∧ p = tS T s.2.2.1) ∨ (r = 0 ∧ p = -1))
theorem PthR.det {p p2 r r2 : Int} (h : PthR T r p) (h2 : PthR T r2 p2) : r2 = r ∧ p2 = p := by
  obtain ⟨s, a, b, e1, h⟩ := h
  obtain ⟨s2, a2, b2, e2, h2⟩ := h2
  have e3 := a.det a2 b b2
  subst e3
  omega
theorem GPe.of (h : GP T c j t n) : GPe T c j := ⟨t, n, h⟩
theorem GPe.fin {r p : Int} (h : GPe T c j) (hk : c = 0 → tK T j = 259) (hr : r = c) (hp : (c ≠ 0 ∧ p = tS T j) ∨ (c = 0 ∧ p = -1)) : PthR T r p := by
  obtain ⟨t, n, h⟩ := h
  subst hr
  by_cases hc : r = 0
  · subst hc
    refine ⟨([], 0, j, t, n), (h.1 rfl).tr (Rc.go (if_pos (hk rfl))), Or.inl rfl, rfl, ?_⟩
    exact Or.inr ⟨rfl, by omega⟩
  · obtain ⟨k, t2, n2, h⟩ := h.2 hc
    exact ⟨_, h, Or.inr hc, rfl, Or.inl ⟨hc, by show p = tS T j; omega⟩⟩
theorem nuR.le (h : nuR T j c j2) : j ≤ j2 := by
  obtain ⟨q, hq, h⟩ := h
  omega
end PTHS
