/-! TEXTS AS TOKENS, DATA AS TOLD (of no machine) -/
def isLt (c : Int) : Prop := 97 ≤ c ∧ c ≤ 122
def isDg (c : Int) : Prop := 48 ≤ c ∧ c ≤ 57
def isBk (c : Int) : Prop := c = 32 ∨ c = 10
/-- n letters from b on as a number -/
def wv (B : Int → Int) (b : Int) : Nat → Int
  | 0 => 0
  | n + 1 => 32 * wv B b n + (B (b + n) - 96)
/-- behind i the next token lies from b to e, of kind k; v are the letters of a short word -/
def Tok (B : Int → Int) (i b e k v : Int) : Prop :=
  i ≤ b ∧ (∀ q, i ≤ q → q < b → isBk (B q)) ∧ ¬ isBk (B b) ∧
  ((B b = -1 ∧ k = 259 ∧ e = b) ∨
   (isLt (B b) ∧ k = 256 ∧ b < e ∧ (∀ q, b ≤ q → q < e → isLt (B q)) ∧ ¬ isLt (B e) ∧ (e - b ≤ 6 → v = wv B b (e - b).toNat)) ∨
   (isDg (B b) ∧ k = 257 ∧ b < e ∧ (∀ q, b ≤ q → q < e → isDg (B q)) ∧ ¬ isDg (B e)) ∨
   (B b = 46 ∧ B (b + 1) = 46 ∧ k = 258 ∧ e = b + 2) ∨
   (B b ≠ -1 ∧ ¬ isLt (B b) ∧ ¬ isDg (B b) ∧ ¬ (B b = 46 ∧ B (b + 1) = 46) ∧ k = B b ∧ e = b + 1))
/-- tokens of a text: kinds, starts, values, lengths, how many -/
abbrev tkT : Type := (Nat → Int32) × (Nat → Int32) × (Nat → Int32) × (Nat → Int32) × Int
def tK (T : tkT) (j : Int) : Int := (T.1 j.toNat).toInt
def tS (T : tkT) (j : Int) : Int := (T.2.1 j.toNat).toInt
def tV (T : tkT) (j : Int) : Int := (T.2.2.1 j.toNat).toInt
def tL (T : tkT) (j : Int) : Int := (T.2.2.2.1 j.toNat).toInt
def tm (T : tkT) : Int := T.2.2.2.2
/-- where the token j is looked for from -/
def tE (T : tkT) (j : Int) : Int := if j = 0 then 0 else tS T (j - 1) + tL T (j - 1)
def byt (B : Int → Int) : Prop := ∀ k, -1 ≤ B k ∧ B k ≤ 255
def tks1 (B : Int → Int) (T : tkT) (j : Int) : Prop := Tok B (tE T j) (tS T j) (tS T j + tL T j) (tK T j) (tV T j)
def tkSt (B : Int → Int) (T : tkT) : Prop := byt B ∧ 1 ≤ tm T ∧ tm T ≤ 401 ∧ ∀ j, 0 ≤ j → j < tm T → tks1 B T j ∧ (tK T j = 259 ↔ j = tm T - 1)
section TOKS
variable {B : Int → Int} {i b e k v b2 e2 k2 v2 j : Int} {T : tkT}
theorem Tok.b_eq (h : Tok B i b e k v) (h2 : Tok B i b2 e2 k2 v2) : b2 = b := by
  obtain ⟨l1, q1, n1, -⟩ := h
  obtain ⟨l2, q2, n2, -⟩ := h2
  rcases Int.lt_trichotomy b2 b with h | h | h
  · exact absurd (q1 b2 l2 h) n2
  · exact h
  · exact absurd (q2 b l1 h) n1
theorem run_eq {P : Int → Prop} (h1 : b < e) (p1 : ∀ q, b ≤ q → q < e → P (B q)) (n1 : ¬ P (B e)) (h2 : b < e2) (p2 : ∀ q, b ≤ q → q < e2 → P (B q)) (n2 : ¬ P (B e2)) : e2 = e := by
  rcases Int.lt_trichotomy e2 e with h | h | h
  · exact absurd (p1 e2 (by omega) h) n2
  · exact h
  · exact absurd (p2 e (by omega) h) n1
theorem Tok.det (hB : byt B) (h : Tok B i b e k v) (h2 : Tok B i b2 e2 k2 v2) : b2 = b ∧ e2 = e ∧ k2 = k ∧ (k = 256 → e - b ≤ 6 → v2 = v) := by
  have eb := h.b_eq h2
  subst eb
  obtain ⟨-, -, -, h⟩ := h
  obtain ⟨-, -, -, h2⟩ := h2
  rcases h with ⟨a1, a2, a3⟩ | ⟨a1, a2, a3, a4, a5, a6⟩ | ⟨a1, a2, a3, a4, a5⟩ | ⟨a1, a2, a3, a4⟩ | ⟨a1, a2, a3, a4, a5, a6⟩ <;>
  rcases h2 with ⟨c1, c2, c3⟩ | ⟨c1, c2, c3, c4, c5, c6⟩ | ⟨c1, c2, c3, c4, c5⟩ | ⟨c1, c2, c3, c4⟩ | ⟨c1, c2, c3, c4, c5, c6⟩
  · exact ⟨rfl, by omega, by omega, fun h => by omega⟩
  · exact absurd c1 (by unfold isLt; omega)
  · exact absurd c1 (by unfold isDg; omega)
  · omega
  · exact absurd a1 c1
  · exact absurd a1 (by unfold isLt; omega)
  · have ee := run_eq (P := isLt) a3 a4 a5 c3 c4 c5
    subst ee
    exact ⟨rfl, rfl, by omega, fun _ hl => (c6 hl).trans (a6 hl).symm⟩
  · unfold isLt at a1; unfold isDg at c1; omega
  · unfold isLt at a1; omega
  · exact absurd a1 c2
  · exact absurd a1 (by unfold isDg; omega)
  · unfold isLt at c1; unfold isDg at a1; omega
  · have ee := run_eq (P := isDg) a3 a4 a5 c3 c4 c5
    exact ⟨rfl, ee, by omega, fun h => by omega⟩
  · unfold isDg at a1; omega
  · exact absurd a1 c3
  · omega
  · unfold isLt at c1; omega
  · unfold isDg at c1; omega
  · exact ⟨rfl, by omega, by omega, fun h => by omega⟩
  · exact absurd ⟨a1, a2⟩ c4
  · exact absurd c1 a1
  · exact absurd c1 a2
  · exact absurd c1 a3
  · exact absurd ⟨c1, c2⟩ a4
  · exact ⟨rfl, by omega, by omega, fun hk => absurd (hB b2).2 (by omega)⟩
theorem tkSt.tok (h : tkSt B T) (h0 : 0 ≤ j) (h1 : j < tm T) : tks1 B T j := (h.2.2.2 j h0 h1).1
theorem tkSt.fin (h : tkSt B T) (h0 : 0 ≤ j) (h1 : j < tm T) (hk : tK T j ≠ 259) : j + 1 < tm T := by
  have h2 := (h.2.2.2 j h0 h1).2
  by_cases e : j = tm T - 1
  · exact absurd (h2.mpr e) hk
  · omega
end TOKS
/-! DATA -/
abbrev beg (k : Int) : Prop := k = 45 ∨ k = 257 ∨ k = 256 ∨ k = 91 ∨ k = 123
/-- a key and its colon: the fault (0: none), the token that is next or is wrong, the letters -/
def kyF (T : tkT) (m j : Int) (ks : List Int) : Int × Int × Int :=
  if m = 1 then (0, j, 0)
  else if tK T j ≠ 256 then (1, j, 0)
  else if 6 < tL T j then (2, j, 0)
  else if tV T j ∈ ks then (3, j, 0)
  else if tK T (j + 1) ≠ 58 then (1, j + 1, 0)
  else (0, j + 2, tV T j)
def nuF (T : tkT) (j : Int) : Int × Int := if tK T j ≠ 257 then (1, j) else if 3 < tL T j then (2, j) else (0, j + 1)
/-- m 0: a thing; 1, 2: what stands in a list, a map, whose keys so far are ks. d: how deep, j: the token, sz: things so far. Answers: the fault, the token that is next or is wrong, things -/
def pI (T : tkT) : Nat → Int → Int → Int → Int → List Int → Option (Int × Int × Int)
  | 0, _, _, _, _, _ => none
  | f + 1, m, d, j, sz, ks =>
    if m = 0 then
      if ¬ beg (tK T j) then some (1, j, sz)
      else if 60 ≤ sz ∨ 7 < d then some (2, j, sz)
      else if tK T j = 91 then (if tK T (j + 1) = 93 then some (0, j + 2, sz + 1) else pI T f 1 d (j + 1) (sz + 1) [])
      else if tK T j = 123 then (if tK T (j + 1) = 125 then some (0, j + 2, sz + 1) else pI T f 2 d (j + 1) (sz + 1) [])
      else if tK T j = 256 then (if 6 < tL T j then some (2, j, sz) else some (0, j + 1, sz + 1))
      else if tK T j = 45 then some ((nuF T (j + 1)).1, (nuF T (j + 1)).2, sz + 1)
      else some ((nuF T j).1, (nuF T j).2, sz + 1)
    else
      if (kyF T m j ks).1 ≠ 0 then some ((kyF T m j ks).1, (kyF T m j ks).2.1, sz)
      else match pI T f 0 (d + 1) (kyF T m j ks).2.1 sz [] with
        | none => none
        | some (c, j2, s2) =>
          if c ≠ 0 then some (c, j2, s2)
          else if tK T j2 = 44 then pI T f m d (j2 + 1) s2 (ks ++ [(kyF T m j ks).2.2])
          else if tK T j2 = (if m = 1 then 93 else 125) then some (0, j2 + 1, s2)
          else some (1, j2, s2)
def PIt (T : tkT) (m d j sz : Int) (ks : List Int) (r : Int × Int × Int) : Prop := ∃ f, pI T f m d j sz ks = some r
theorem pI_mono (T : tkT) (f : Nat) : ∀ (m d j sz : Int) (ks : List Int) (r : Int × Int × Int), pI T f m d j sz ks = some r → pI T (f + 1) m d j sz ks = some r := by
  induction f with
  | zero => intro m d j sz ks r h; exact absurd h (by rw [pI]; exact fun h9 => by cases h9)
  | succ f ih =>
    intro m d j sz ks r h
    rw [pI] at h
    rw [pI]
    by_cases hm : m = 0
    · rw [if_pos hm] at h ⊢
      by_cases h1 : ¬ beg (tK T j)
      · rw [if_pos h1] at h ⊢; exact h
      rw [if_neg h1] at h ⊢
      by_cases h2 : 60 ≤ sz ∨ 7 < d
      · rw [if_pos h2] at h ⊢; exact h
      rw [if_neg h2] at h ⊢
      by_cases h3 : tK T j = 91
      · rw [if_pos h3] at h ⊢
        by_cases h4 : tK T (j + 1) = 93
        · rw [if_pos h4] at h ⊢; exact h
        · rw [if_neg h4] at h ⊢; exact ih _ _ _ _ _ _ h
      rw [if_neg h3] at h ⊢
      by_cases h5 : tK T j = 123
      · rw [if_pos h5] at h ⊢
        by_cases h4 : tK T (j + 1) = 125
        · rw [if_pos h4] at h ⊢; exact h
        · rw [if_neg h4] at h ⊢; exact ih _ _ _ _ _ _ h
      rw [if_neg h5] at h ⊢
      exact h
    · rw [if_neg hm] at h ⊢
      by_cases h1 : (kyF T m j ks).1 ≠ 0
      · rw [if_pos h1] at h ⊢; exact h
      rw [if_neg h1] at h ⊢
      cases hp : pI T f 0 (d + 1) (kyF T m j ks).2.1 sz [] with
      | none => rw [hp] at h; cases h
      | some q =>
        rw [hp] at h
        rw [ih _ _ _ _ _ _ hp]
        obtain ⟨c, j2, s2⟩ := q
        dsimp only at h ⊢
        by_cases h2 : c ≠ 0
        · rw [if_pos h2] at h ⊢; exact h
        rw [if_neg h2] at h ⊢
        by_cases h3 : tK T j2 = 44
        · rw [if_pos h3] at h ⊢; exact ih _ _ _ _ _ _ h
        · rw [if_neg h3] at h ⊢; exact h
section PITS
variable {T : tkT} {m d j sz c c2 c3 c4 c5 j2 j3 j4 j5 z s2 s3 s4 op en mo v : Int} {ks : List Int} {r r2 : Int × Int × Int}
theorem pI_le {f g : Nat} (h : f ≤ g) (hp : pI T f m d j sz ks = some r) : pI T g m d j sz ks = some r := by
  induction h with
  | refl => exact hp
  | step _ ih => exact pI_mono _ _ _ _ _ _ _ _ ih
theorem PIt.det (h : PIt T m d j sz ks r) (h2 : PIt T m d j sz ks r2) : r2 = r := by
  obtain ⟨f, h⟩ := h
  obtain ⟨g, h2⟩ := h2
  have a := pI_le (Nat.le_max_left f g) h
  have b := pI_le (Nat.le_max_right f g) h2
  exact Option.some.inj (b.symm.trans a)
theorem PIt.no (h : ¬ beg (tK T j)) : PIt T 0 d j sz ks (1, j, sz) := ⟨1, by rw [pI, if_pos rfl, if_pos h]⟩
theorem PIt.much (h : beg (tK T j)) (h2 : 60 ≤ sz ∨ 7 < d) : PIt T 0 d j sz ks (2, j, sz) := ⟨1, by rw [pI, if_pos rfl, if_neg (fun h9 => h9 h), if_pos h2]⟩
theorem PIt.wordL (h : tK T j = 256) (h2 : ¬ (60 ≤ sz ∨ 7 < d)) (h3 : 6 < tL T j) : PIt T 0 d j sz ks (2, j, sz) := ⟨1, by rw [pI, if_pos rfl, if_neg (fun h9 => h9 (by unfold beg; omega)), if_neg h2, if_neg (by omega), if_neg (by omega), if_pos h, if_pos h3]⟩
theorem PIt.word (h : tK T j = 256) (h2 : ¬ (60 ≤ sz ∨ 7 < d)) (h3 : tL T j ≤ 6) : PIt T 0 d j sz ks (0, j + 1, sz + 1) := ⟨1, by rw [pI, if_pos rfl, if_neg (fun h9 => h9 (by unfold beg; omega)), if_neg h2, if_neg (by omega), if_neg (by omega), if_pos h, if_neg (by omega)]⟩
/-- a number, from its sign on -/
def nuR (T : tkT) (j c j2 : Int) : Prop := ∃ q, ((tK T j = 45 ∧ q = j + 1) ∨ (tK T j ≠ 45 ∧ q = j)) ∧ ((tK T q ≠ 257 ∧ c = 1 ∧ j2 = q) ∨ (tK T q = 257 ∧ 3 < tL T q ∧ c = 2 ∧ j2 = q) ∨ (tK T q = 257 ∧ tL T q ≤ 3 ∧ c = 0 ∧ j2 = q + 1))
theorem nuR_mk {q : Int} (h1 : (tK T j = 45 ∧ q = j + 1) ∨ (tK T j ≠ 45 ∧ q = j)) (h2 : (tK T q ≠ 257 ∧ c = 1 ∧ j2 = q) ∨ (tK T q = 257 ∧ 3 < tL T q ∧ c = 2 ∧ j2 = q) ∨ (tK T q = 257 ∧ tL T q ≤ 3 ∧ c = 0 ∧ j2 = q + 1)) : nuR T j c j2 := ⟨q, h1, h2⟩
theorem nuR_lt (h : nuR T j c j2) (hc : c = 0) : j < j2 := by
  obtain ⟨q, hq, hn⟩ := h
  omega
theorem nuF_eq {q : Int} (h : (tK T q ≠ 257 ∧ c = 1 ∧ j2 = q) ∨ (tK T q = 257 ∧ 3 < tL T q ∧ c = 2 ∧ j2 = q) ∨ (tK T q = 257 ∧ tL T q ≤ 3 ∧ c = 0 ∧ j2 = q + 1)) : nuF T q = (c, j2) := by
  unfold nuF
  rcases h with ⟨h, e1, e2⟩ | ⟨h, h1, e1, e2⟩ | ⟨h, h1, e1, e2⟩
  · rw [if_pos h, e1, e2]
  · rw [if_neg (fun h9 => h9 h), if_pos h1, e1, e2]
  · rw [if_neg (fun h9 => h9 h), if_neg (by omega), e1, e2]
theorem PIt.num (h : tK T j = 45 ∨ tK T j = 257) (h2 : ¬ (60 ≤ sz ∨ 7 < d)) (h3 : nuR T j c j2) : PIt T 0 d j sz ks (c, j2, sz + 1) := by
  obtain ⟨q, hq, hn⟩ := h3
  refine ⟨1, ?_⟩
  rw [pI, if_pos rfl, if_neg (fun h9 => h9 (by unfold beg; omega)), if_neg h2, if_neg (by omega), if_neg (by omega), if_neg (by omega)]
  rcases hq with ⟨e, eq⟩ | ⟨e, eq⟩
  · rw [if_pos e, ← eq, nuF_eq hn]
  · rw [if_neg e, ← eq, nuF_eq hn]
/-- brackets: in lists, in maps -/
def brk (m op en : Int) : Prop := (m = 1 ∧ op = 91 ∧ en = 93) ∨ (m = 2 ∧ op = 123 ∧ en = 125)
theorem PIt.empty (hb : brk m op en) (h : tK T j = op) (h2 : ¬ (60 ≤ sz ∨ 7 < d)) (h3 : tK T (j + 1) = en) : PIt T 0 d j sz ks (0, j + 2, sz + 1) := by
  refine ⟨1, ?_⟩
  rw [pI, if_pos rfl, if_neg (fun h9 => h9 (by unfold beg; unfold brk at hb; omega)), if_neg h2]
  rcases hb with ⟨e1, e2, e3⟩ | ⟨e1, e2, e3⟩
  · rw [if_pos (by omega), if_pos (by omega)]
  · rw [if_neg (by omega), if_pos (by omega), if_pos (by omega)]
theorem PIt.into (hb : brk m op en) (h : tK T j = op) (h2 : ¬ (60 ≤ sz ∨ 7 < d)) (h3 : tK T (j + 1) ≠ en) (h4 : PIt T m d (j + 1) (sz + 1) [] r) : PIt T 0 d j sz ks r := by
  obtain ⟨f, h4⟩ := h4
  refine ⟨f + 1, ?_⟩
  rw [pI, if_pos rfl, if_neg (fun h9 => h9 (by unfold beg; unfold brk at hb; omega)), if_neg h2]
  rcases hb with ⟨e1, e2, e3⟩ | ⟨e1, e2, e3⟩
  · subst e1; rw [if_pos (by omega), if_neg (by omega), h4]
  · subst e1; rw [if_neg (by omega), if_pos (by omega), if_neg (by omega), h4]
/-- a key, as its reader tells of it -/
def kyR (T : tkT) (m j : Int) (ks : List Int) (c j2 v : Int) : Prop := (c ≠ 0 ∧ (kyF T m j ks).1 = c ∧ (kyF T m j ks).2.1 = j2) ∨ (c = 0 ∧ kyF T m j ks = (0, j2, v))
theorem PIt.keyBad (hm : m ≠ 0) (h : kyR T m j ks c j2 v) (hc : c ≠ 0) : PIt T m d j sz ks (c, j2, sz) := by
  rcases h with ⟨-, e1, e2⟩ | ⟨e, -⟩
  · exact ⟨1, by rw [pI, if_neg hm, if_pos (by rw [e1]; exact hc), e1, e2]⟩
  · exact absurd e hc
theorem PIt.itemBad (hm : m ≠ 0) (h : kyR T m j ks 0 j2 v) (h2 : PIt T 0 (d + 1) j2 sz [] (c, j3, z)) (hc : c ≠ 0) : PIt T m d j sz ks (c, j3, z) := by
  rcases h with ⟨e, -⟩ | ⟨-, e⟩
  · exact absurd rfl e
  obtain ⟨f, h2⟩ := h2
  refine ⟨f + 1, ?_⟩
  rw [pI, if_neg hm, e, if_neg (fun h9 => h9 rfl)]
  dsimp only
  rw [h2]
  dsimp only
  rw [if_pos hc]
theorem PIt.next (hm : m ≠ 0) (h : kyR T m j ks 0 j2 v) (h2 : PIt T 0 (d + 1) j2 sz [] (0, j3, z)) (h3 : tK T j3 = 44) (h4 : PIt T m d (j3 + 1) z (ks ++ [v]) r) : PIt T m d j sz ks r := by
  rcases h with ⟨e, -⟩ | ⟨-, e⟩
  · exact absurd rfl e
  obtain ⟨f, h2⟩ := h2
  obtain ⟨g, h4⟩ := h4
  have a := pI_le (Nat.le_max_left f g) h2
  have b := pI_le (Nat.le_max_right f g) h4
  refine ⟨max f g + 1, ?_⟩
  rw [pI, if_neg hm, e, if_neg (fun h9 => h9 rfl)]
  dsimp only
  rw [a]
  dsimp only
  rw [if_neg (fun h9 => h9 rfl), if_pos h3]
  exact b
theorem PIt.stop (hb : brk m op en) (h : kyR T m j ks 0 j2 v) (h2 : PIt T 0 (d + 1) j2 sz [] (0, j3, z)) (h3 : tK T j3 = en) : PIt T m d j sz ks (0, j3 + 1, z) := by
  have hm : m ≠ 0 := by unfold brk at hb; omega
  have h5 : tK T j3 = (if m = 1 then 93 else 125) := by
    rcases hb with ⟨e1, e2, e3⟩ | ⟨e1, e2, e3⟩
    · rw [if_pos e1]; omega
    · rw [if_neg (by omega)]; omega
  rcases h with ⟨e, -⟩ | ⟨-, e⟩
  · exact absurd rfl e
  obtain ⟨f, h2⟩ := h2
  refine ⟨f + 1, ?_⟩
  rw [pI, if_neg hm, e, if_neg (fun h9 => h9 rfl)]
  dsimp only
  rw [h2]
  dsimp only
  rw [if_neg (fun h9 => h9 rfl), if_neg (by unfold brk at hb; omega), if_pos h5]
theorem PIt.bad (hb : brk m op en) (h : kyR T m j ks 0 j2 v) (h2 : PIt T 0 (d + 1) j2 sz [] (0, j3, z)) (h3 : tK T j3 ≠ en) (h4 : tK T j3 ≠ 44) : PIt T m d j sz ks (1, j3, z) := by
  have hm : m ≠ 0 := by unfold brk at hb; omega
  have h5 : ¬ tK T j3 = (if m = 1 then 93 else 125) := by
    rcases hb with ⟨e1, e2, e3⟩ | ⟨e1, e2, e3⟩
    · rw [if_pos e1]; omega
    · rw [if_neg (by omega)]; omega
  rcases h with ⟨e, -⟩ | ⟨-, e⟩
  · exact absurd rfl e
  obtain ⟨f, h2⟩ := h2
  refine ⟨f + 1, ?_⟩
  rw [pI, if_neg hm, e, if_neg (fun h9 => h9 rfl)]
  dsimp only
  rw [h2]
  dsimp only
  rw [if_neg (fun h9 => h9 rfl), if_neg h4, if_neg h5]
/-- the thing from the token j on: the fault, the token that is next or is wrong, and (without a fault) things then -/
def PTh (T : tkT) (d j sz c j2 s1 : Int) : Prop := ∃ z, PIt T 0 d j sz [] (c, j2, z) ∧ (c = 0 → z = s1)
theorem PTh.no {s1 : Int} (h : ¬ beg (tK T j)) (hc : c = 1) (hj : j2 = j) : PTh T d j sz c j2 s1 := ⟨sz, by rw [hc, hj]; exact PIt.no h, fun h9 => absurd h9 (by omega)⟩
theorem PTh.much {s1 : Int} (h : beg (tK T j)) (h2 : 60 ≤ sz ∨ 7 < d) (hc : c = 2) (hj : j2 = j) : PTh T d j sz c j2 s1 := ⟨sz, by rw [hc, hj]; exact PIt.much h h2, fun h9 => absurd h9 (by omega)⟩
theorem PTh.empty {s1 : Int} (hb : brk m op en) (h : tK T j = op) (h2 : ¬ (60 ≤ sz ∨ 7 < d)) (h3 : tK T (j + 1) = en) (hc : c = 0) (hj : j2 = j + 2) (hs : s1 = sz + 1) : PTh T d j sz c j2 s1 := ⟨sz + 1, by rw [hc, hj]; exact PIt.empty hb h h2 h3, fun _ => hs.symm⟩
/-- a list, a map is gone over: mo: whether more is to come -/
def lin (T : tkT) (m en d j sz : Int) (ks : List Int) (mo c2 j2 s2 : Int) : Prop :=
  (mo = 1 ∧ c2 = 0 ∧ ∀ r, PIt T m d j2 s2 ks r → PIt T 0 d j sz [] r) ∨
  (mo = 0 ∧ c2 ≠ 0 ∧ ∃ z, PIt T 0 d j sz [] (c2, j2, z)) ∨
  (mo = 0 ∧ c2 = 0 ∧ (tK T j2 = en → PIt T 0 d j sz [] (0, j2 + 1, s2)) ∧ (tK T j2 ≠ en → PIt T 0 d j sz [] (1, j2, s2)))
theorem lin.start (hb : brk m op en) (h : tK T j = op) (h2 : ¬ (60 ≤ sz ∨ 7 < d)) (hj : j2 = j + 1) (hs : s2 = sz + 1) (hm : (mo = 1 ∧ tK T j2 ≠ en) ∨ (mo = 0 ∧ tK T j2 = en)) : lin T m en d j sz [] mo 0 j2 s2 := by
  subst hj
  subst hs
  rcases hm with ⟨e, hm⟩ | ⟨e, hm⟩
  · exact Or.inl ⟨e, rfl, fun r hr => PIt.into hb h h2 hm hr⟩
  · refine Or.inr (Or.inr ⟨e, rfl, fun _ => ?_, fun h9 => absurd hm h9⟩)
    have := PIt.empty (ks := []) hb h h2 hm
    rwa [show j + 1 + 1 = j + 2 by omega]
theorem lin.key (hb : brk m op en) (h : lin T m en d j sz ks 1 c2 j2 s2) (hk : kyR T m j2 ks c3 j3 v) (hc : c3 ≠ 0) : lin T m en d j sz ks 0 c3 j3 s3 := by
  rcases h with ⟨-, -, h⟩ | ⟨h, -⟩ | ⟨h, -⟩
  · exact Or.inr (Or.inl ⟨rfl, hc, s2, h _ (PIt.keyBad (by unfold brk at hb; omega) hk hc)⟩)
  · exact absurd h (by decide)
  · exact absurd h (by decide)
theorem lin.item (hb : brk m op en) (h : lin T m en d j sz ks 1 c2 j2 s2) (hk : kyR T m j2 ks 0 j3 v) (ht : PIt T 0 (d + 1) j3 s2 [] (c4, j4, z)) (hz : c4 = 0 → z = s4) (hm : (mo = 1 ∧ c4 = 0 ∧ tK T j4 = 44 ∧ j5 = j4 + 1) ∨ (mo = 0 ∧ (c4 ≠ 0 ∨ tK T j4 ≠ 44) ∧ j5 = j4)) : lin T m en d j sz (ks ++ [v]) mo c4 j5 s4 := by
  have hm0 : m ≠ 0 := by unfold brk at hb; omega
  rcases h with ⟨-, -, h⟩ | ⟨h, -⟩ | ⟨h, -⟩
  · by_cases hc : c4 = 0
    · subst hc
      have hz := hz rfl
      subst hz
      rcases hm with ⟨e, -, h1, h2⟩ | ⟨e, h1, h2⟩
      · subst h2
        exact Or.inl ⟨e, rfl, fun r hr => h r (PIt.next hm0 hk ht h1 hr)⟩
      · subst h2
        have h1 := h1.resolve_left (fun h9 => h9 rfl)
        exact Or.inr (Or.inr ⟨e, rfl, fun h9 => h _ (PIt.stop hb hk ht h9), fun h9 => h _ (PIt.bad hb hk ht h9 h1)⟩)
    · rcases hm with ⟨e, h1, -⟩ | ⟨e, h1, h2⟩
      · exact absurd h1 hc
      · subst h2
        exact Or.inr (Or.inl ⟨e, hc, z, h _ (PIt.itemBad hm0 hk ht hc)⟩)
  · exact absurd h (by decide)
  · exact absurd h (by decide)
/-- the end of a list, a map -/
theorem lin.done (h : lin T m en d j sz ks 0 c2 j2 s2) (h1 : c2 ≠ 0 → c5 = c2 ∧ j5 = j2) (h2 : c2 = 0 → (tK T j2 = en ∧ c5 = 0 ∧ j5 = j2 + 1) ∨ (tK T j2 ≠ en ∧ c5 = 1 ∧ j5 = j2)) : PTh T d j sz c5 j5 s2 := by
  rcases h with ⟨h, -⟩ | ⟨-, hc, z, h⟩ | ⟨-, hc, h3, h4⟩
  · exact absurd h (by decide)
  · obtain ⟨e1, e2⟩ := h1 hc
    rw [e1, e2]
    exact ⟨z, h, fun h9 => absurd h9 hc⟩
  · rcases h2 hc with ⟨e, e1, e2⟩ | ⟨e, e1, e2⟩
    · rw [e1, e2]; exact ⟨s2, h3 e, fun _ => rfl⟩
    · rw [e1, e2]; exact ⟨s2, h4 e, fun _ => rfl⟩
theorem lin.c0 (h : lin T m en d j sz ks mo c2 j2 s2) : mo ≠ 0 → c2 = 0 := fun h9 => by
  rcases h with ⟨-, h, -⟩ | ⟨h, -⟩ | ⟨h, -⟩
  · exact h
  · exact absurd h h9
  · exact absurd h h9
theorem lin.ec (h : lin T m en d j sz ks mo c2 j2 s2) (e : c3 = c2) : lin T m en d j sz ks mo c3 j2 s2 := by rw [e]; exact h
theorem lin.em {mo2 : Int} (h : lin T m en d j sz ks mo c2 j2 s2) (e : mo2 = mo) : lin T m en d j sz ks mo2 c2 j2 s2 := by rw [e]; exact h
theorem kyR.le (h : kyR T m j ks c j2 v) (hc : c = 0) : j ≤ j2 := by
  rcases h with ⟨h, -⟩ | ⟨-, h⟩
  · exact absurd hc h
  unfold kyF at h
  split at h
  · have := congrArg (fun q => q.2.1) h; dsimp only at this; omega
  split at h
  · exact absurd (show (1 : Int) = 0 from congrArg Prod.fst h) (by decide)
  split at h
  · exact absurd (show (2 : Int) = 0 from congrArg Prod.fst h) (by decide)
  split at h
  · exact absurd (show (3 : Int) = 0 from congrArg Prod.fst h) (by decide)
  split at h
  · exact absurd (show (1 : Int) = 0 from congrArg Prod.fst h) (by decide)
  · have := congrArg (fun q => q.2.1) h; dsimp only at this; omega
theorem kyR.list : kyR T 1 j ks 0 j 0 := Or.inr ⟨rfl, by unfold kyF; rw [if_pos rfl]⟩
/-- a key, its colon not yet -/
def kR (T : tkT) (j : Int) (ks : List Int) (c j2 v : Int) : Prop := (tK T j ≠ 256 ∧ c = 1 ∧ j2 = j) ∨ (tK T j = 256 ∧ 6 < tL T j ∧ c = 2 ∧ j2 = j) ∨ (tK T j = 256 ∧ tL T j ≤ 6 ∧ tV T j ∈ ks ∧ c = 3 ∧ j2 = j) ∨ (tK T j = 256 ∧ tL T j ≤ 6 ∧ tV T j ∉ ks ∧ c = 0 ∧ j2 = j + 1 ∧ v = tV T j)
theorem kyR.mk2 (h : kR T j ks c3 j3 v) (h1 : c3 ≠ 0 → c4 = c3 ∧ j4 = j3) (h2 : c3 = 0 → (tK T j3 = 58 ∧ c4 = 0 ∧ j4 = j3 + 1) ∨ (tK T j3 ≠ 58 ∧ c4 = 1 ∧ j4 = j3)) : kyR T 2 j ks c4 j4 v := by
  rcases h with ⟨a1, a2, a3⟩ | ⟨a1, a2, a3, a4⟩ | ⟨a1, a2, a3, a4, a5⟩ | ⟨a1, a2, a3, a4, a5, a6⟩
  · obtain ⟨e1, e2⟩ := h1 (by omega)
    refine Or.inl ⟨by omega, ?_⟩
    unfold kyF
    rw [if_neg (by decide), if_pos a1]
    exact ⟨by dsimp only; omega, by dsimp only; omega⟩
  · obtain ⟨e1, e2⟩ := h1 (by omega)
    refine Or.inl ⟨by omega, ?_⟩
    unfold kyF
    rw [if_neg (by decide), if_neg (fun h9 => h9 a1), if_pos a2]
    exact ⟨by dsimp only; omega, by dsimp only; omega⟩
  · obtain ⟨e1, e2⟩ := h1 (by omega)
    refine Or.inl ⟨by omega, ?_⟩
    unfold kyF
    rw [if_neg (by decide), if_neg (fun h9 => h9 a1), if_neg (by omega), if_pos a3]
    exact ⟨by dsimp only; omega, by dsimp only; omega⟩
  · subst a5
    rcases h2 a4 with ⟨e0, e1, e2⟩ | ⟨e0, e1, e2⟩
    · refine Or.inr ⟨e1, ?_⟩
      unfold kyF
      rw [if_neg (by decide), if_neg (fun h9 => h9 a1), if_neg (by omega), if_neg a3, if_neg (fun h9 => h9 e0), e2, a6, show j + 1 + 1 = j + 2 by omega]
    · refine Or.inl ⟨by omega, ?_⟩
      unfold kyF
      rw [if_neg (by decide), if_neg (fun h9 => h9 a1), if_neg (by omega), if_neg a3, if_pos e0]
      exact ⟨by dsimp only; omega, by dsimp only; omega⟩
theorem PIt.wordC {s1 : Int} (h : tK T j = 256) (h2 : ¬ (60 ≤ sz ∨ 7 < d)) (h3 : (6 < tL T j ∧ c = 2 ∧ j2 = j) ∨ (tL T j ≤ 6 ∧ c = 0 ∧ j2 = j + 1)) (hs : s1 = sz + 1) : PTh T d j sz c j2 s1 := by
  rcases h3 with ⟨a, e1, e2⟩ | ⟨a, e1, e2⟩
  · rw [e1, e2]; exact ⟨sz, PIt.wordL h h2 a, fun h9 => absurd h9 (by decide)⟩
  · rw [e1, e2]; exact ⟨sz + 1, PIt.word h h2 a, fun _ => hs.symm⟩
theorem PIt.numC {s1 : Int} (h : tK T j = 45 ∨ tK T j = 257) (h2 : ¬ (60 ≤ sz ∨ 7 < d)) (h3 : nuR T j c j2) (hs : s1 = sz + 1) : PTh T d j sz c j2 s1 := ⟨sz + 1, PIt.num h h2 h3, fun _ => hs.symm⟩
/-- the whole text: 0 or the fault, and where it is -/
def TopR (T : tkT) (r p : Int) : Prop := ∃ c j z, PIt T 0 0 0 0 [] (c, j, z) ∧ ((c ≠ 0 ∧ r = c ∧ p = tS T j) ∨ (c = 0 ∧ tK T j = 259 ∧ r = 0 ∧ p = -1) ∨ (c = 0 ∧ tK T j ≠ 259 ∧ r = 1 ∧ p = tS T j))
theorem TopR.det {p p2 r r2 : Int} (h : TopR T r p) (h2 : TopR T r2 p2) : r2 = r ∧ p2 = p := by
  obtain ⟨c, j, z, h, h1⟩ := h
  obtain ⟨c2, j2, z2, h2, h3⟩ := h2
  have e := PIt.det h h2
  have e1 : c2 = c := congrArg Prod.fst e
  have e2 : j2 = j := congrArg (fun q => q.2.1) e
  subst e1
  subst e2
  omega
end PITS
