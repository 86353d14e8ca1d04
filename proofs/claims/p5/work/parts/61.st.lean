/-! A WORLD TOLD BY NUMBERS: cells by their places; kinds of objects; whose a cell is -/
abbrev sv : Type := Nat × Int
abbrev sc : Type := Nat × Nat × List sv
def sval (am : Nat → Nat) (v : sv) : Value := match v.1 with
  | 0 => .int (I v.2)
  | 1 => .ref (am v.2.toNat)
  | _ => .null
def cm (y : Nat → ClassId) (am : Nat → Nat) (c : sc) (e : va_E) : Prop := match c.1 with
  | 0 => e = .inr (c.2.1, c.2.2.map (sval am))
  | 1 => ∃ f : Nat → Int32, e = .inl (y 0, c.2.1, .inl f) ∧ ∀ q, 0 ≤ (f q).toInt ∧ (f q).toInt ≤ 3
  | 2 => ∃ f : Nat → Int64, e = .inl (y 1, c.2.1, .inr (.inl f))
  | 3 => ∃ f : Nat → Int32, e = .inl (y 2, c.2.1, .inl f) ∧ ∀ q, f q = 0 ∨ f q = 1
  | 4 => e = .inl (y 3, c.2.1, .inr (.inr (.inr (.inr (fun _ => none)))))
  | _ => e = .inl (y 4, c.2.1, .inr (.inr (.inr (.inr (fun _ => none)))))
def sfo (cs : List sc) (K : List Nat) (W : List (Nat × Nat)) (i k : Nat) (c : Nat × Int × Int) (v : sv) : Bool :=
  if c.1 = 0 then v.1 == 0 && decide (c.2.1 ≤ v.2) && decide (v.2 ≤ c.2.2) && decide (-2147483648 ≤ v.2) && decide (v.2 ≤ 2147483647)
  else if c.1 = 8 then v.1 == 2
  else if c.1 = 4 ∨ c.1 = 6 then v.1 == 1 && K[v.2.toNat]? == some c.2.1.toNat
  else v.1 == 1 && W[v.2.toNat]? == some (i, k) && (match cs[v.2.toNat]? with
    | some d => if c.1 = 2 then d.1 == 3 && d.2.1 == c.2.1.toNat else if c.1 = 3 then d.1 == 2 && d.2.1 == c.2.1.toNat else if c.1 = 5 then d.1 == (if c.2.1 = 4 then 4 else 5) && d.2.1 == c.2.2.toNat else d.1 == 1 && d.2.1 == c.2.1.toNat && (c.1 == 1 || decide (3 ≤ c.2.2))
    | none => false)
def sob (cs : List sc) (K : List Nat) (W : List (Nat × Nat)) (i : Nat) : Bool := match K[i]?, cs[i]? with
  | some 0, some _ => true
  | some κ, some d => W[i]? == some (i, 99) && d.1 == 0 && d.2.1 == (kt κ).1 && d.2.2.length == (kt κ).2.length && (List.range (kt κ).2.length).all (fun k => match (kt κ).2[k]?, d.2.2[k]? with
    | some c, some v => sfo cs K W i k c v
    | _, _ => false)
  | _, _ => false
def sidx (am : Nat → Nat) (n : Nat) (x : Nat) : Option Nat := (List.range n).find? (fun i => am i == x)
def sE (cs : List sc) (K : List Nat) (W : List (Nat × Nat)) (am : Nat → Nat) : th_E :=
  (fun x => match sidx am cs.length x with
    | some i => K.getD i 0
    | none => 0,
   fun x k => match sidx am cs.length x with
    | some i => (match cs[i]? with
      | some d => (match d.2.2[k]? with
        | some v => am v.2.toNat
        | none => 0)
      | none => 0)
    | none => 0,
   fun x => match sidx am cs.length x with
    | some i => (am (W.getD i (0, 0)).1, (W.getD i (0, 0)).2)
    | none => (x, 97))
section ST
variable {y : Nat → ClassId} {cs : List sc} {K : List Nat} {W : List (Nat × Nat)} {am : Nat → Nat} {σ : th_M} {n i j x : Nat}
theorem sidx_at (hd : ∀ i j, i < n → j < n → am i = am j → i = j) (hi : i < n) : sidx am n (am i) = some i := by
  unfold sidx
  cases h : (List.range n).find? (fun j => am j == am i) with
  | none =>
    have := List.find?_eq_none.mp h i (List.mem_range.mpr hi)
    simp at this
  | some j =>
    have h1 := List.find?_some h
    have h2 := List.mem_range.mp (List.mem_of_find?_eq_some h)
    rw [hd j i h2 hi (by simpa using h1)]
theorem sidx_of (h : sidx am n x = some i) : i < n ∧ am i = x := by
  unfold sidx at h
  exact ⟨List.mem_range.mp (List.mem_of_find?_eq_some h), by simpa using List.find?_some h⟩
theorem sym_fo (hd : ∀ i j, i < cs.length → j < cs.length → am i = am j → i = j) (hK : K.length = cs.length) (hW : W.length = cs.length)
    (hc : ∀ (i : Nat) (c : sc), cs[i]? = some c → ∃ e, σ (am i) = some e ∧ cm y am c e) {d : sc} {k : Nat} {c : Nat × Int × Int} {v : sv} (hi : i < cs.length) (hdi : cs[i]? = some d) (hv : d.2.2[k]? = some v) (h : sfo cs K W i k c v = true) : fo y (sE cs K W am) σ (am i) k c (sval am v) := by
  have hidx := sidx_at hd hi
  have hadk : ad (sE cs K W am) (am i) k = am v.2.toNat := by
    show (match sidx am cs.length (am i) with
      | some i => (match cs[i]? with
        | some d => (match d.2.2[k]? with
          | some v => am v.2.toNat
          | none => 0)
        | none => 0)
      | none => 0) = am v.2.toNat
    simp only [hidx, hdi, hv]
  obtain ⟨ca, lo, hi9⟩ := c
  unfold sfo at h
  simp only at h
  by_cases c0 : ca = 0
  · subst c0
    simp only [if_true, Bool.and_eq_true, beq_iff_eq, decide_eq_true_eq] at h
    obtain ⟨⟨⟨⟨h1, h2⟩, h3⟩, h4⟩, h5⟩ := h
    have e : sval am v = .int (I v.2) := by simp only [sval, h1]
    rw [e]
    exact fo_int ⟨h4, h5⟩ h2 h3
  rw [if_neg c0] at h
  by_cases c8 : ca = 8
  · rw [if_pos c8] at h
    have h1 : v.1 = 2 := by simpa using h
    have e : sval am v = .null := by simp only [sval, h1]
    rw [e]
    refine ⟨fun e9 => ?_, fun e9 => ?_, fun e9 => ?_, fun e9 => ?_, fun e9 => ?_, fun e9 => ?_, fun e9 => ?_, fun _ => Or.inl rfl⟩ <;> (simp only [isA] at e9; omega)
  rw [if_neg c8] at h
  by_cases c46 : ca = 4 ∨ ca = 6
  · rw [if_pos c46] at h
    simp only [Bool.and_eq_true, beq_iff_eq] at h
    obtain ⟨h1, h2⟩ := h
    have e : sval am v = .ref (am v.2.toNat) := by simp only [sval, h1]
    have hj : v.2.toNat < cs.length := by rw [← hK]; exact (List.getElem?_eq_some_iff.mp h2).1
    have hk : kd (sE cs K W am) (am v.2.toNat) = lo.toNat := by
      show (match sidx am cs.length (am v.2.toNat) with
        | some i => K.getD i 0
        | none => 0) = lo.toNat
      simp only [sidx_at hd hj, List.getD_eq_getElem?_getD, h2, Option.getD_some]
    rw [e]
    refine ⟨fun e9 => ?_, fun e9 => ?_, fun e9 => ?_, fun e9 => ?_, fun e9 => ⟨by rw [hadk], by rw [hadk]; exact hk⟩, fun e9 => ?_, fun e9 => ⟨_, rfl, hk⟩, fun e9 => ?_⟩ <;> (simp only [isA] at e9; omega)
  rw [if_neg c46] at h
  simp only [Bool.and_eq_true, beq_iff_eq] at h
  obtain ⟨⟨h1, h2⟩, h3⟩ := h
  have e : sval am v = .ref (am v.2.toNat) := by simp only [sval, h1]
  have hj : v.2.toNat < cs.length := by rw [← hW]; exact (List.getElem?_eq_some_iff.mp h2).1
  have ho : ow (sE cs K W am) (am v.2.toNat) = (am i, k) := by
    show (match sidx am cs.length (am v.2.toNat) with
      | some i => (am (W.getD i (0, 0)).1, (W.getD i (0, 0)).2)
      | none => (am v.2.toNat, 97)) = (am i, k)
    simp only [sidx_at hd hj, List.getD_eq_getElem?_getD, h2, Option.getD_some]
  rw [e]
  cases hq : cs[v.2.toNat]? with
  | none => rw [hq] at h3; cases h3
  | some d2 =>
    rw [hq] at h3
    simp only at h3
    obtain ⟨ex, hx, hm⟩ := hc _ _ hq
    have hv2 : Value.ref (am v.2.toNat) = .ref (ad (sE cs K W am) (am i) k) := by rw [hadk]
    by_cases c2 : ca = 2
    · rw [if_pos c2] at h3
      simp only [Bool.and_eq_true, beq_iff_eq] at h3
      obtain ⟨h4, h5⟩ := h3
      simp only [cm, h4] at hm
      obtain ⟨f, hf, hb⟩ := hm
      refine ⟨fun e9 => ?_, fun e9 => ?_, fun e9 => ⟨hv2, by rw [hadk]; exact ho, f, by rw [hadk, hx, hf, h5], hb⟩, fun e9 => ?_, fun e9 => ?_, fun e9 => ?_, fun e9 => ?_, fun e9 => ?_⟩ <;> (simp only [isA] at e9; omega)
    rw [if_neg c2] at h3
    by_cases c3 : ca = 3
    · rw [if_pos c3] at h3
      simp only [Bool.and_eq_true, beq_iff_eq] at h3
      obtain ⟨h4, h5⟩ := h3
      simp only [cm, h4] at hm
      obtain ⟨f, hf⟩ := hm
      refine ⟨fun e9 => ?_, fun e9 => ?_, fun e9 => ?_, fun e9 => ⟨hv2, by rw [hadk]; exact ho, f, by rw [hadk, hx, hf, h5]⟩, fun e9 => ?_, fun e9 => ?_, fun e9 => ?_, fun e9 => ?_⟩ <;> (simp only [isA] at e9; omega)
    rw [if_neg c3] at h3
    by_cases c5 : ca = 5
    · rw [if_pos c5] at h3
      simp only [Bool.and_eq_true, beq_iff_eq] at h3
      obtain ⟨h4, h5⟩ := h3
      by_cases l4 : lo = 4
      · rw [if_pos l4] at h4
        simp only [cm, h4] at hm
        refine ⟨fun e9 => ?_, fun e9 => ?_, fun e9 => ?_, fun e9 => ?_, fun e9 => ?_, fun e9 => ⟨hv2, by rw [hadk]; exact ho, fun _ => none, by rw [hadk, hx, hm, h5, if_pos l4], fun q x hn => by cases hn⟩, fun e9 => ?_, fun e9 => ?_⟩ <;> (simp only [isA] at e9; omega)
      · rw [if_neg l4] at h4
        simp only [cm, h4] at hm
        refine ⟨fun e9 => ?_, fun e9 => ?_, fun e9 => ?_, fun e9 => ?_, fun e9 => ?_, fun e9 => ⟨hv2, by rw [hadk]; exact ho, fun _ => none, by rw [hadk, hx, hm, h5, if_neg l4], fun q x hn => by cases hn⟩, fun e9 => ?_, fun e9 => ?_⟩ <;> (simp only [isA] at e9; omega)
    rw [if_neg c5] at h3
    simp only [Bool.and_eq_true, Bool.or_eq_true, beq_iff_eq, decide_eq_true_eq] at h3
    obtain ⟨⟨h4, h5⟩, h6⟩ := h3
    simp only [cm, h4] at hm
    obtain ⟨f, hf, hb⟩ := hm
    refine ⟨fun e9 => ?_, fun e9 => ⟨hv2, by rw [hadk]; exact ho, f, by rw [hadk, hx, hf, h5], fun q => ?_⟩, fun e9 => ?_, fun e9 => ?_, fun e9 => ?_, fun e9 => ?_, fun e9 => ?_, fun e9 => ?_⟩
    · omega
    · have hb9 := hb q
      simp only [isA] at e9
      have h8 : ca = 1 ∨ 3 ≤ hi9 := h6
      show el ca hi9 (f q).toInt
      refine ⟨fun h7 => ?_, fun h7 => ?_, fun h7 => ?_⟩ <;> omega
    all_goals (simp only [isA] at e9; omega)
theorem sym_ok (hd : ∀ i j, i < cs.length → j < cs.length → am i = am j → i = j) (hK : K.length = cs.length) (hW : W.length = cs.length)
    (hc : ∀ (i : Nat) (c : sc), cs[i]? = some c → ∃ e, σ (am i) = some e ∧ cm y am c e) (hs : (List.range cs.length).all (sob cs K W) = true) : ok y (sE cs K W am) σ := by
  intro a ha
  cases hx : sidx am cs.length a with
  | none =>
    exfalso
    apply ha
    show (match sidx am cs.length a with
      | some i => K.getD i 0
      | none => 0) = 0
    rw [hx]
  | some i =>
    obtain ⟨hi, e⟩ := sidx_of hx
    have hkd : kd (sE cs K W am) a = K.getD i 0 := by
      show (match sidx am cs.length a with
        | some i => K.getD i 0
        | none => 0) = K.getD i 0
      rw [hx]
    rw [hkd] at ha ⊢
    have h1 := List.all_eq_true.mp hs i (List.mem_range.mpr hi)
    have hKi : K[i]? = some (K.getD i 0) := by
      rw [List.getElem?_eq_getElem (by rw [hK]; exact hi), List.getD_eq_getElem?_getD, List.getElem?_eq_getElem (by rw [hK]; exact hi), Option.getD_some]
    obtain ⟨d, hdi⟩ : ∃ d, cs[i]? = some d := ⟨_, List.getElem?_eq_getElem hi⟩
    unfold sob at h1
    rw [hKi, hdi] at h1
    generalize K.getD i 0 = κ at ha h1
    cases κ with
    | zero => exact absurd rfl ha
    | succ κ =>
      simp only [Bool.and_eq_true, beq_iff_eq] at h1
      obtain ⟨⟨⟨⟨h2, h3⟩, h4⟩, h5⟩, h6⟩ := h1
      obtain ⟨ex, hσ, hm⟩ := hc i d hdi
      simp only [cm, h3] at hm
      rw [e] at hσ
      have ho : ow (sE cs K W am) a = (a, 99) := by
        show (match sidx am cs.length a with
          | some i => (am (W.getD i (0, 0)).1, (W.getD i (0, 0)).2)
          | none => (a, 97)) = (a, 99)
        rw [hx]
        simp only [List.getD_eq_getElem?_getD, h2, Option.getD_some, e]
      refine ⟨ho, fun x hxa => ?_, d.2.2.map (sval am), by rw [hσ, hm, h4], by rw [List.length_map]; exact h5, fun k c v hk hv => ?_⟩
      · cases hxi : sidx am cs.length x with
        | none =>
          exfalso
          have h9 : (ow (sE cs K W am) x).1 = x := by
            show (match sidx am cs.length x with
              | some i => (am (W.getD i (0, 0)).1, (W.getD i (0, 0)).2)
              | none => (x, 97)).1 = x
            rw [hxi]
          rw [h9] at hxa
          rw [hxa, hx] at hxi
          cases hxi
        | some j =>
          obtain ⟨hj, e2⟩ := sidx_of hxi
          obtain ⟨ey, hy, _⟩ := hc j _ (List.getElem?_eq_getElem hj)
          rw [← e2, hy]
          rfl
      · rw [List.getElem?_map] at hv
        cases hv2 : d.2.2[k]? with
        | none => rw [hv2] at hv; cases hv
        | some v2 =>
          rw [hv2] at hv
          have hv : sval am v2 = v := Option.some.inj hv
          rw [← hv, ← e]
          have hkl : k < (kt (κ + 1)).2.length := (List.getElem?_eq_some_iff.mp hk).1
          have h7 := List.all_eq_true.mp h6 k (List.mem_range.mpr hkl)
          rw [hk, hv2] at h7
          exact sym_fo hd hK hW hc hi hdi hv2 h7
end ST
/-- the map that a list tells -/
def thL (ws : va_W) : th_M := fun q => (ws.find? (fun p => p.1 == q)).map Prod.snd
theorem thL_at {A : Nat → Prop} {ws : va_W} {i a : Nat} {e : va_E} (hD : va_D A ws) (h : ws[i]? = some (a, e)) : thL ws a = some e := by
  unfold thL
  cases hf : ws.find? (fun p => p.1 == a) with
  | none =>
    have := List.find?_eq_none.mp hf (a, e) (List.mem_of_getElem? h)
    simp at this
  | some q =>
    have h1 : q.1 = a := by simpa using List.find?_some hf
    obtain ⟨j, hj⟩ := List.getElem?_of_mem (List.mem_of_find?_eq_some hf)
    have h2 := hD.1 j i q (a, e) hj h h1
    rw [h2, h] at hj
    have h3 := Option.some.inj hj
    rw [← h3]
    rfl
theorem thL_H {G : va_G} {b0 : Nat} {ws : va_W} {H : Heap} (hP : va_P G vwCl ws H) (hD : va_D (th_A b0) ws) (hb : b0 ≤ H.size) : th_H G b0 (thL ws) H := by
  refine ⟨hb, fun a e h => ?_⟩
  unfold thL at h
  cases hf : ws.find? (fun p => p.1 == a) with
  | none => rw [hf] at h; cases h
  | some q =>
    rw [hf] at h
    have h1 : q.1 = a := by simpa using List.find?_some hf
    have h2 : q.2 = e := Option.some.inj h
    obtain ⟨j, hj⟩ := List.getElem?_of_mem (List.mem_of_find?_eq_some hf)
    have h3 : q = (a, e) := by rw [← h1, ← h2]
    rw [h3] at hj
    exact ⟨hD.2 j _ hj, hP j _ hj⟩
/-- an empty MAP alone -/
theorem tr_one {f : Nat → Int32} (h : (f 3).toInt = 1) : tr f := by
  have hS : mS f 0 = 1 := h
  unfold tr
  rw [hS]
  refine ⟨⟨fun i h1 h2 => ?_, fun i h1 h2 _ R hR => ?_⟩, Int.le_refl _, by omega, fun j h1 h2 => ?_⟩
  · have e : i = 0 := by omega
    rw [e, hS]
    exact ⟨Int.le_refl _, Int.le_refl _, fun j h3 h4 => by omega⟩
  · have e : i = 0 := by omega
    rw [e, hS] at hR
    have hl := hR.len
    cases R with
    | nil => exact List.nodup_nil
    | cons r R => simp only [List.length_cons] at hl; omega
  · have e : j = 0 := by omega
    rw [e]
    exact (show (0 : Int) - 0 ≤ 7 by omega)
section SE
variable {y : Nat → ClassId} {cs : List sc} {K : List Nat} {W : List (Nat × Nat)} {am : Nat → Nat} {σ : th_M} {i k : Nat}
theorem sE_kd (hd : ∀ i j, i < cs.length → j < cs.length → am i = am j → i = j) (hi : i < cs.length) : kd (sE cs K W am) (am i) = K.getD i 0 := by
  show (match sidx am cs.length (am i) with
    | some i => K.getD i 0
    | none => 0) = K.getD i 0
  rw [sidx_at hd hi]
theorem sE_ow (hd : ∀ i j, i < cs.length → j < cs.length → am i = am j → i = j) (hi : i < cs.length) : ow (sE cs K W am) (am i) = (am (W.getD i (0, 0)).1, (W.getD i (0, 0)).2) := by
  show (match sidx am cs.length (am i) with
    | some i => (am (W.getD i (0, 0)).1, (W.getD i (0, 0)).2)
    | none => (am i, 97)) = _
  rw [sidx_at hd hi]
theorem sE_ad (hd : ∀ i j, i < cs.length → j < cs.length → am i = am j → i = j) {d : sc} {v : sv} (hi : cs[i]? = some d) (hv : d.2.2[k]? = some v) : ad (sE cs K W am) (am i) k = am v.2.toNat := by
  show (match sidx am cs.length (am i) with
    | some i => (match cs[i]? with
      | some d => (match d.2.2[k]? with
        | some v => am v.2.toNat
        | none => 0)
      | none => 0)
    | none => 0) = _
  simp only [sidx_at hd (List.getElem?_eq_some_iff.mp hi).1, hi, hv]
/-- the cells of a list are those of the symbols -/
def sw (y : Nat → ClassId) (am : Nat → Nat) : List sc → va_W → Prop
  | [], [] => True
  | c :: cs, w :: ws => cm y am c w.2 ∧ sw y am cs ws
  | _, _ => False
theorem sw_get : ∀ {cs : List sc} {ws : va_W}, sw y am cs ws → ws.length = cs.length ∧ ∀ (i : Nat) (c : sc), cs[i]? = some c → ∃ w, ws[i]? = some w ∧ cm y am c w.2
  | [], [], _ => ⟨rfl, fun i c h => by simp at h⟩
  | c :: cs, w :: ws, h => by
    obtain ⟨h1, h2⟩ := h
    obtain ⟨e, k⟩ := sw_get h2
    refine ⟨by simp [e], fun i d hi => ?_⟩
    cases i with
    | zero => exact ⟨w, rfl, by have := Option.some.inj hi; rw [← this]; exact h1⟩
    | succ i => exact k i d hi
  | [], _ :: _, h => h.elim
  | _ :: _, [], h => h.elim
def amw (ws : va_W) (i : Nat) : Nat := (ws.map Prod.fst).getD i 0
theorem amw_at {ws : va_W} {w : Nat × va_E} (h : ws[i]? = some w) : amw ws i = w.1 := by
  unfold amw
  rw [List.getD_eq_getElem?_getD, List.getElem?_map, h]
  rfl
theorem sw_ok {A : Nat → Prop} {ws : va_W} (hD : va_D A ws) (hw : sw y (amw ws) cs ws) : (∀ i j, i < cs.length → j < cs.length → amw ws i = amw ws j → i = j) ∧ ∀ (i : Nat) (c : sc), cs[i]? = some c → ∃ e, thL ws (amw ws i) = some e ∧ cm y (amw ws) c e := by
  obtain ⟨hl, hg⟩ := sw_get hw
  refine ⟨fun i j hi hj e => ?_, fun i c hc => ?_⟩
  · obtain ⟨p, hp⟩ : ∃ p, ws[i]? = some p := ⟨_, List.getElem?_eq_getElem (by rw [hl]; exact hi)⟩
    obtain ⟨q, hq⟩ : ∃ q, ws[j]? = some q := ⟨_, List.getElem?_eq_getElem (by rw [hl]; exact hj)⟩
    rw [amw_at hp, amw_at hq] at e
    exact hD.1 i j p q hp hq e
  · obtain ⟨w, h1, h2⟩ := hg i c hc
    refine ⟨w.2, ?_, h2⟩
    rw [amw_at h1]
    exact thL_at hD (i := i) h1
theorem upd03 {f : Nat → Int32} {i : Nat} {v : Int32} (h : ∀ q, 0 ≤ (f q).toInt ∧ (f q).toInt ≤ 3) (hv : 0 ≤ v.toInt ∧ v.toInt ≤ 3) : ∀ q, 0 ≤ (upd f i v q).toInt ∧ (upd f i v q).toInt ≤ 3 := fun q => by
  by_cases e : q = i
  · rw [e, upd_at]; exact hv
  · rw [upd_no _ _ e]; exact h q
end SE
