/-! WHAT EVERY OBJECT KEEPS: kinds of objects (kd), where their rows and parts lie (ad), whose an address is (ow). -/
abbrev th_E : Type := (Nat → Nat) × (Nat → Nat → Nat) × (Nat → Nat × Nat)
def kd (E : th_E) : Nat → Nat := E.1
def ad (E : th_E) : Nat → Nat → Nat := E.2.1
def ow (E : th_E) : Nat → Nat × Nat := E.2.2
/-- kinds: the number among vwCl, the fields: (0, lo, hi) a number; (1, n, _) a row of n ints; (7, n, hi) of such as are at most hi; (9, n, hi) of such from 0 to hi; (10, n, hi) from -1 to hi; (2, n, _) of truths; (3, n, _) of longs; (4, kind, _) a part; (5, kind, n) a row of n such or nothing; (6, kind, _) one that may be changed for another; (8, i, j) the row i or j or nothing -/
def kt (κ : Nat) : Nat × List (Nat × Int × Int) := match κ with
  | 1 => (9, [(1, 60, 0), (1, 60, 0), (1, 60, 0), (7, 60, 7), (0, 0, 60)])
  | 2 => (9, [(1, 128, 0), (1, 128, 0), (1, 128, 0), (1, 128, 0), (0, 0, 128)])
  | 3 => (8, [(1, 401, 0), (1, 401, 0), (1, 401, 0), (1, 401, 0), (0, 0, 401), (0, 0, 400), (0, -2147483648, 2147483647), (0, -2147483648, 2147483647), (0, -2147483648, 2147483647)])
  | 4 => (4, [(1, 8, 0), (1, 8, 0), (1, 8, 0), (0, 0, 8), (1, 128, 0), (0, 0, 128), (2, 200, 0), (1, 200, 0), (0, 0, 200), (1, 12, 0), (1, 12, 0), (1, 12, 0), (1, 12, 0), (0, 0, 12)])
  | 5 => (6, [(4, 1, 0), (5, 1, 40), (0, 0, 40), (1, 8, 0), (2, 8, 0), (0, 0, 8), (1, 3, 0)])
  | 6 => (0, [(4, 5, 0), (4, 2, 0), (4, 2, 0), (9, 128, 200)])
  | 7 => (3, [(4, 1, 0), (4, 1, 0), (10, 120, 59), (10, 120, 59), (0, 0, 120)])
  | 8 => (7, [(1, 1024, 0), (0, 0, 1024)])
  | 9 => (2, [(0, -2147483648, 2147483647)])
  | 10 => (1, [(4, 3, 0)])
  | 11 => (5, [(4, 3, 0)])
  | 12 => (10, [(1, 400, 0), (0, 0, 400), (0, -2147483648, 2147483647), (5, 4, 4), (6, 4, 0), (4, 3, 0), (4, 10, 0), (4, 11, 0), (4, 1, 0), (4, 5, 0), (4, 5, 0), (0, 0, 1), (4, 6, 0), (4, 7, 0), (4, 7, 0), (4, 8, 0), (3, 4, 0), (4, 9, 0)])
  | 13 => (11, [(0, -2147483648, 2147483647), (1, 240, 0), (1, 240, 0), (1, 16000, 0), (1, 3, 0), (0, 0, 4000), (1, 400, 0), (1, 1600, 0), (9, 4, 401), (8, 6, 7), (0, -2147483648, 2147483647), (0, -2147483648, 2147483647), (0, 0, 400), (0, -2147483648, 2147483647), (0, -2147483648, 2147483647), (0, -2147483648, 2147483647), (0, -2147483648, 2147483647), (0, -2147483648, 2147483647), (0, -2147483648, 2147483647), (0, -2147483648, 2147483647), (0, -2147483648, 2147483647), (0, -2147483648, 2147483647), (0, 0, 60), (2, 60, 0), (2, 60, 0), (0, 0, 1), (0, -2147483648, 2147483647), (0, -2147483648, 2147483647), (0, -2147483648, 2147483647), (0, -2147483648, 2147483647), (0, -2147483648, 2147483647), (1, 240, 0), (0, -2147483648, 2147483647), (0, -2147483648, 2147483647), (0, -2147483648, 2147483647), (1, 600, 0), (0, 0, 40), (1, 9600, 0), (0, 0, 1), (1, 260, 0), (1, 260, 0), (1, 2080, 0), (1, 260, 0), (1, 260, 0), (1, 1200, 0), (1, 2, 0), (1, 2, 0), (1, 10, 0), (0, 0, 1), (1, 2000, 0), (0, 0, 2000), (0, 0, 8), (9, 8, 59), (1, 8, 0), (1, 60, 0), (0, -2147483648, 2147483647), (0, -2147483648, 2147483647), (1, 240, 0), (0, 0, 1), (0, 0, 40), (0, 0, 8), (1, 240, 0), (1, 9600, 0), (9, 8, 59), (1, 8, 0), (1, 3, 0)])
  | _ => (99, [])
def kfl (κ k : Nat) : Option (Nat × Nat × Int × Int) := ((kt κ).2[k]?).map (fun c => ((kt κ).1, c))
theorem k1_0 : kfl 1 0 = some (9, 1, 60, 0) := rfl
theorem k1_1 : kfl 1 1 = some (9, 1, 60, 0) := rfl
theorem k1_2 : kfl 1 2 = some (9, 1, 60, 0) := rfl
theorem k1_3 : kfl 1 3 = some (9, 7, 60, 7) := rfl
theorem k1_4 : kfl 1 4 = some (9, 0, 0, 60) := rfl
theorem k2_0 : kfl 2 0 = some (9, 1, 128, 0) := rfl
theorem k2_1 : kfl 2 1 = some (9, 1, 128, 0) := rfl
theorem k2_2 : kfl 2 2 = some (9, 1, 128, 0) := rfl
theorem k2_3 : kfl 2 3 = some (9, 1, 128, 0) := rfl
theorem k2_4 : kfl 2 4 = some (9, 0, 0, 128) := rfl
theorem k3_0 : kfl 3 0 = some (8, 1, 401, 0) := rfl
theorem k3_1 : kfl 3 1 = some (8, 1, 401, 0) := rfl
theorem k3_2 : kfl 3 2 = some (8, 1, 401, 0) := rfl
theorem k3_3 : kfl 3 3 = some (8, 1, 401, 0) := rfl
theorem k3_4 : kfl 3 4 = some (8, 0, 0, 401) := rfl
theorem k3_5 : kfl 3 5 = some (8, 0, 0, 400) := rfl
theorem k3_6 : kfl 3 6 = some (8, 0, -2147483648, 2147483647) := rfl
theorem k3_7 : kfl 3 7 = some (8, 0, -2147483648, 2147483647) := rfl
theorem k3_8 : kfl 3 8 = some (8, 0, -2147483648, 2147483647) := rfl
theorem k4_0 : kfl 4 0 = some (4, 1, 8, 0) := rfl
theorem k4_1 : kfl 4 1 = some (4, 1, 8, 0) := rfl
theorem k4_2 : kfl 4 2 = some (4, 1, 8, 0) := rfl
theorem k4_3 : kfl 4 3 = some (4, 0, 0, 8) := rfl
theorem k4_4 : kfl 4 4 = some (4, 1, 128, 0) := rfl
theorem k4_5 : kfl 4 5 = some (4, 0, 0, 128) := rfl
theorem k4_6 : kfl 4 6 = some (4, 2, 200, 0) := rfl
theorem k4_7 : kfl 4 7 = some (4, 1, 200, 0) := rfl
theorem k4_8 : kfl 4 8 = some (4, 0, 0, 200) := rfl
theorem k4_9 : kfl 4 9 = some (4, 1, 12, 0) := rfl
theorem k4_10 : kfl 4 10 = some (4, 1, 12, 0) := rfl
theorem k4_11 : kfl 4 11 = some (4, 1, 12, 0) := rfl
theorem k4_12 : kfl 4 12 = some (4, 1, 12, 0) := rfl
theorem k4_13 : kfl 4 13 = some (4, 0, 0, 12) := rfl
theorem k5_0 : kfl 5 0 = some (6, 4, 1, 0) := rfl
theorem k5_1 : kfl 5 1 = some (6, 5, 1, 40) := rfl
theorem k5_2 : kfl 5 2 = some (6, 0, 0, 40) := rfl
theorem k5_3 : kfl 5 3 = some (6, 1, 8, 0) := rfl
theorem k5_4 : kfl 5 4 = some (6, 2, 8, 0) := rfl
theorem k5_5 : kfl 5 5 = some (6, 0, 0, 8) := rfl
theorem k5_6 : kfl 5 6 = some (6, 1, 3, 0) := rfl
theorem k6_0 : kfl 6 0 = some (0, 4, 5, 0) := rfl
theorem k6_1 : kfl 6 1 = some (0, 4, 2, 0) := rfl
theorem k6_2 : kfl 6 2 = some (0, 4, 2, 0) := rfl
theorem k6_3 : kfl 6 3 = some (0, 9, 128, 200) := rfl
theorem k7_0 : kfl 7 0 = some (3, 4, 1, 0) := rfl
theorem k7_1 : kfl 7 1 = some (3, 4, 1, 0) := rfl
theorem k7_2 : kfl 7 2 = some (3, 10, 120, 59) := rfl
theorem k7_3 : kfl 7 3 = some (3, 10, 120, 59) := rfl
theorem k7_4 : kfl 7 4 = some (3, 0, 0, 120) := rfl
theorem k8_0 : kfl 8 0 = some (7, 1, 1024, 0) := rfl
theorem k8_1 : kfl 8 1 = some (7, 0, 0, 1024) := rfl
theorem k9_0 : kfl 9 0 = some (2, 0, -2147483648, 2147483647) := rfl
theorem k10_0 : kfl 10 0 = some (1, 4, 3, 0) := rfl
theorem k11_0 : kfl 11 0 = some (5, 4, 3, 0) := rfl
theorem k12_0 : kfl 12 0 = some (10, 1, 400, 0) := rfl
theorem k12_1 : kfl 12 1 = some (10, 0, 0, 400) := rfl
theorem k12_2 : kfl 12 2 = some (10, 0, -2147483648, 2147483647) := rfl
theorem k12_3 : kfl 12 3 = some (10, 5, 4, 4) := rfl
theorem k12_4 : kfl 12 4 = some (10, 6, 4, 0) := rfl
theorem k12_5 : kfl 12 5 = some (10, 4, 3, 0) := rfl
theorem k12_6 : kfl 12 6 = some (10, 4, 10, 0) := rfl
theorem k12_7 : kfl 12 7 = some (10, 4, 11, 0) := rfl
theorem k12_8 : kfl 12 8 = some (10, 4, 1, 0) := rfl
theorem k12_9 : kfl 12 9 = some (10, 4, 5, 0) := rfl
theorem k12_10 : kfl 12 10 = some (10, 4, 5, 0) := rfl
theorem k12_11 : kfl 12 11 = some (10, 0, 0, 1) := rfl
theorem k12_12 : kfl 12 12 = some (10, 4, 6, 0) := rfl
theorem k12_13 : kfl 12 13 = some (10, 4, 7, 0) := rfl
theorem k12_14 : kfl 12 14 = some (10, 4, 7, 0) := rfl
theorem k12_15 : kfl 12 15 = some (10, 4, 8, 0) := rfl
theorem k12_16 : kfl 12 16 = some (10, 3, 4, 0) := rfl
theorem k12_17 : kfl 12 17 = some (10, 4, 9, 0) := rfl
theorem k13_0 : kfl 13 0 = some (11, 0, -2147483648, 2147483647) := rfl
theorem k13_1 : kfl 13 1 = some (11, 1, 240, 0) := rfl
theorem k13_2 : kfl 13 2 = some (11, 1, 240, 0) := rfl
theorem k13_3 : kfl 13 3 = some (11, 1, 16000, 0) := rfl
theorem k13_4 : kfl 13 4 = some (11, 1, 3, 0) := rfl
theorem k13_5 : kfl 13 5 = some (11, 0, 0, 4000) := rfl
theorem k13_6 : kfl 13 6 = some (11, 1, 400, 0) := rfl
theorem k13_7 : kfl 13 7 = some (11, 1, 1600, 0) := rfl
theorem k13_8 : kfl 13 8 = some (11, 9, 4, 401) := rfl
theorem k13_9 : kfl 13 9 = some (11, 8, 6, 7) := rfl
theorem k13_10 : kfl 13 10 = some (11, 0, -2147483648, 2147483647) := rfl
theorem k13_11 : kfl 13 11 = some (11, 0, -2147483648, 2147483647) := rfl
theorem k13_12 : kfl 13 12 = some (11, 0, 0, 400) := rfl
theorem k13_13 : kfl 13 13 = some (11, 0, -2147483648, 2147483647) := rfl
theorem k13_14 : kfl 13 14 = some (11, 0, -2147483648, 2147483647) := rfl
theorem k13_15 : kfl 13 15 = some (11, 0, -2147483648, 2147483647) := rfl
theorem k13_16 : kfl 13 16 = some (11, 0, -2147483648, 2147483647) := rfl
theorem k13_17 : kfl 13 17 = some (11, 0, -2147483648, 2147483647) := rfl
theorem k13_18 : kfl 13 18 = some (11, 0, -2147483648, 2147483647) := rfl
theorem k13_19 : kfl 13 19 = some (11, 0, -2147483648, 2147483647) := rfl
theorem k13_20 : kfl 13 20 = some (11, 0, -2147483648, 2147483647) := rfl
theorem k13_21 : kfl 13 21 = some (11, 0, -2147483648, 2147483647) := rfl
theorem k13_22 : kfl 13 22 = some (11, 0, 0, 60) := rfl
theorem k13_23 : kfl 13 23 = some (11, 2, 60, 0) := rfl
theorem k13_24 : kfl 13 24 = some (11, 2, 60, 0) := rfl
theorem k13_25 : kfl 13 25 = some (11, 0, 0, 1) := rfl
theorem k13_26 : kfl 13 26 = some (11, 0, -2147483648, 2147483647) := rfl
theorem k13_27 : kfl 13 27 = some (11, 0, -2147483648, 2147483647) := rfl
theorem k13_28 : kfl 13 28 = some (11, 0, -2147483648, 2147483647) := rfl
theorem k13_29 : kfl 13 29 = some (11, 0, -2147483648, 2147483647) := rfl
theorem k13_30 : kfl 13 30 = some (11, 0, -2147483648, 2147483647) := rfl
theorem k13_31 : kfl 13 31 = some (11, 1, 240, 0) := rfl
theorem k13_32 : kfl 13 32 = some (11, 0, -2147483648, 2147483647) := rfl
theorem k13_33 : kfl 13 33 = some (11, 0, -2147483648, 2147483647) := rfl
theorem k13_34 : kfl 13 34 = some (11, 0, -2147483648, 2147483647) := rfl
theorem k13_35 : kfl 13 35 = some (11, 1, 600, 0) := rfl
theorem k13_36 : kfl 13 36 = some (11, 0, 0, 40) := rfl
theorem k13_37 : kfl 13 37 = some (11, 1, 9600, 0) := rfl
theorem k13_38 : kfl 13 38 = some (11, 0, 0, 1) := rfl
theorem k13_39 : kfl 13 39 = some (11, 1, 260, 0) := rfl
theorem k13_40 : kfl 13 40 = some (11, 1, 260, 0) := rfl
theorem k13_41 : kfl 13 41 = some (11, 1, 2080, 0) := rfl
theorem k13_42 : kfl 13 42 = some (11, 1, 260, 0) := rfl
theorem k13_43 : kfl 13 43 = some (11, 1, 260, 0) := rfl
theorem k13_44 : kfl 13 44 = some (11, 1, 1200, 0) := rfl
theorem k13_45 : kfl 13 45 = some (11, 1, 2, 0) := rfl
theorem k13_46 : kfl 13 46 = some (11, 1, 2, 0) := rfl
theorem k13_47 : kfl 13 47 = some (11, 1, 10, 0) := rfl
theorem k13_48 : kfl 13 48 = some (11, 0, 0, 1) := rfl
theorem k13_49 : kfl 13 49 = some (11, 1, 2000, 0) := rfl
theorem k13_50 : kfl 13 50 = some (11, 0, 0, 2000) := rfl
theorem k13_51 : kfl 13 51 = some (11, 0, 0, 8) := rfl
theorem k13_52 : kfl 13 52 = some (11, 9, 8, 59) := rfl
theorem k13_53 : kfl 13 53 = some (11, 1, 8, 0) := rfl
theorem k13_54 : kfl 13 54 = some (11, 1, 60, 0) := rfl
theorem k13_55 : kfl 13 55 = some (11, 0, -2147483648, 2147483647) := rfl
theorem k13_56 : kfl 13 56 = some (11, 0, -2147483648, 2147483647) := rfl
theorem k13_57 : kfl 13 57 = some (11, 1, 240, 0) := rfl
theorem k13_58 : kfl 13 58 = some (11, 0, 0, 1) := rfl
theorem k13_59 : kfl 13 59 = some (11, 0, 0, 40) := rfl
theorem k13_60 : kfl 13 60 = some (11, 0, 0, 8) := rfl
theorem k13_61 : kfl 13 61 = some (11, 1, 240, 0) := rfl
theorem k13_62 : kfl 13 62 = some (11, 1, 9600, 0) := rfl
theorem k13_63 : kfl 13 63 = some (11, 9, 8, 59) := rfl
theorem k13_64 : kfl 13 64 = some (11, 1, 8, 0) := rfl
theorem k13_65 : kfl 13 65 = some (11, 1, 3, 0) := rfl
theorem kt_len (κ : Nat) : (kt κ).2.length ≤ 66 := by unfold kt; split <;> decide
theorem kfl_of {κ k ci : Nat} {c : Nat × Int × Int} (h : kfl κ k = some (ci, c)) : (kt κ).1 = ci ∧ (kt κ).2[k]? = some c := by
  unfold kfl at h
  cases hq : (kt κ).2[k]? with
  | none => rw [hq] at h; cases h
  | some x => rw [hq] at h; have h := Option.some.inj h; exact ⟨(Prod.mk.inj h).1, congrArg some (Prod.mk.inj h).2⟩
def gI (σ : th_M) (a k : Nat) : Int := match σ a with
  | some (.inr (_, fs)) => (match fs[k]? with
    | some (.int x) => x.toInt
    | _ => 0)
  | _ => 0
def aF (σ : th_M) (b : Nat) : Nat → Int32 := match σ b with
  | some (.inl (_, _, .inl f)) => f
  | _ => fun _ => 0
def el (cd : Nat) (hi : Int) (x : Int) : Prop := (cd = 7 → x ≤ hi) ∧ (cd = 9 → 0 ≤ x ∧ x ≤ hi) ∧ (cd = 10 → -1 ≤ x ∧ x ≤ hi)
def isA (cd : Nat) : Prop := cd = 1 ∨ cd = 7 ∨ cd = 9 ∨ cd = 10
/-- a field of the object at a -/
def fo (y : Nat → ClassId) (E : th_E) (σ : th_M) (a k : Nat) (c : Nat × Int × Int) (v : Value) : Prop :=
  (c.1 = 0 → ∃ z : Int, v = .int (I z) ∧ rng z ∧ c.2.1 ≤ z ∧ z ≤ c.2.2) ∧
  (isA c.1 → v = .ref (ad E a k) ∧ ow E (ad E a k) = (a, k) ∧ ∃ f : Nat → Int32, σ (ad E a k) = some (.inl (y 0, c.2.1.toNat, .inl f)) ∧ ∀ q, el c.1 c.2.2 (f q).toInt) ∧
  (c.1 = 2 → v = .ref (ad E a k) ∧ ow E (ad E a k) = (a, k) ∧ ∃ f : Nat → Int32, σ (ad E a k) = some (.inl (y 2, c.2.1.toNat, .inl f)) ∧ ∀ q, f q = 0 ∨ f q = 1) ∧
  (c.1 = 3 → v = .ref (ad E a k) ∧ ow E (ad E a k) = (a, k) ∧ ∃ f : Nat → Int64, σ (ad E a k) = some (.inl (y 1, c.2.1.toNat, .inr (.inl f)))) ∧
  (c.1 = 4 → v = .ref (ad E a k) ∧ kd E (ad E a k) = c.2.1.toNat) ∧
  (c.1 = 5 → v = .ref (ad E a k) ∧ ow E (ad E a k) = (a, k) ∧ ∃ f : Nat → Option Nat, σ (ad E a k) = some (.inl ((if c.2.1 = 4 then y 3 else y 4), c.2.2.toNat, .inr (.inr (.inr (.inr f))))) ∧ ∀ q x, f q = some x → kd E x = c.2.1.toNat) ∧
  (c.1 = 6 → ∃ b : Nat, v = .ref b ∧ kd E b = c.2.1.toNat) ∧
  (c.1 = 8 → v = .null ∨ v = .ref (ad E a c.2.1.toNat) ∨ v = .ref (ad E a c.2.2.toNat))
def ro (y : Nat → ClassId) (E : th_E) (σ : th_M) (a κ : Nat) : Prop :=
  ow E a = (a, 99) ∧ (∀ x, (ow E x).1 = a → (σ x).isSome = true) ∧ ∃ fs : List Value, σ a = some (.inr ((kt κ).1, fs)) ∧ fs.length = (kt κ).2.length ∧ ∀ (k : Nat) (c : Nat × Int × Int) (v : Value), (kt κ).2[k]? = some c → fs[k]? = some v → fo y E σ a k c v
theorem th_up_is {σ : th_M} {b x : Nat} {e : va_E} (h : (σ x).isSome = true) : (th_up σ b e x).isSome = true := by
  by_cases hx : x = b
  · subst hx; rw [th_up_at]; rfl
  · rw [th_up_ne _ _ hx]; exact h
def ok (y : Nat → ClassId) (E : th_E) (σ : th_M) : Prop := ∀ a, kd E a ≠ 0 → ro y E σ a (kd E a)
/-- nothing that is an object's changed but what objects of the kinds S have -/
def fr (S : List Nat) (E : th_E) (σ σ1 : th_M) : Prop := ∀ x, kd E (ow E x).1 ≠ 0 → kd E (ow E x).1 ∉ S → σ1 x = σ x
theorem fr.rf {S : List Nat} {E : th_E} {σ : th_M} : fr S E σ σ := fun _ _ _ => rfl
theorem fr.tr {S : List Nat} {E : th_E} {σ σ1 σ2 : th_M} (h : fr S E σ σ1) (h2 : fr S E σ1 σ2) : fr S E σ σ2 := fun x h0 hx => (h2 x h0 hx).trans (h x h0 hx)
theorem fr.up {S S2 : List Nat} {E : th_E} {σ σ1 : th_M} (h : fr S E σ σ1) (hs : ∀ k ∈ S, k ∈ S2) : fr S2 E σ σ1 := fun x h0 hx => h x h0 (fun hk => hx (hs _ hk))
theorem fr.tu {S S2 : List Nat} {E : th_E} {σ σ1 σ2 : th_M} (h : fr S2 E σ σ1) (h2 : fr S E σ1 σ2) (hs : ∀ k ∈ S, k ∈ S2) : fr S2 E σ σ2 := h.tr (h2.up hs)
/-- more objects: those that were stay -/
def ext (E E1 : th_E) : Prop := (∀ a, kd E a ≠ 0 → kd E1 a = kd E a ∧ ∀ k, ad E1 a k = ad E a k) ∧ (∀ x, kd E (ow E x).1 ≠ 0 → ow E1 x = ow E x)
theorem ext.rf {E : th_E} : ext E E := ⟨fun _ _ => ⟨rfl, fun _ => rfl⟩, fun _ _ => rfl⟩
theorem ext.kd2 {E E1 : th_E} (h : ext E E1) {a κ : Nat} (ha : kd E a = κ) (h0 : κ ≠ 0) : kd E1 a = κ := (h.1 a (by rw [ha]; exact h0)).1.trans ha
theorem ext.ad2 {E E1 : th_E} (h : ext E E1) {a κ : Nat} (ha : kd E a = κ) (h0 : κ ≠ 0) (k : Nat) : ad E1 a k = ad E a k := (h.1 a (by rw [ha]; exact h0)).2 k
theorem ext.tr {E E1 E2 : th_E} (h : ext E E1) (h2 : ext E1 E2) : ext E E2 := by
  refine ⟨fun a ha => ?_, fun x hx => ?_⟩
  · have e1 := h.1 a ha
    have e2 := h2.1 a (by rw [e1.1]; exact ha)
    exact ⟨e2.1.trans e1.1, fun k => (e2.2 k).trans (e1.2 k)⟩
  · have e1 := h.2 x hx
    exact (h2.2 x (by rw [e1, (h.1 _ hx).1]; exact hx)).trans e1
theorem fr.ex {S S2 : List Nat} {E E1 : th_E} {σ σ1 σ2 : th_M} (h : fr S2 E σ σ1) (hX : ext E E1) (h2 : fr S E1 σ1 σ2) (hs : ∀ k ∈ S, k ∈ S2) : fr S2 E σ σ2 := by
  intro x h0 hx
  have e1 := hX.2 x h0
  have e2 := (hX.1 _ h0).1
  refine (h2 x (by rw [e1, e2]; exact h0) (fun hk => hx (hs _ ?_))).trans (h x h0 hx)
  rw [e1, e2] at hk
  exact hk
section OK
variable {y : Nat → ClassId} {E : th_E} {σ σ1 : th_M} {a κ k ci cd : Nat} {lo hi : Int}
theorem fo.kept {c : Nat × Int × Int} {v : Value} (h : fo y E σ a k c v) (hk : ow E (ad E a k) = (a, k) → σ1 (ad E a k) = σ (ad E a k)) : fo y E σ1 a k c v := by
  obtain ⟨h0, h1, h2, h3, h4, h5, h6, h8⟩ := h
  refine ⟨h0, fun e => ?_, fun e => ?_, fun e => ?_, h4, fun e => ?_, h6, h8⟩
  · obtain ⟨q0, q1, f, q2, q3⟩ := h1 e; exact ⟨q0, q1, f, (hk q1).trans q2, q3⟩
  · obtain ⟨q0, q1, f, q2, q3⟩ := h2 e; exact ⟨q0, q1, f, (hk q1).trans q2, q3⟩
  · obtain ⟨q0, q1, f, q2⟩ := h3 e; exact ⟨q0, q1, f, (hk q1).trans q2⟩
  · obtain ⟨q0, q1, f, q2, q3⟩ := h5 e; exact ⟨q0, q1, f, (hk q1).trans q2, q3⟩
theorem ok.loc (h : ok y E σ) (hs : ∀ x, (ow E x).1 ≠ a → σ1 x = σ x) (hr : kd E a ≠ 0 → ro y E σ1 a (kd E a)) : ok y E σ1 := by
  intro b hb
  by_cases e : b = a
  · subst e; exact hr hb
  · obtain ⟨w, dm, fs, q1, q2, q3⟩ := h b hb
    refine ⟨w, fun x hx => by rw [hs x (by rw [hx]; exact e)]; exact dm x hx, fs, (hs b (by rw [w]; exact e)).trans q1, q2, fun k c v hc hv => (q3 k c v hc hv).kept (fun o => hs _ (by rw [o]; exact e))⟩
theorem fr.loc {S : List Nat} (hs : ∀ x, (ow E x).1 ≠ a → σ1 x = σ x) (ha : kd E a ∈ S) : fr S E σ σ1 := fun x _ hx => hs x (fun e => hx (by rw [e]; exact ha))
/-- the cell of an object and the field k of it -/
theorem ok.fld {c : Nat × Int × Int} (h : ok y E σ) (ha : kd E a = κ) (h0 : κ ≠ 0) (hq : kfl κ k = some (ci, c)) : ow E a = (a, 99) ∧ ∃ (fs : List Value) (v : Value), σ a = some (.inr (ci, fs)) ∧ fs.length = (kt κ).2.length ∧ fs[k]? = some v ∧ k < fs.length ∧ fo y E σ a k c v := by
  obtain ⟨w, dm, fs, q1, q2, q3⟩ := h a (by rw [ha]; exact h0)
  rw [ha] at q1 q2 q3
  obtain ⟨e1, e2⟩ := kfl_of hq
  have hl : k < fs.length := by rw [q2]; exact (List.getElem?_eq_some_iff.mp e2).1
  exact ⟨w, fs, fs[k], by rw [q1, e1], q2, List.getElem?_eq_getElem hl, hl, q3 k c _ e2 (List.getElem?_eq_getElem hl)⟩
theorem ok.dm (h : ok y E σ) (ha : kd E a = κ) (h0 : κ ≠ 0) (x : Nat) (hx : (ow E x).1 = a) : (σ x).isSome = true := (h a (by rw [ha]; exact h0)).2.1 x hx
theorem ok.ow0 (h : ok y E σ) (ha : kd E a = κ) (h0 : κ ≠ 0) : ow E a = (a, 99) := (h a (by rw [ha]; exact h0)).1
theorem gI_of {fs : List Value} {z : Int} (h : σ a = some (.inr (ci, fs))) (hv : fs[k]? = some (.int (I z))) (hr : rng z) : gI σ a k = z := by simp only [gI, h, hv]; exact I_toInt hr
/-- a number of an object -/
theorem ok.getI {A : Value → Prop} {B : Prop} (h : ok y E σ) (ha : kd E a = κ) (h0 : κ ≠ 0) (hq : kfl κ k = some (ci, 0, lo, hi)) (hget : ∀ (fs : List Value) (v : Value), σ a = some (.inr (ci, fs)) → fs[k]? = some v → A v → B) (kk : ∀ z : Int, gI σ a k = z → rng z → lo ≤ z → z ≤ hi → A (.int (I z))) : B := by
  obtain ⟨w, fs, v, q1, q2, q3, q4, q5⟩ := h.fld ha h0 hq
  obtain ⟨z, e, r, b1, b2⟩ := q5.1 rfl
  subst e
  exact hget fs _ q1 q3 (kk z (gI_of q1 q3 r) r b1 b2)
theorem ok.getIc {A : Value → Prop} {B : Prop} {z : Int} (h : ok y E σ) (ha : kd E a = κ) (h0 : κ ≠ 0) (hq : kfl κ k = some (ci, 0, lo, hi)) (he : gI σ a k = z) (hget : ∀ (fs : List Value) (v : Value), σ a = some (.inr (ci, fs)) → fs[k]? = some v → A v → B) (kk : A (.int (I z))) : B := by
  refine h.getI ha h0 hq hget (fun z1 e1 _ _ _ => ?_)
  have : z1 = z := e1.symm.trans he
  subst this
  exact kk
/-- a row or a part of an object -/
theorem ok.getR {A : Value → Prop} {B : Prop} (h : ok y E σ) (ha : kd E a = κ) (h0 : κ ≠ 0) (hq : kfl κ k = some (ci, cd, lo, hi)) (hd : cd ∈ [1, 7, 9, 10, 2, 3, 4, 5]) (hget : ∀ (fs : List Value) (v : Value), σ a = some (.inr (ci, fs)) → fs[k]? = some v → A v → B) (kk : A (.ref (ad E a k))) : B := by
  obtain ⟨w, fs, v, q1, q2, q3, q4, q5⟩ := h.fld ha h0 hq
  have e : v = .ref (ad E a k) := by
    simp only [List.mem_cons, List.not_mem_nil, or_false] at hd
    rcases hd with e | e | e | e | e | e | e | e
    · exact (q5.2.1 (Or.inl e)).1
    · exact (q5.2.1 (Or.inr (Or.inl e))).1
    · exact (q5.2.1 (Or.inr (Or.inr (Or.inl e)))).1
    · exact (q5.2.1 (Or.inr (Or.inr (Or.inr e)))).1
    · exact (q5.2.2.1 e).1
    · exact (q5.2.2.2.1 e).1
    · exact (q5.2.2.2.2.1 e).1
    · exact (q5.2.2.2.2.2.1 e).1
  subst e
  exact hget fs _ q1 q3 kk
theorem ok.pk (h : ok y E σ) (ha : kd E a = κ) (h0 : κ ≠ 0) {n : Nat} (hq : kfl κ k = some (ci, 4, lo, hi)) (hn : lo.toNat = n) : kd E (ad E a k) = n := by
  obtain ⟨w, fs, v, q1, q2, q3, q4, q5⟩ := h.fld ha h0 hq
  rw [← hn]; exact (q5.2.2.2.2.1 rfl).2
/-- one that may be changed -/
theorem ok.getM {A : Value → Prop} {B : Prop} (h : ok y E σ) (ha : kd E a = κ) (h0 : κ ≠ 0) {n : Nat} (hq : kfl κ k = some (ci, 6, lo, hi)) (hn : lo.toNat = n) (hget : ∀ (fs : List Value) (v : Value), σ a = some (.inr (ci, fs)) → fs[k]? = some v → A v → B) (kk : ∀ b : Nat, kd E b = n → A (.ref b)) : B := by
  obtain ⟨w, fs, v, q1, q2, q3, q4, q5⟩ := h.fld ha h0 hq
  obtain ⟨b, e, hb⟩ := q5.2.2.2.2.2.2.1 rfl
  subst e
  exact hget fs _ q1 q3 (kk b (by rw [← hn]; exact hb))
theorem ok.cell (h : ok y E σ) (ha : kd E a = κ) (h0 : κ ≠ 0) (hk : (kt κ).1 = ci) : ∃ fs : List Value, σ a = some (.inr (ci, fs)) := by
  obtain ⟨w, dm, fs, q1, q2, q3⟩ := h a (by rw [ha]; exact h0)
  rw [ha, hk] at q1
  exact ⟨fs, q1⟩
theorem fr.ki {S : List Nat} (h : ok y E σ) (hf : fr S E σ σ1) (ha : kd E a = κ) (h0 : κ ≠ 0) (hn : κ ∉ S) (k : Nat) : gI σ1 a k = gI σ a k := by
  have e : σ1 a = σ a := hf a (by rw [h.ow0 ha h0, ha]; exact h0) (by rw [h.ow0 ha h0, ha]; exact hn)
  simp only [gI, e]
theorem ok.arr {n : Int} (h : ok y E σ) (ha : kd E a = κ) (h0 : κ ≠ 0) (hq : kfl κ k = some (ci, cd, n, hi)) (hd : isA cd) : ow E (ad E a k) = (a, k) ∧ σ (ad E a k) = some (.inl (y 0, n.toNat, .inl (aF σ (ad E a k)))) ∧ ∀ q, el cd hi (aF σ (ad E a k) q).toInt := by
  obtain ⟨w, fs, v, q1, q2, q3, q4, q5⟩ := h.fld ha h0 hq
  obtain ⟨e, o, f, c1, c2⟩ := q5.2.1 hd
  have hg : aF σ (ad E a k) = f := by simp only [aF, c1]
  rw [hg]
  exact ⟨o, c1, c2⟩
theorem fr.af {S : List Nat} {n : Int} (h : ok y E σ) (hf : fr S E σ σ1) (ha : kd E a = κ) (h0 : κ ≠ 0) (hn : κ ∉ S) (hq : kfl κ k = some (ci, cd, n, hi)) (hd : isA cd) : aF σ1 (ad E a k) = aF σ (ad E a k) := by
  have e : σ1 (ad E a k) = σ (ad E a k) := hf _ (by rw [(h.arr ha h0 hq hd).1, ha]; exact h0) (by rw [(h.arr ha h0 hq hd).1, ha]; exact hn)
  simp only [aF, e]
theorem ok.arz {n : Int} (h : ok y E σ) (ha : kd E a = κ) (h0 : κ ≠ 0) (hq : kfl κ k = some (ci, 2, n, hi)) : ow E (ad E a k) = (a, k) ∧ σ (ad E a k) = some (.inl (y 2, n.toNat, .inl (aF σ (ad E a k)))) ∧ ∀ q, aF σ (ad E a k) q = 0 ∨ aF σ (ad E a k) q = 1 := by
  obtain ⟨w, fs, v, q1, q2, q3, q4, q5⟩ := h.fld ha h0 hq
  obtain ⟨e, o, f, c1, c2⟩ := q5.2.2.1 rfl
  have hg : aF σ (ad E a k) = f := by simp only [aF, c1]
  rw [hg]
  exact ⟨o, c1, c2⟩
theorem ok.arl {n : Int} (h : ok y E σ) (ha : kd E a = κ) (h0 : κ ≠ 0) (hq : kfl κ k = some (ci, 3, n, hi)) : ow E (ad E a k) = (a, k) ∧ ∃ f : Nat → Int64, σ (ad E a k) = some (.inl (y 1, n.toNat, .inr (.inl f))) := by
  obtain ⟨w, fs, v, q1, q2, q3, q4, q5⟩ := h.fld ha h0 hq
  obtain ⟨e, o, f, c1⟩ := q5.2.2.2.1 rfl
  exact ⟨o, f, c1⟩
theorem ok.arq (h : ok y E σ) (ha : kd E a = κ) (h0 : κ ≠ 0) (hq : kfl κ k = some (ci, 5, lo, hi)) : ow E (ad E a k) = (a, k) ∧ ∃ f : Nat → Option Nat, σ (ad E a k) = some (.inl ((if lo = 4 then y 3 else y 4), hi.toNat, .inr (.inr (.inr (.inr f))))) ∧ ∀ q x, f q = some x → kd E x = lo.toNat := by
  obtain ⟨w, fs, v, q1, q2, q3, q4, q5⟩ := h.fld ha h0 hq
  obtain ⟨e, o, f, c1, c2⟩ := q5.2.2.2.2.2.1 rfl
  exact ⟨o, f, c1, c2⟩
/-- a row's cell is changed -/
theorem ok.row {e e0 : vp_A} {c c0 : ClassId} (h : ok y E σ) (ha : kd E a = κ) (h0 : κ ≠ 0) (hq : kfl κ k = some (ci, cd, lo, hi)) (ho : ow E (ad E a k) = (a, k)) (hd : cd ∈ [1, 7, 9, 10, 2, 3, 5]) (hs : σ (ad E a k) = some (.inl (c0, e0))) (hv : fo y E (th_up σ (ad E a k) (.inl (c, e))) a k (cd, lo, hi) (.ref (ad E a k))) : ok y E (th_up σ (ad E a k) (.inl (c, e))) ∧ fr [κ] E σ (th_up σ (ad E a k) (.inl (c, e))) ∧ (∀ b j, gI (th_up σ (ad E a k) (.inl (c, e))) b j = gI σ b j) := by
  obtain ⟨w, fs, v, q1, q2, q3, q4, q5⟩ := h.fld ha h0 hq
  obtain ⟨e1, e2⟩ := kfl_of hq
  have ev : v = .ref (ad E a k) := by
    simp only [List.mem_cons, List.not_mem_nil, or_false] at hd
    rcases hd with e | e | e | e | e | e | e
    · exact (q5.2.1 (Or.inl e)).1
    · exact (q5.2.1 (Or.inr (Or.inl e))).1
    · exact (q5.2.1 (Or.inr (Or.inr (Or.inl e)))).1
    · exact (q5.2.1 (Or.inr (Or.inr (Or.inr e)))).1
    · exact (q5.2.2.1 e).1
    · exact (q5.2.2.2.1 e).1
    · exact (q5.2.2.2.2.2.1 e).1
  have hloc : ∀ x, (ow E x).1 ≠ a → th_up σ (ad E a k) (.inl (c, e)) x = σ x := fun x hx => th_up_ne _ _ (fun e9 => hx (by rw [e9, ho]))
  have hna : a ≠ ad E a k := fun e9 => by rw [← e9, q1] at hs; cases hs
  refine ⟨h.loc (a := a) hloc (fun _ => ?_), fr.loc hloc (by rw [ha]; exact List.mem_singleton.mpr rfl), ?_⟩
  · rw [ha]
    refine ⟨w, fun x hx => th_up_is (h.dm ha h0 x hx), fs, (th_up_ne _ _ hna).trans (by rw [q1, e1]), q2, fun j cj vj hcj hvj => ?_⟩
    by_cases e9 : j = k
    · subst e9
      rw [e2] at hcj
      have hcj := Option.some.inj hcj
      rw [q3] at hvj
      have hvj := Option.some.inj hvj
      rw [← hcj, ← hvj, ev]
      exact hv
    · obtain ⟨w', dm', fs', r1, r2, r3⟩ := h a (by rw [ha]; exact h0)
      rw [ha] at r1 r3
      have efs : fs = fs' := by rw [q1] at r1; exact (Prod.mk.inj (Sum.inr.inj (Option.some.inj r1))).2
      rw [← efs] at r3
      exact (r3 j cj vj hcj hvj).kept (fun o2 => th_up_ne _ _ (fun e3 => e9 (by rw [e3, ho] at o2; exact (congrArg Prod.snd o2).symm)))
  · intro b j
    by_cases e9 : b = ad E a k
    · rw [e9]; simp only [gI, th_up_at, hs]
    · simp only [gI, th_up_ne _ _ e9]
theorem aF_up {b x : Nat} {e : va_E} (h : x ≠ b) : aF (th_up σ b e) x = aF σ x := by simp only [aF, th_up_ne _ _ h]
theorem aF_at {b : Nat} {c : ClassId} {n : Nat} {f : Nat → Int32} : aF (th_up σ b (.inl (c, n, .inl f))) b = f := by simp only [aF, th_up_at]
theorem ok.putA {n : Int} {f : Nat → Int32} (h : ok y E σ) (ha : kd E a = κ) (h0 : κ ≠ 0) (hq : kfl κ k = some (ci, cd, n, hi)) (hd : isA cd) (hf : ∀ q, el cd hi (f q).toInt) : ok y E (th_up σ (ad E a k) (.inl (y 0, n.toNat, .inl f))) ∧ fr [κ] E σ (th_up σ (ad E a k) (.inl (y 0, n.toNat, .inl f))) ∧ (∀ b j, gI (th_up σ (ad E a k) (.inl (y 0, n.toNat, .inl f))) b j = gI σ b j) := by
  obtain ⟨o, c1, c2⟩ := h.arr ha h0 hq hd
  refine h.row ha h0 hq o (by rcases hd with e | e | e | e <;> simp [e]) c1 ⟨fun e => ?_, fun _ => ⟨rfl, o, f, th_up_at _ _ _, hf⟩, fun e => ?_, fun e => ?_, fun e => ?_, fun e => ?_, fun e => ?_, fun e => ?_⟩ <;> (simp only [isA] at e hd; omega)
theorem ok.putZ {n : Int} {f : Nat → Int32} (h : ok y E σ) (ha : kd E a = κ) (h0 : κ ≠ 0) (hq : kfl κ k = some (ci, 2, n, hi)) (hf : ∀ q, f q = 0 ∨ f q = 1) : ok y E (th_up σ (ad E a k) (.inl (y 2, n.toNat, .inl f))) ∧ fr [κ] E σ (th_up σ (ad E a k) (.inl (y 2, n.toNat, .inl f))) ∧ (∀ b j, gI (th_up σ (ad E a k) (.inl (y 2, n.toNat, .inl f))) b j = gI σ b j) := by
  obtain ⟨o, c1, c2⟩ := h.arz ha h0 hq
  refine h.row ha h0 hq o (by simp) c1 ⟨fun e => ?_, fun e => ?_, fun _ => ⟨rfl, o, f, th_up_at _ _ _, hf⟩, fun e => ?_, fun e => ?_, fun e => ?_, fun e => ?_, fun e => ?_⟩ <;> (simp only [isA] at e; omega)
theorem ok.putL {n : Int} {f : Nat → Int64} (h : ok y E σ) (ha : kd E a = κ) (h0 : κ ≠ 0) (hq : kfl κ k = some (ci, 3, n, hi)) : ok y E (th_up σ (ad E a k) (.inl (y 1, n.toNat, .inr (.inl f)))) ∧ fr [κ] E σ (th_up σ (ad E a k) (.inl (y 1, n.toNat, .inr (.inl f)))) ∧ (∀ b j, gI (th_up σ (ad E a k) (.inl (y 1, n.toNat, .inr (.inl f)))) b j = gI σ b j) := by
  obtain ⟨o, f0, c1⟩ := h.arl ha h0 hq
  refine h.row ha h0 hq o (by simp) c1 ⟨fun e => ?_, fun e => ?_, fun e => ?_, fun _ => ⟨rfl, o, f, th_up_at _ _ _⟩, fun e => ?_, fun e => ?_, fun e => ?_, fun e => ?_⟩ <;> (simp only [isA] at e; omega)
theorem ok.putQ {f : Nat → Option Nat} (h : ok y E σ) (ha : kd E a = κ) (h0 : κ ≠ 0) (hq : kfl κ k = some (ci, 5, lo, hi)) (hf : ∀ q x, f q = some x → kd E x = lo.toNat) : ok y E (th_up σ (ad E a k) (.inl ((if lo = 4 then y 3 else y 4), hi.toNat, .inr (.inr (.inr (.inr f)))))) ∧ fr [κ] E σ (th_up σ (ad E a k) (.inl ((if lo = 4 then y 3 else y 4), hi.toNat, .inr (.inr (.inr (.inr f)))))) ∧ (∀ b j, gI (th_up σ (ad E a k) (.inl ((if lo = 4 then y 3 else y 4), hi.toNat, .inr (.inr (.inr (.inr f)))))) b j = gI σ b j) := by
  obtain ⟨o, f0, c1, c2⟩ := h.arq ha h0 hq
  refine h.row ha h0 hq o (by simp) c1 ⟨fun e => ?_, fun e => ?_, fun e => ?_, fun e => ?_, fun e => ?_, fun _ => ⟨rfl, o, f, th_up_at _ _ _, hf⟩, fun e => ?_, fun e => ?_⟩ <;> (simp only [isA] at e; omega)
/-- a field of the own cell is changed -/
theorem ok.own {fs : List Value} {v : Value} {c : Nat × Int × Int} (h : ok y E σ) (ha : kd E a = κ) (h0 : κ ≠ 0) (hq : kfl κ k = some (ci, c)) (hf : σ a = some (.inr (ci, fs))) (hv : ∀ σ1, fo y E σ1 a k c v) : ok y E (th_up σ a (.inr (ci, fs.set k v))) ∧ fr [κ] E σ (th_up σ a (.inr (ci, fs.set k v))) ∧ (∀ b j, (b ≠ a ∨ j ≠ k) → gI (th_up σ a (.inr (ci, fs.set k v))) b j = gI σ b j) ∧ (∀ b, aF (th_up σ a (.inr (ci, fs.set k v))) b = aF σ b) := by
  obtain ⟨w, fs', v0, q1, q2, q3, q4, q5⟩ := h.fld ha h0 hq
  obtain ⟨e1, e2⟩ := kfl_of hq
  have e9 : fs' = fs := by rw [hf] at q1; exact (Prod.mk.inj (Sum.inr.inj (Option.some.inj q1))).2.symm
  subst e9
  have hloc : ∀ x, (ow E x).1 ≠ a → th_up σ a (.inr (ci, fs'.set k v)) x = σ x := fun x hx => th_up_ne _ _ (fun e => hx (by rw [e, w]))
  refine ⟨h.loc (a := a) hloc (fun _ => ?_), fr.loc hloc (by rw [ha]; exact List.mem_singleton.mpr rfl), ?_, ?_⟩
  · rw [ha]
    refine ⟨w, fun x hx => th_up_is (h.dm ha h0 x hx), fs'.set k v, by rw [th_up_at, e1], by rw [List.length_set]; exact q2, fun j cj vj hcj hvj => ?_⟩
    by_cases e : k = j
    · subst e
      rw [List.getElem?_set_self q4] at hvj
      rw [e2] at hcj
      have hcj := Option.some.inj hcj
      have hvj := Option.some.inj hvj
      rw [← hcj, ← hvj]
      exact hv _
    · rw [List.getElem?_set_ne e] at hvj
      obtain ⟨w', dm', fs2, r1, r2, r3⟩ := h a (by rw [ha]; exact h0)
      rw [ha] at r1 r3
      have efs : fs2 = fs' := by rw [hf] at r1; exact (Prod.mk.inj (Sum.inr.inj (Option.some.inj r1))).2.symm
      rw [efs] at r3
      refine (r3 j cj vj hcj hvj).kept (fun o => th_up_ne _ _ (fun e3 => ?_))
      rw [e3, w] at o
      have o2 : (99 : Nat) = j := congrArg Prod.snd o
      have hj : j < (kt κ).2.length := (List.getElem?_eq_some_iff.mp hcj).1
      have := kt_len κ
      omega
  · intro b j hbj
    by_cases e : b = a
    · subst e
      have hj : k ≠ j := fun e9 => by rcases hbj with h1 | h1; exact h1 rfl; exact h1 e9.symm
      simp only [gI, th_up_at, hf, List.getElem?_set_ne hj]
    · simp only [gI, th_up_ne _ _ e]
  · intro b
    by_cases e : b = a
    · subst e; simp only [aF, th_up_at, hf]
    · simp only [aF, th_up_ne _ _ e]
theorem fo_int {z : Int} (hr : rng z) (hl : lo ≤ z) (hu : z ≤ hi) : fo y E σ a k (0, lo, hi) (.int (I z)) := by
  refine ⟨fun _ => ⟨z, rfl, hr, hl, hu⟩, fun e => ?_, fun e => ?_, fun e => ?_, fun e => ?_, fun e => ?_, fun e => ?_, fun e => ?_⟩ <;> (simp only [isA] at e; omega)
theorem fo_ref {b : Nat} (hb : kd E b = lo.toNat) : fo y E σ a k (6, lo, hi) (.ref b) := by
  refine ⟨fun e => ?_, fun e => ?_, fun e => ?_, fun e => ?_, fun e => ?_, fun e => ?_, fun _ => ⟨b, rfl, hb⟩, fun e => ?_⟩ <;> (simp only [isA] at e; omega)
end OK
theorem upd_at (f : Nat → Int32) (i : Nat) (x : Int32) : upd f i x i = x := by simp [upd]
theorem upd_no (f : Nat → Int32) {i q : Nat} (x : Int32) (h : q ≠ i) : upd f i x q = f q := by simp [upd, h]
theorem isA1 : isA 1 := Or.inl rfl
theorem isA7 : isA 7 := Or.inr (Or.inl rfl)
theorem isA9 : isA 9 := Or.inr (Or.inr (Or.inl rfl))
theorem isA10 : isA 10 := Or.inr (Or.inr (Or.inr rfl))
theorem el_upd {cd : Nat} {hi : Int} {f : Nat → Int32} {i : Nat} {x : Int32} (hf : ∀ q, el cd hi (f q).toInt) (hx : el cd hi x.toInt) : ∀ q, el cd hi (upd f i x q).toInt := by
  intro q
  by_cases h : q = i
  · subst h; rw [upd_at]; exact hx
  · rw [upd_no _ _ h]; exact hf q
section OKW
variable {p : Program} {l : Launch} {e : Env} {R : Room} {s : State} {m : MethodId} {args : Array Value} {below : List Frame} {meth : Method} {c : Code} {H H0 : Heap} {locs : List Loc} {cells slots : Nat} {Q : State → Prop} {G : va_G} {y : Nat → ClassId} {b0 : Nat} {σ : th_M} {As rest st0 : List Value} {a b mc ms pc : Nat} {ls : Array Slot} {cc : ByteArray} {E : th_E} {κ k ci cd : Nat} {n lo hi : Int}
theorem ok_iald (hexec : p.tables.exec = Jvm.exec) (hb : c.code = cc) (hK : nq_K G y s) (hH : th_H G b0 σ H) (hO : ok y E σ) (ha : kd E a = κ) (hk0 : κ ≠ 0) (hq : kfl κ k = some (ci, cd, n, hi)) (hd : isA cd) {i : Int} (hr : rng i) (h0 : 0 ≤ i) (hn : i < n) (hdg : decode cc pc = .ok (.iaload, 1))
    (kk : ∀ z : Int, (aF σ (ad E a k) i.toNat).toInt = z → rng z → el cd hi z → W p l e R s m args below meth c H locs cells slots Q (F0 m (pc + 1) ls (.int (I z) :: rest))) : W p l e R s m args below meth c H locs cells slots Q (F0 m pc ls (.int (I i) :: .ref (ad E a k) :: rest)) := by
  obtain ⟨o, c1, c2⟩ := hO.arr ha hk0 hq hd
  exact th_iald hexec hb hK hH c1 hr h0 (by omega) hdg (kk _ rfl (rng_toInt _) (c2 _))
theorem ok_zald (hexec : p.tables.exec = Jvm.exec) (hb : c.code = cc) (hK : nq_K G y s) (hH : th_H G b0 σ H) (hO : ok y E σ) (ha : kd E a = κ) (hk0 : κ ≠ 0) (hq : kfl κ k = some (ci, 2, n, hi)) {i : Int} (hr : rng i) (h0 : 0 ≤ i) (hn : i < n) (hdg : decode cc pc = .ok (.baload, 1))
    (kk : ∀ z : Int, (aF σ (ad E a k) i.toNat).toInt = z → rng z → 0 ≤ z ∧ z ≤ 1 → W p l e R s m args below meth c H locs cells slots Q (F0 m (pc + 1) ls (.int (I z) :: rest))) : W p l e R s m args below meth c H locs cells slots Q (F0 m pc ls (.int (I i) :: .ref (ad E a k) :: rest)) := by
  obtain ⟨o, c1, c2⟩ := hO.arz ha hk0 hq
  exact th_zald hexec hb hK hH c1 hr h0 (by omega) hdg (kk _ rfl (rng_toInt _) (by rcases c2 i.toNat with h | h <;> rw [h] <;> decide))
theorem ok_lald (hexec : p.tables.exec = Jvm.exec) (hb : c.code = cc) (hK : nq_K G y s) (hH : th_H G b0 σ H) (hO : ok y E σ) (ha : kd E a = κ) (hk0 : κ ≠ 0) (hq : kfl κ k = some (ci, 3, n, hi)) {i : Int} (hr : rng i) (h0 : 0 ≤ i) (hn : i < n) (hdg : decode cc pc = .ok (.laload, 1))
    (kk : ∀ z : Int64, W p l e R s m args below meth c H locs cells slots Q (F0 m (pc + 1) ls (.long z :: rest))) : W p l e R s m args below meth c H locs cells slots Q (F0 m pc ls (.int (I i) :: .ref (ad E a k) :: rest)) := by
  obtain ⟨o, f, c1⟩ := hO.arl ha hk0 hq
  exact th_lald hexec hb hK hH c1 hr h0 (by omega) hdg (kk _)
theorem ok_aald (hexec : p.tables.exec = Jvm.exec) (hb : c.code = cc) (hK : nq_K G y s) (hH : th_H G b0 σ H) (hO : ok y E σ) (ha : kd E a = κ) (hk0 : κ ≠ 0) (hq : kfl κ k = some (ci, 5, lo, hi)) (hl : lo = 4 ∨ lo = 1) {kp : Nat} (hkp : lo.toNat = kp) {i : Int} (hr : rng i) (h0 : 0 ≤ i) (hn : i < hi) (hdg : decode cc pc = .ok (.aaload, 1))
    (kk : ∀ x : Option Nat, (∀ b, x = some b → kd E b = kp) → W p l e R s m args below meth c H locs cells slots Q (F0 m (pc + 1) ls (va_rf x :: rest))) : W p l e R s m args below meth c H locs cells slots Q (F0 m pc ls (.int (I i) :: .ref (ad E a k) :: rest)) := by
  obtain ⟨o, f, c1, c2⟩ := hO.arq ha hk0 hq
  obtain ⟨q0, hq0⟩ := hH.pos c1
  have hkk := kk (f (I i).toNatClampNeg) (fun b hb => by rw [← hkp]; exact c2 _ _ hb)
  rcases hl with e4 | e1
  · subst e4
    exact va_aldq hexec hb hK.1 hH.P q0 3 hq0 rfl (I_in hr h0 (by omega)) hdg hkk
  · subst e1
    exact va_aldq hexec hb hK.1 hH.P q0 4 hq0 rfl (I_in hr h0 (by omega)) hdg hkk
theorem ok_iast (hexec : p.tables.exec = Jvm.exec) (hb : c.code = cc) (hK : nq_K G y s) (hH : th_H G b0 σ H) (hS : va_S (th_A b0) H0 H locs) (h00 : b0 ≤ H0.size) (hO : ok y E σ) (ha : kd E a = κ) (hk0 : κ ≠ 0) (hq : kfl κ k = some (ci, cd, n, hi)) (hd : isA cd) {i x : Int} (hr : rng i) (h0 : 0 ≤ i) (hn : i < n) (hx : rng x) (hel : el cd hi x) (hdg : decode cc pc = .ok (.iastore, 1))
    (kk : ∀ (σ1 : th_M) (H1 : Heap) (locs1 : List Loc), ok y E σ1 → fr [κ] E σ σ1 → (∀ b j, gI σ1 b j = gI σ b j) → (aF σ1 (ad E a k) = upd (aF σ (ad E a k)) i.toNat (I x) ∧ ∀ b, b ≠ ad E a k → aF σ1 b = aF σ b) → th_H G b0 σ1 H1 → va_S (th_A b0) H0 H1 locs1 → W p l e R s m args below meth c H1 locs1 cells slots Q (F0 m (pc + 1) ls rest)) : W p l e R s m args below meth c H locs cells slots Q (F0 m pc ls (.int (I x) :: .int (I i) :: .ref (ad E a k) :: rest)) := by
  obtain ⟨o, c1, c2⟩ := hO.arr ha hk0 hq hd
  refine th_iast hexec hb hK hH hS h00 c1 hr h0 (by omega) hdg (fun H1 locs1 hH1 hS1 => ?_)
  obtain ⟨p1, p2, p3⟩ := hO.putA ha hk0 hq hd (f := upd (aF σ (ad E a k)) i.toNat (I x)) (el_upd c2 (by rw [I_toInt hx]; exact hel))
  exact kk _ H1 locs1 p1 p2 p3 ⟨aF_at, fun b hb => aF_up hb⟩ hH1 hS1
theorem ok_zast (hexec : p.tables.exec = Jvm.exec) (hb : c.code = cc) (hK : nq_K G y s) (hH : th_H G b0 σ H) (hS : va_S (th_A b0) H0 H locs) (h00 : b0 ≤ H0.size) (hO : ok y E σ) (ha : kd E a = κ) (hk0 : κ ≠ 0) (hq : kfl κ k = some (ci, 2, n, hi)) {i x : Int} (hr : rng i) (h0 : 0 ≤ i) (hn : i < n) (hx : x = 0 ∨ x = 1) (hdg : decode cc pc = .ok (.bastore, 1))
    (kk : ∀ (σ1 : th_M) (H1 : Heap) (locs1 : List Loc), ok y E σ1 → fr [κ] E σ σ1 → (∀ b j, gI σ1 b j = gI σ b j) → (aF σ1 (ad E a k) = upd (aF σ (ad E a k)) i.toNat (I x) ∧ ∀ b, b ≠ ad E a k → aF σ1 b = aF σ b) → th_H G b0 σ1 H1 → va_S (th_A b0) H0 H1 locs1 → W p l e R s m args below meth c H1 locs1 cells slots Q (F0 m (pc + 1) ls rest)) : W p l e R s m args below meth c H locs cells slots Q (F0 m pc ls (.int (I x) :: .int (I i) :: .ref (ad E a k) :: rest)) := by
  obtain ⟨o, c1, c2⟩ := hO.arz ha hk0 hq
  obtain ⟨q0, hq0⟩ := hH.pos c1
  refine va_zast hexec hb hK.1 hH.P hH.D hS q0 2 hq0 rfl (I_in hr h0 (by omega)) hdg (fun H1 locs1 hP1 _ hS1 => ?_)
  have en : vp_nar .boolean (I x) = I x := by rcases hx with h | h <;> rw [h] <;> decide
  rw [I_nat hr h0, en] at hP1
  obtain ⟨p1, p2, p3⟩ := hO.putZ ha hk0 hq (f := upd (aF σ (ad E a k)) i.toNat (I x)) (fun q => by
    by_cases h : q = i.toNat
    · subst h; rw [upd_at]; rcases hx with h | h <;> rw [h] <;> decide
    · rw [upd_no _ _ h]; exact c2 q)
  exact kk _ H1 locs1 p1 p2 p3 ⟨aF_at, fun b hb => aF_up hb⟩ (hH.set hq0 hP1 (Nat.le_trans h00 hS1.1)) hS1
theorem ok_last (hexec : p.tables.exec = Jvm.exec) (hb : c.code = cc) (hK : nq_K G y s) (hH : th_H G b0 σ H) (hS : va_S (th_A b0) H0 H locs) (h00 : b0 ≤ H0.size) (hO : ok y E σ) (ha : kd E a = κ) (hk0 : κ ≠ 0) (hq : kfl κ k = some (ci, 3, n, hi)) {i : Int} {x : Int64} (hr : rng i) (h0 : 0 ≤ i) (hn : i < n) (hdg : decode cc pc = .ok (.lastore, 1))
    (kk : ∀ (σ1 : th_M) (H1 : Heap) (locs1 : List Loc), ok y E σ1 → fr [κ] E σ σ1 → (∀ b j, gI σ1 b j = gI σ b j) → th_H G b0 σ1 H1 → va_S (th_A b0) H0 H1 locs1 → W p l e R s m args below meth c H1 locs1 cells slots Q (F0 m (pc + 1) ls rest)) : W p l e R s m args below meth c H locs cells slots Q (F0 m pc ls (.long x :: .int (I i) :: .ref (ad E a k) :: rest)) := by
  obtain ⟨o, f, c1⟩ := hO.arl ha hk0 hq
  obtain ⟨q0, hq0⟩ := hH.pos c1
  refine va_last hexec hb hK.1 hH.P hH.D hS q0 1 hq0 rfl (I_in hr h0 (by omega)) hdg (fun H1 locs1 hP1 _ hS1 => ?_)
  obtain ⟨p1, p2, p3⟩ := hO.putL ha hk0 hq (f := _)
  exact kk _ H1 locs1 p1 p2 p3 (hH.set hq0 hP1 (Nat.le_trans h00 hS1.1)) hS1
theorem va_up_some {f : Nat → Option Nat} {i v q x : Nat} (h : va_up f i (some v) q = some x) : x = v ∨ f q = some x := by
  unfold va_up at h
  split at h
  · exact Or.inl (Option.some.inj h).symm
  · exact Or.inr h
theorem va_up_none {f : Nat → Option Nat} {i q x : Nat} (h : va_up f i none q = some x) : f q = some x := by
  unfold va_up at h
  split at h
  · cases h
  · exact h
theorem ok_aast (hexec : p.tables.exec = Jvm.exec) (hb : c.code = cc) (hK : nq_K G y s) (hH : th_H G b0 σ H) (hS : va_S (th_A b0) H0 H locs) (h00 : b0 ≤ H0.size) (hO : ok y E σ) (ha : kd E a = κ) (hk0 : κ ≠ 0) (hq : kfl κ k = some (ci, 5, lo, hi)) (hl : lo = 4 ∨ lo = 1) {i : Int} {v : Nat} (hv : kd E v = lo.toNat) (hr : rng i) (h0 : 0 ≤ i) (hn : i < hi) (hdg : decode cc pc = .ok (.aastore, 1))
    (kk : ∀ (σ1 : th_M) (H1 : Heap) (locs1 : List Loc), ok y E σ1 → fr [κ] E σ σ1 → (∀ b j, gI σ1 b j = gI σ b j) → th_H G b0 σ1 H1 → va_S (th_A b0) H0 H1 locs1 → W p l e R s m args below meth c H1 locs1 cells slots Q (F0 m (pc + 1) ls rest)) : W p l e R s m args below meth c H locs cells slots Q (F0 m pc ls (.ref v :: .int (I i) :: .ref (ad E a k) :: rest)) := by
  obtain ⟨o, f, c1, c2⟩ := hO.arq ha hk0 hq
  obtain ⟨q0, hq0⟩ := hH.pos c1
  have hf : ∀ q x, va_up f (I i).toNatClampNeg (some v) q = some x → kd E x = lo.toNat := fun q x hx => by
    rcases va_up_some hx with h | h
    · rw [h]; exact hv
    · exact c2 q x h
  obtain ⟨p1, p2, p3⟩ := hO.putQ ha hk0 hq hf
  rcases hl with e4 | e1
  · subst e4
    obtain ⟨fs, cv⟩ := hO.cell hv (by decide) (ci := 4) rfl
    obtain ⟨q1, hq1⟩ := hH.pos cv
    exact va_astq hexec hb hK.1 hH.P hH.D hS q0 3 q1 4 hq0 rfl hq1 rfl (I_in hr h0 (by omega)) hdg (fun H1 locs1 hP1 _ hS1 => kk _ H1 locs1 p1 p2 p3 (hH.set hq0 hP1 (Nat.le_trans h00 hS1.1)) hS1)
  · subst e1
    obtain ⟨fs, cv⟩ := hO.cell hv (by decide) (ci := 9) rfl
    obtain ⟨q1, hq1⟩ := hH.pos cv
    exact va_astq hexec hb hK.1 hH.P hH.D hS q0 4 q1 9 hq0 rfl hq1 rfl (I_in hr h0 (by omega)) hdg (fun H1 locs1 hP1 _ hS1 => kk _ H1 locs1 p1 p2 p3 (hH.set hq0 hP1 (Nat.le_trans h00 hS1.1)) hS1)
theorem ok_aastN (hexec : p.tables.exec = Jvm.exec) (hb : c.code = cc) (hK : nq_K G y s) (hH : th_H G b0 σ H) (hS : va_S (th_A b0) H0 H locs) (h00 : b0 ≤ H0.size) (hO : ok y E σ) (ha : kd E a = κ) (hk0 : κ ≠ 0) (hq : kfl κ k = some (ci, 5, lo, hi)) (hl : lo = 4 ∨ lo = 1) {i : Int} (hr : rng i) (h0 : 0 ≤ i) (hn : i < hi) (hdg : decode cc pc = .ok (.aastore, 1))
    (kk : ∀ (σ1 : th_M) (H1 : Heap) (locs1 : List Loc), ok y E σ1 → fr [κ] E σ σ1 → (∀ b j, gI σ1 b j = gI σ b j) → th_H G b0 σ1 H1 → va_S (th_A b0) H0 H1 locs1 → W p l e R s m args below meth c H1 locs1 cells slots Q (F0 m (pc + 1) ls rest)) : W p l e R s m args below meth c H locs cells slots Q (F0 m pc ls (.null :: .int (I i) :: .ref (ad E a k) :: rest)) := by
  obtain ⟨o, f, c1, c2⟩ := hO.arq ha hk0 hq
  obtain ⟨q0, hq0⟩ := hH.pos c1
  obtain ⟨p1, p2, p3⟩ := hO.putQ ha hk0 hq (f := va_up f (I i).toNatClampNeg none) (fun q x hx => c2 q x (va_up_none hx))
  rcases hl with e4 | e1
  · subst e4
    exact va_astqN hexec hb hK.1 hH.P hH.D hS q0 3 hq0 rfl (I_in hr h0 (by omega)) hdg (fun H1 locs1 hP1 _ hS1 => kk _ H1 locs1 p1 p2 p3 (hH.set hq0 hP1 (Nat.le_trans h00 hS1.1)) hS1)
  · subst e1
    exact va_astqN hexec hb hK.1 hH.P hH.D hS q0 4 hq0 rfl (I_in hr h0 (by omega)) hdg (fun H1 locs1 hP1 _ hS1 => kk _ H1 locs1 p1 p2 p3 (hH.set hq0 hP1 (Nat.le_trans h00 hS1.1)) hS1)
theorem ok_alen (hexec : p.tables.exec = Jvm.exec) (hb : c.code = cc) (hK : nq_K G y s) (hH : th_H G b0 σ H) (hO : ok y E σ) (ha : kd E a = κ) (hk0 : κ ≠ 0) (hq : kfl κ k = some (ci, cd, n, hi)) (hd : isA cd) (hn : 0 ≤ n) (hdg : decode cc pc = .ok (.arraylength, 1))
    (kk : W p l e R s m args below meth c H locs cells slots Q (F0 m (pc + 1) ls (.int (I n) :: rest))) : W p l e R s m args below meth c H locs cells slots Q (F0 m pc ls (.ref (ad E a k) :: rest)) := by
  obtain ⟨o, c1, c2⟩ := hO.arr ha hk0 hq hd
  refine th_alen hexec hb hK hH c1 (t0 := 0) rfl hdg ?_
  have e9 : ((n.toNat : Nat) : Int) = n := by omega
  rw [show (((n.toNat, (Sum.inl (aF σ (ad E a k)))) : vp_A).1 : Int) = n from e9]
  exact kk
theorem ok_alenz (hexec : p.tables.exec = Jvm.exec) (hb : c.code = cc) (hK : nq_K G y s) (hH : th_H G b0 σ H) (hO : ok y E σ) (ha : kd E a = κ) (hk0 : κ ≠ 0) (hq : kfl κ k = some (ci, 2, n, hi)) (hn : 0 ≤ n) (hdg : decode cc pc = .ok (.arraylength, 1))
    (kk : W p l e R s m args below meth c H locs cells slots Q (F0 m (pc + 1) ls (.int (I n) :: rest))) : W p l e R s m args below meth c H locs cells slots Q (F0 m pc ls (.ref (ad E a k) :: rest)) := by
  obtain ⟨o, c1, c2⟩ := hO.arz ha hk0 hq
  refine th_alen hexec hb hK hH c1 (t0 := 2) rfl hdg ?_
  have e9 : ((n.toNat : Nat) : Int) = n := by omega
  rw [show (((n.toNat, (Sum.inl (aF σ (ad E a k)))) : vp_A).1 : Int) = n from e9]
  exact kk
theorem va_cpy_el {cd : Nat} {hi : Int} {f g : Nat → Int32} {sp dp n : Nat} (hf : ∀ q, el cd hi (f q).toInt) (hg : ∀ q, el cd hi (g q).toInt) : ∀ q, el cd hi (va_cpy f g sp dp n q).toInt := by
  intro q
  unfold va_cpy
  split
  · exact hf _
  · exact hg _
/-- ints are copied from a row of one object into one of another (or the same) -/
theorem ok_copy (hexec : p.tables.exec = Jvm.exec) (hb : c.code = cc) (hml : c.maxLocals = ls.size) {own : String} {index : Nat} (hown : s.vm.findClass own = some m.cls) (hlink : (Cond.methodLink own index arraycopyName).before args s = true) (hnat : (Cond.native arraycopyName).before args s = true) (hstat : (Cond.static arraycopyName).before args s = true) (hini : (Cond.initialized "java/lang/System").before args s = true)
    (hK : nq_K G y s) (hH : th_H G b0 σ H) (hS : va_S (th_A b0) H0 H locs) (h00 : b0 ≤ H0.size) (hO : ok y E σ) {a2 κ2 k2 ci2 cd2 : Nat} {n2 hi2 : Int} (ha : kd E a = κ) (hk0 : κ ≠ 0) (hq : kfl κ k = some (ci, cd, n, hi)) (hd : isA cd) (ha2 : kd E a2 = κ2) (hk2 : κ2 ≠ 0) (hq2 : kfl κ2 k2 = some (ci2, cd2, n2, hi2)) (hd2 : isA cd2) {sp dp z : Int} (rs : rng sp) (rd : rng dp) (rz : rng z) (s0 : 0 ≤ sp) (d0 : 0 ≤ dp) (z0 : 0 ≤ z) (sl : sp + z ≤ n2) (dl : dp + z ≤ n) (hel : ∀ q, el cd hi (va_cpy (aF σ (ad E a2 k2)) (aF σ (ad E a k)) sp.toNat dp.toNat z.toNat q).toInt)
    (hframes : 1 ≤ R.frames) (hlocals : (rest.map fun v => v.category).sum + (nativeFrameWords "java/lang/System" "arraycopy" 5 + 11) ≤ R.locals) (hdg : decode cc pc = .ok (.invokestatic index, 3))
    (kk : ∀ (σ1 : th_M) (H1 : Heap) (locs1 : List Loc), ok y E σ1 → fr [κ] E σ σ1 → (∀ b j, gI σ1 b j = gI σ b j) → th_H G b0 σ1 H1 → va_S (th_A b0) H0 H1 locs1 → W p l e R s m args below meth c H1 locs1 cells slots Q (F0 m (pc + 3) ls rest)) : W p l e R s m args below meth c H locs cells slots Q (F0 m pc ls (.int (I z) :: .int (I dp) :: .ref (ad E a k) :: .int (I sp) :: .ref (ad E a2 k2) :: rest)) := by
  obtain ⟨o, c1, c2⟩ := hO.arr ha hk0 hq hd
  obtain ⟨o2, c3, c4⟩ := hO.arr ha2 hk2 hq2 hd2
  obtain ⟨q1, hq1⟩ := hH.pos c1
  obtain ⟨q0, hq0⟩ := hH.pos c3
  obtain ⟨p1, p2, p3⟩ := hO.putA ha hk0 hq hd hel
  have I0 : ∀ {w : Int}, rng w → 0 ≤ w → ¬ I w < 0 := fun {w} hw h0 hc => by
    have hc : I w < I 0 := hc
    rw [I_lt hw ⟨by decide, by decide⟩] at hc
    omega
  refine va_copyi hexec hb hml hown hlink hnat hstat hini hK.1 hH.P hH.D hS q0 q1 0 0 hq0 hq1 rfl rfl rfl (I0 rs s0) (I0 rd d0) (I0 rz z0) (by rw [I_nat rs s0, I_nat rz z0]; omega) (by rw [I_nat rd d0, I_nat rz z0]; omega) (fun _ _ => rfl) hframes hlocals hdg (fun H1 locs1 hP1 _ hS1 => ?_)
  rw [I_nat rs s0, I_nat rd d0, I_nat rz z0] at hP1
  exact kk _ H1 locs1 p1 p2 p3 (hH.set hq1 hP1 (Nat.le_trans h00 hS1.1)) hS1
end OKW
section OKP
variable {y : Nat → ClassId} {E : th_E} {σ : th_M} {a κ k ci : Nat} {lo hi : Int} {G : va_G} {b0 : Nat} {H0 : Heap}
/-- a number is written -/
theorem ok.putI {C : Heap → List Loc → Prop} {B : Prop} {z : Int} (h : ok y E σ) (ha : kd E a = κ) (h0 : κ ≠ 0) (hq : kfl κ k = some (ci, 0, lo, hi)) (hr : rng z) (hl : lo ≤ z) (hu : z ≤ hi)
    (hput : ∀ fs : List Value, σ a = some (.inr (ci, fs)) → k < fs.length → (∀ (H1 : Heap) (locs1 : List Loc), th_H G b0 (th_up σ a (.inr (ci, fs.set k (.int (I z))))) H1 → va_S (th_A b0) H0 H1 locs1 → C H1 locs1) → B)
    (kk : ∀ (σ1 : th_M) (H1 : Heap) (locs1 : List Loc), ok y E σ1 → fr [κ] E σ σ1 → gI σ1 a k = z → (∀ b j, (b ≠ a ∨ j ≠ k) → gI σ1 b j = gI σ b j) → (∀ b, aF σ1 b = aF σ b) → th_H G b0 σ1 H1 → va_S (th_A b0) H0 H1 locs1 → C H1 locs1) : B := by
  obtain ⟨w, fs, v, q1, q2, q3, q4, q5⟩ := h.fld ha h0 hq
  refine hput fs q1 q4 (fun H1 locs1 hH1 hS1 => ?_)
  obtain ⟨p1, p2, p3, p4⟩ := h.own ha h0 hq q1 (v := .int (I z)) (fun _ => fo_int hr hl hu)
  exact kk _ H1 locs1 p1 p2 (gI_of (th_up_at _ _ _) (List.getElem?_set_self q4) hr) p3 p4 hH1 hS1
/-- another one is put into a place that may be changed -/
theorem ok.putM {C : Heap → List Loc → Prop} {B : Prop} {b : Nat} (h : ok y E σ) (ha : kd E a = κ) (h0 : κ ≠ 0) (hq : kfl κ k = some (ci, 6, lo, hi)) (hb : kd E b = lo.toNat)
    (hput : ∀ fs : List Value, σ a = some (.inr (ci, fs)) → k < fs.length → (∀ (H1 : Heap) (locs1 : List Loc), th_H G b0 (th_up σ a (.inr (ci, fs.set k (.ref b)))) H1 → va_S (th_A b0) H0 H1 locs1 → C H1 locs1) → B)
    (kk : ∀ (σ1 : th_M) (H1 : Heap) (locs1 : List Loc), ok y E σ1 → fr [κ] E σ σ1 → (∀ b j, (b ≠ a ∨ j ≠ k) → gI σ1 b j = gI σ b j) → th_H G b0 σ1 H1 → va_S (th_A b0) H0 H1 locs1 → C H1 locs1) : B := by
  obtain ⟨w, fs, v, q1, q2, q3, q4, q5⟩ := h.fld ha h0 hq
  refine hput fs q1 q4 (fun H1 locs1 hH1 hS1 => ?_)
  obtain ⟨p1, p2, p3, p4⟩ := h.own ha h0 hq q1 (v := .ref b) (fun _ => fo_ref hb)
  exact kk _ H1 locs1 p1 p2 p3 hH1 hS1
end OKP
