theorem nl_0 {G : va_G} {y : Nat → ClassId} {s : State} {args : Array Value} (hK : nq_K G y s) : (Cond.fieldLinkNest RX5 41 "NestQuery$Path" "stepCount" "I" "NestQuery").before args s = true := va_Nw.use rfl (hK.2.1.1 ("NestQuery$PathReader", 41, "NestQuery$Path", "stepCount", "I", "NestQuery") (List.mem_of_getElem? (i := 0) rfl))
theorem nl_1 {G : va_G} {y : Nat → ClassId} {s : State} {args : Array Value} (hK : nq_K G y s) : (Cond.fieldLinkNest RX10 279 "NestQuery$Path" "stepCount" "I" "NestQuery").before args s = true := va_Nw.use rfl (hK.2.1.1 ("NestQuery", 279, "NestQuery$Path", "stepCount", "I", "NestQuery") (List.mem_of_getElem? (i := 1) rfl))
theorem nl_2 {G : va_G} {y : Nat → ClassId} {s : State} {args : Array Value} (hK : nq_K G y s) : (Cond.fieldLinkNest RX5 70 "NestQuery$Path" "codeCount" "I" "NestQuery").before args s = true := va_Nw.use rfl (hK.2.1.1 ("NestQuery$PathReader", 70, "NestQuery$Path", "codeCount", "I", "NestQuery") (List.mem_of_getElem? (i := 2) rfl))
theorem nl_3 {G : va_G} {y : Nat → ClassId} {s : State} {args : Array Value} (hK : nq_K G y s) : (Cond.fieldLinkNest RX5 86 "NestQuery$Path" "testCount" "I" "NestQuery").before args s = true := va_Nw.use rfl (hK.2.1.1 ("NestQuery$PathReader", 86, "NestQuery$Path", "testCount", "I", "NestQuery") (List.mem_of_getElem? (i := 3) rfl))
theorem nl_4 {G : va_G} {y : Nat → ClassId} {s : State} {args : Array Value} (hK : nq_K G y s) : (Cond.fieldLinkNest RX1 30 "NestQuery$Tokens" "kind" "I" "NestQuery").before args s = true := va_Nw.use rfl (hK.2.1.1 ("NestQuery$DataReader", 30, "NestQuery$Tokens", "kind", "I", "NestQuery") (List.mem_of_getElem? (i := 4) rfl))
theorem nl_5 {G : va_G} {y : Nat → ClassId} {s : State} {args : Array Value} (hK : nq_K G y s) : (Cond.fieldLinkNest RX5 30 "NestQuery$Tokens" "kind" "I" "NestQuery").before args s = true := va_Nw.use rfl (hK.2.1.1 ("NestQuery$PathReader", 30, "NestQuery$Tokens", "kind", "I", "NestQuery") (List.mem_of_getElem? (i := 5) rfl))
theorem nl_6 {G : va_G} {y : Nat → ClassId} {s : State} {args : Array Value} (hK : nq_K G y s) : (Cond.fieldLinkNest RX5 26 "NestQuery$Tokens" "fault" "I" "NestQuery").before args s = true := va_Nw.use rfl (hK.2.1.1 ("NestQuery$PathReader", 26, "NestQuery$Tokens", "fault", "I", "NestQuery") (List.mem_of_getElem? (i := 6) rfl))
theorem nl_7 {G : va_G} {y : Nat → ClassId} {s : State} {args : Array Value} (hK : nq_K G y s) : (Cond.fieldLinkNest RX1 38 "NestQuery$Tokens" "fault" "I" "NestQuery").before args s = true := va_Nw.use rfl (hK.2.1.1 ("NestQuery$DataReader", 38, "NestQuery$Tokens", "fault", "I", "NestQuery") (List.mem_of_getElem? (i := 7) rfl))
theorem nl_8 {G : va_G} {y : Nat → ClassId} {s : State} {args : Array Value} (hK : nq_K G y s) : (Cond.fieldLinkNest RX10 379 "NestQuery$Tokens" "faultPlace" "I" "NestQuery").before args s = true := va_Nw.use rfl (hK.2.1.1 ("NestQuery", 379, "NestQuery$Tokens", "faultPlace", "I", "NestQuery") (List.mem_of_getElem? (i := 8) rfl))
theorem nl_9 {G : va_G} {y : Nat → ClassId} {s : State} {args : Array Value} (hK : nq_K G y s) : (Cond.fieldLinkNest RX0 31 "NestQuery$Tree" "size" "I" "NestQuery").before args s = true := va_Nw.use rfl (hK.2.1.1 ("NestQuery$Acts", 31, "NestQuery$Tree", "size", "I", "NestQuery") (List.mem_of_getElem? (i := 9) rfl))
theorem nl_10 {G : va_G} {y : Nat → ClassId} {s : State} {args : Array Value} (hK : nq_K G y s) : (Cond.fieldLinkNest RX1 45 "NestQuery$Tree" "size" "I" "NestQuery").before args s = true := va_Nw.use rfl (hK.2.1.1 ("NestQuery$DataReader", 45, "NestQuery$Tree", "size", "I", "NestQuery") (List.mem_of_getElem? (i := 10) rfl))
theorem nl_11 {G : va_G} {y : Nat → ClassId} {s : State} {args : Array Value} (hK : nq_K G y s) : (Cond.fieldLinkNest RX10 161 "NestQuery$Tree" "size" "I" "NestQuery").before args s = true := va_Nw.use rfl (hK.2.1.1 ("NestQuery", 161, "NestQuery$Tree", "size", "I", "NestQuery") (List.mem_of_getElem? (i := 11) rfl))
theorem nl_12 {G : va_G} {y : Nat → ClassId} {s : State} {args : Array Value} (hK : nq_K G y s) : (Cond.fieldLinkNest RX4 60 "NestQuery$Tree" "size" "I" "NestQuery").before args s = true := va_Nw.use rfl (hK.2.1.1 ("NestQuery$Path", 60, "NestQuery$Tree", "size", "I", "NestQuery") (List.mem_of_getElem? (i := 12) rfl))
theorem nl_13 {G : va_G} {y : Nat → ClassId} {s : State} {args : Array Value} (hK : nq_K G y s) : (Cond.fieldLinkNest RX10 107 "NestQuery$State" "tree" "LNestQuery$Tree;" "NestQuery").before args s = true := va_Nw.use rfl (hK.2.1.1 ("NestQuery", 107, "NestQuery$State", "tree", "LNestQuery$Tree;", "NestQuery") (List.mem_of_getElem? (i := 13) rfl))
theorem nl_14 {G : va_G} {y : Nat → ClassId} {s : State} {args : Array Value} (hK : nq_K G y s) : (Cond.fieldLinkNest RX0 44 "NestQuery$State" "tree" "LNestQuery$Tree;" "NestQuery").before args s = true := va_Nw.use rfl (hK.2.1.1 ("NestQuery$Acts", 44, "NestQuery$State", "tree", "LNestQuery$Tree;", "NestQuery") (List.mem_of_getElem? (i := 14) rfl))
theorem nl_15 {G : va_G} {y : Nat → ClassId} {s : State} {args : Array Value} (hK : nq_K G y s) : (Cond.fieldLinkNest RX10 139 "NestQuery$State" "actCount" "I" "NestQuery").before args s = true := va_Nw.use rfl (hK.2.1.1 ("NestQuery", 139, "NestQuery$State", "actCount", "I", "NestQuery") (List.mem_of_getElem? (i := 15) rfl))
theorem nl_16 {G : va_G} {y : Nat → ClassId} {s : State} {args : Array Value} (hK : nq_K G y s) : (Cond.fieldLinkNest RX10 142 "NestQuery$State" "notedCount" "I" "NestQuery").before args s = true := va_Nw.use rfl (hK.2.1.1 ("NestQuery", 142, "NestQuery$State", "notedCount", "I", "NestQuery") (List.mem_of_getElem? (i := 16) rfl))
theorem nl_17 {G : va_G} {y : Nat → ClassId} {s : State} {args : Array Value} (hK : nq_K G y s) : (Cond.fieldLinkNest RX10 177 "NestQuery$Patch" "rowCount" "I" "NestQuery").before args s = true := va_Nw.use rfl (hK.2.1.1 ("NestQuery", 177, "NestQuery$Patch", "rowCount", "I", "NestQuery") (List.mem_of_getElem? (i := 17) rfl))
theorem nl_18 {G : va_G} {y : Nat → ClassId} {s : State} {args : Array Value} (hK : nq_K G y s) : (Cond.fieldLinkNest RX0 172 "NestQuery$Patch" "rowCount" "I" "NestQuery").before args s = true := va_Nw.use rfl (hK.2.1.1 ("NestQuery$Acts", 172, "NestQuery$Patch", "rowCount", "I", "NestQuery") (List.mem_of_getElem? (i := 18) rfl))
theorem nl_19 {G : va_G} {y : Nat → ClassId} {s : State} {args : Array Value} (hK : nq_K G y s) : (Cond.fieldLinkNest RX10 406 "NestQuery$TextOut" "length" "I" "NestQuery").before args s = true := va_Nw.use rfl (hK.2.1.1 ("NestQuery", 406, "NestQuery$TextOut", "length", "I", "NestQuery") (List.mem_of_getElem? (i := 19) rfl))
theorem ml_0 {G : va_G} {y : Nat → ClassId} {s : State} (hK : nq_K G y s) : va_Nw (.methodLinkNest RX10 23 yX4_init "NestQuery") s := hK.2.1.2 ("NestQuery", 23, ⟨"NestQuery$Path", "<init>", "()V"⟩, "NestQuery") (List.mem_of_getElem? (i := 0) rfl)
theorem ml_1 {G : va_G} {y : Nat → ClassId} {s : State} (hK : nq_K G y s) : va_Nw (.methodLinkNest RX10 30 yX8_init "NestQuery") s := hK.2.1.2 ("NestQuery", 30, ⟨"NestQuery$Tokens", "<init>", "()V"⟩, "NestQuery") (List.mem_of_getElem? (i := 1) rfl)
theorem ml_2 {G : va_G} {y : Nat → ClassId} {s : State} (hK : nq_K G y s) : va_Nw (.methodLinkNest RX10 62 yX6_init "NestQuery") s := hK.2.1.2 ("NestQuery", 62, ⟨"NestQuery$State", "<init>", "()V"⟩, "NestQuery") (List.mem_of_getElem? (i := 2) rfl)
theorem ml_3 {G : va_G} {y : Nat → ClassId} {s : State} (hK : nq_K G y s) : va_Nw (.methodLinkNest RX10 81 yX3_init "NestQuery") s := hK.2.1.2 ("NestQuery", 81, ⟨"NestQuery$Patch", "<init>", "()V"⟩, "NestQuery") (List.mem_of_getElem? (i := 3) rfl)
theorem ml_4 {G : va_G} {y : Nat → ClassId} {s : State} (hK : nq_K G y s) : va_Nw (.methodLinkNest RX10 91 yX7_init "NestQuery") s := hK.2.1.2 ("NestQuery", 91, ⟨"NestQuery$TextOut", "<init>", "()V"⟩, "NestQuery") (List.mem_of_getElem? (i := 4) rfl)
theorem ml_5 {G : va_G} {y : Nat → ClassId} {s : State} (hK : nq_K G y s) : va_Nw (.methodLinkNest RX10 102 yX2_init "NestQuery") s := hK.2.1.2 ("NestQuery", 102, ⟨"NestQuery$Draws", "<init>", "()V"⟩, "NestQuery") (List.mem_of_getElem? (i := 5) rfl)
theorem ml_6 {G : va_G} {y : Nat → ClassId} {s : State} (hK : nq_K G y s) : va_Nw (.methodLinkNest RX4 73 yX10_bit "NestQuery") s := hK.2.1.2 ("NestQuery$Path", 73, ⟨"NestQuery", "bit", "(I)J"⟩, "NestQuery") (List.mem_of_getElem? (i := 6) rfl)
theorem ml_7 {G : va_G} {y : Nat → ClassId} {s : State} (hK : nq_K G y s) : va_Nw (.methodLinkNest RX0 51 yX10_isIn "NestQuery") s := hK.2.1.2 ("NestQuery$Acts", 51, ⟨"NestQuery", "isIn", "(JI)Z"⟩, "NestQuery") (List.mem_of_getElem? (i := 7) rfl)
theorem ml_8 {G : va_G} {y : Nat → ClassId} {s : State} (hK : nq_K G y s) : va_Nw (.methodLinkNest RX0 59 yX10_bit "NestQuery") s := hK.2.1.2 ("NestQuery$Acts", 59, ⟨"NestQuery", "bit", "(I)J"⟩, "NestQuery") (List.mem_of_getElem? (i := 8) rfl)
theorem ml_9 {G : va_G} {y : Nat → ClassId} {s : State} (hK : nq_K G y s) : va_Nw (.methodLinkNest RX0 169 yX10_isWord "NestQuery") s := hK.2.1.2 ("NestQuery$Acts", 169, ⟨"NestQuery", "isWord", "(I)Z"⟩, "NestQuery") (List.mem_of_getElem? (i := 9) rfl)
theorem ml_10 {G : va_G} {y : Nat → ClassId} {s : State} (hK : nq_K G y s) : va_Nw (.methodLinkNest RX6 49 yX10_isIn "NestQuery") s := hK.2.1.2 ("NestQuery$State", 49, ⟨"NestQuery", "isIn", "(JI)Z"⟩, "NestQuery") (List.mem_of_getElem? (i := 10) rfl)
theorem ml_11 {G : va_G} {y : Nat → ClassId} {s : State} (hK : nq_K G y s) : va_Nw (.methodLinkNest RX1 58 yX10_firstLetterHighest "NestQuery") s := hK.2.1.2 ("NestQuery$DataReader", 58, ⟨"NestQuery", "firstLetterHighest", "(I)I"⟩, "NestQuery") (List.mem_of_getElem? (i := 11) rfl)
theorem ml_12 {G : va_G} {y : Nat → ClassId} {s : State} (hK : nq_K G y s) : va_Nw (.methodLinkNest RX5 99 yX10_firstLetterHighest "NestQuery") s := hK.2.1.2 ("NestQuery$PathReader", 99, ⟨"NestQuery", "firstLetterHighest", "(I)I"⟩, "NestQuery") (List.mem_of_getElem? (i := 12) rfl)
theorem el1 {hi x : Int} : el 1 hi x := ⟨fun h => absurd h (by decide), fun h => absurd h (by decide), fun h => absurd h (by decide)⟩
theorem el7 {hi x : Int} (h : x ≤ hi) : el 7 hi x := ⟨fun _ => h, fun h => absurd h (by decide), fun h => absurd h (by decide)⟩
theorem el9 {hi x : Int} (h0 : 0 ≤ x) (h : x ≤ hi) : el 9 hi x := ⟨fun h => absurd h (by decide), fun _ => ⟨h0, h⟩, fun h => absurd h (by decide)⟩
theorem el10 {hi x : Int} (h0 : -1 ≤ x) (h : x ≤ hi) : el 10 hi x := ⟨fun h => absurd h (by decide), fun h => absurd h (by decide), fun _ => ⟨h0, h⟩⟩
theorem va_cpy_el2 {cd : Nat} {hi : Int} {f g : Nat → Int32} {n : Nat} (hf : ∀ q, q < n → el cd hi (f q).toInt) (hg : ∀ q, el cd hi (g q).toInt) : ∀ q, el cd hi (va_cpy f g 0 0 n q).toInt := by
  intro q
  unfold va_cpy
  split
  · rename_i h
    exact hf _ (by omega)
  · exact hg _
theorem ok.gi {y : Nat → ClassId} {E : th_E} {σ : th_M} {a κ k ci : Nat} {lo hi : Int} (h : ok y E σ) (ha : kd E a = κ) (h0 : κ ≠ 0) (hq : kfl κ k = some (ci, 0, lo, hi)) : ∃ z : Int, gI σ a k = z ∧ rng z ∧ lo ≤ z ∧ z ≤ hi := by
  obtain ⟨w, fs, v, q1, q2, q3, q4, q5⟩ := h.fld ha h0 hq
  obtain ⟨z, e, r, b1, b2⟩ := q5.1 rfl
  subst e
  exact ⟨z, gI_of q1 q3 r, r, b1, b2⟩
section OKX
variable {p : Program} {l : Launch} {e : Env} {R : Room} {s : State} {m : MethodId} {args : Array Value} {below : List Frame} {meth : Method} {c : Code} {H H0 : Heap} {locs : List Loc} {cells slots : Nat} {Q : State → Prop} {rest st0 : List Value} {pc : Nat} {ls : Array Slot} {cc : ByteArray}
/-- where roads meet again -/
theorem th_join {α : Type} {J : Nat} {stk : α → List Value} (Inv : α → th_M → Heap → List Loc → Array Slot → Prop) (hJ : ∀ (x : α) (σ : th_M) (H : Heap) (locs : List Loc) (ls : Array Slot), Inv x σ H locs ls → W p l e R s m args below meth c H locs cells slots Q (F0 m J ls (stk x))) (kk : (∀ (x : α) (σ : th_M) (H : Heap) (locs : List Loc) (ls : Array Slot), Inv x σ H locs ls → W p l e R s m args below meth c H locs cells slots Q (F0 m J ls (stk x))) → W p l e R s m args below meth c H locs cells slots Q (F0 m pc ls st0)) : W p l e R s m args below meth c H locs cells slots Q (F0 m pc ls st0) := kk hJ
theorem and_le (x : Int32) {n : Nat} {k : Int32} (hk : k.toBitVec.toNat = n) (hn : n < 2147483648) : 0 ≤ (x &&& k).toInt ∧ (x &&& k).toInt ≤ n := by
  have h1 : (x &&& k).toBitVec.toNat ≤ n := by
    rw [Int32.toBitVec_and, BitVec.toNat_and, ← hk]
    exact Nat.and_le_right
  have h2 : (x &&& k).toInt = ((x &&& k).toBitVec.toNat : Int) := by
    show (x &&& k).toBitVec.toInt = _
    rw [BitVec.toInt_eq_toNat_of_lt]
    omega
  rw [h2]
  omega
theorem th_and1 {x : Int32} (k : ∀ z : Int, rng z → (0 ≤ z ∧ z ≤ 1) → W p l e R s m args below meth c H locs cells slots Q (F0 m pc ls (.int (I z) :: rest))) : W p l e R s m args below meth c H locs cells slots Q (F0 m pc ls (.int (x &&& I 1) :: rest)) := by
  have h := k _ (rng_toInt _) (and_le x (k := I 1) (n := 1) rfl (by decide))
  rw [I_of] at h
  exact h
theorem th_and31 {x : Int32} (k : ∀ z : Int, rng z → (0 ≤ z ∧ z ≤ 31) → W p l e R s m args below meth c H locs cells slots Q (F0 m pc ls (.int (I z) :: rest))) : W p l e R s m args below meth c H locs cells slots Q (F0 m pc ls (.int (x &&& I 31) :: rest)) := by
  have h := k _ (rng_toInt _) (and_le x (k := I 31) (n := 31) rfl (by decide))
  rw [I_of] at h
  exact h
theorem th_and255 {x : Int32} (k : ∀ z : Int, rng z → (0 ≤ z ∧ z ≤ 255) → W p l e R s m args below meth c H locs cells slots Q (F0 m pc ls (.int (I z) :: rest))) : W p l e R s m args below meth c H locs cells slots Q (F0 m pc ls (.int (x &&& I 255) :: rest)) := by
  have h := k _ (rng_toInt _) (and_le x (k := I 255) (n := 255) rfl (by decide))
  rw [I_of] at h
  exact h
theorem th_and32767 {x : Int32} (k : ∀ z : Int, rng z → (0 ≤ z ∧ z ≤ 32767) → W p l e R s m args below meth c H locs cells slots Q (F0 m pc ls (.int (I z) :: rest))) : W p l e R s m args below meth c H locs cells slots Q (F0 m pc ls (.int (x &&& I 32767) :: rest)) := by
  have h := k _ (rng_toInt _) (and_le x (k := I 32767) (n := 32767) rfl (by decide))
  rw [I_of] at h
  exact h
theorem th_addo {a b : Int} (k : ∀ z : Int, rng z → (z = a + b ∨ a + b < -2147483648 ∨ 2147483647 < a + b) → W p l e R s m args below meth c H locs cells slots Q (F0 m pc ls (.int (I z) :: rest))) : W p l e R s m args below meth c H locs cells slots Q (F0 m pc ls (.int (I a + I b) :: rest)) := by
  have h := k (I a + I b).toInt (rng_toInt _) (by
    by_cases h : rng (a + b)
    · left; rw [I_add, I_toInt h]
    · right; simp only [rng] at h; omega)
  rw [I_of] at h
  exact h
theorem th_subo {a b : Int} (k : ∀ z : Int, rng z → (z = a - b ∨ a - b < -2147483648 ∨ 2147483647 < a - b) → W p l e R s m args below meth c H locs cells slots Q (F0 m pc ls (.int (I z) :: rest))) : W p l e R s m args below meth c H locs cells slots Q (F0 m pc ls (.int (I a - I b) :: rest)) := by
  have h := k (I a - I b).toInt (rng_toInt _) (by
    by_cases h : rng (a - b)
    · left; rw [I_sub, I_toInt h]
    · right; simp only [rng] at h; omega)
  rw [I_of] at h
  exact h
theorem th_nego {a : Int} (k : ∀ z : Int, rng z → (z = -a ∨ -a < -2147483648 ∨ 2147483647 < -a) → W p l e R s m args below meth c H locs cells slots Q (F0 m pc ls (.int (I z) :: rest))) : W p l e R s m args below meth c H locs cells slots Q (F0 m pc ls (.int (-I a) :: rest)) := by
  have h := k (-I a).toInt (rng_toInt _) (by
    by_cases h : rng (-a)
    · left; rw [I_neg, I_toInt h]
    · right; simp only [rng] at h; omega)
  rw [I_of] at h
  exact h
theorem I_ne0 {z : Int} (h : rng z) (h0 : z ≠ 0) : ¬ I z = 0 := fun hc => h0 ((I_eq h ⟨by decide, by decide⟩).mp hc)
theorem I_div {a : Int} {n : Nat} (ha : rng a) (h0 : 0 ≤ a) (hn : 0 < n) (hn2 : (n : Int) ≤ 2147483647) : I a / I n = I (a / n) := by
  have hb : rng (n : Int) := ⟨by omega, hn2⟩
  have h1 : 0 ≤ a / (n : Int) := Int.ediv_nonneg h0 (by omega)
  have h2 : a / (n : Int) ≤ a := Int.ediv_le_self _ h0
  apply Int32.toInt_inj.mp
  rw [I_toInt ⟨by omega, by have := ha.2; omega⟩, Int32.toInt_div, I_toInt ha, I_toInt hb, Int.tdiv_eq_ediv_of_nonneg h0, Int.bmod_eq_of_le] <;> have := ha.2 <;> (simp; omega)
theorem th_div {a : Int} {n : Nat} (ha : rng a) (h0 : 0 ≤ a) (hn : 0 < n ∧ (n : Int) ≤ 2147483647) (k : ∀ z : Int, rng z → (z = a / n) → W p l e R s m args below meth c H locs cells slots Q (F0 m pc ls (.int (I z) :: rest))) : W p l e R s m args below meth c H locs cells slots Q (F0 m pc ls (.int (I a / I n) :: rest)) := by
  rw [I_div ha h0 hn.1 hn.2]
  have h1 : 0 ≤ a / (n : Int) := Int.ediv_nonneg h0 (by omega)
  have h2 : a / (n : Int) ≤ a := Int.ediv_le_self _ h0
  exact k _ ⟨by omega, by have := ha.2; omega⟩ rfl
theorem th_case {a n : Int} {B : Prop} (h1 : a = n → B) (h2 : ¬ a = n → B) : B := by
  by_cases h : a = n
  · exact h1 h
  · exact h2 h
theorem th_tableOut (hexec : p.tables.exec = Jvm.exec) (hb : c.code = cc) {dflt lo hi : Int} {offs : Array Int} {len : Nat} {x : Int} {tgt : Nat} (hr : rng x) (hdg : decode cc pc = .ok (.tableswitch dflt lo hi offs, len)) (h : x < lo ∨ hi < x) (ht : (pc : Int) + dflt = (tgt : Int)) (kk : W p l e R s m args below meth c H locs cells slots Q (F0 m tgt ls rest)) : W p l e R s m args below meth c H locs cells slots Q (F0 m pc ls (.int (I x) :: rest)) :=
  lv_tableOut hexec hb hdg (by rw [I_toInt hr]; exact h) ht kk
theorem nar_z {z : Int} (h : z = 0 ∨ z = 1) : narrow .boolean (.int (I z)) = .int (I z) := by rcases h with h | h <;> rw [h] <;> rfl
end OKX
/-- a reference, or none, comes back -/
def th_Qq (G : va_G) (b0 : Nat) (post : Option Nat → th_M → Prop) : Array Value → State → Outcome → State → Prop := fun _ st oc t => (∃ (u : th_M) (x : Option Nat), oc = .returned (some (va_rf x)) ∧ post x u ∧ th_H G b0 u t.heap) ∧ va_F (th_A b0) st t
section OKQ
variable {p : Program} {l : Launch} {e : Env} {R : Room} {s : State} {m : MethodId} {args : Array Value} {below : List Frame} {meth : Method} {c : Code} {H H0 : Heap} {locs : List Loc} {cells slots : Nat} {Q : State → Prop} {G : va_G} {b0 : Nat} {rest st0 : List Value} {mc ms pc : Nat} {ls : Array Slot} {cc : ByteArray} {σ : th_M}
theorem th_callq {a : Array Value} {post : Option Nat → th_M → Prop} (hr : va_Run p l e R s m args below meth c H locs cells slots mc ms (F0 m pc ls st0) rest (th_Qq G b0 post a) (th_A b0)) (hS : va_S (th_A b0) H0 H locs)
    (kk : ∀ (x : Option Nat) (σ1 : th_M) (H1 : Heap) (locs1 : List Loc), post x σ1 → th_H G b0 σ1 H1 → va_S (th_A b0) H0 H1 locs1 → W p l e R s m args below meth c H1 locs1 (cells + mc) (slots + ms) Q (F0 m (pc + 3) ls (va_rf x :: rest))) : W p l e R s m args below meth c H locs cells slots Q (F0 m pc ls st0) := by
  intro T hT X
  obtain ⟨v, st₀, t, T', L, h0, X', hL, e1, e2, ⟨⟨u, x, hv, hp, hb⟩, hz, hk⟩, st⟩ := hr T hT X
  cases hv
  rw [h0] at hz hk
  obtain ⟨t2, a1, b1⟩ := kk x u T'.heap (locs ++ L) hp (by rw [e1]; exact hb)
    ⟨Nat.le_trans hS.1 (by rw [e1]; exact hz), fun q h1 h2 => by rw [e1, hk q (Nat.lt_of_lt_of_le h1 hS.1) h2]; exact hS.2.1 q h1 h2, fun q hq => by
      rcases List.mem_append.mp hq with h | h
      · exact hS.2.2 q h
      · exact hL q h⟩ T' rfl X'
  exact ⟨t2, st t2 a1, b1⟩
theorem th_aret {post : Option Nat → th_M → Prop} {C : String} (hx : p.tables.exec = Jvm.exec) (hb : c.code = cc) (hr : meth.sig.returnType = some (.object C)) (hlocks : meth.locks = false) (hH : th_H G b0 σ H) (hS : va_S (th_A b0) s.heap H locs) (x : Option Nat) (h : post x σ) (hdg : decode cc pc = .ok (.areturn, 1)) : W p l e R s m args below meth c H locs cells slots (MQ below (th_Qq G b0 post) args s cells slots (th_A b0)) (F0 m pc ls [va_rf x]) :=
  W.aret hx hb hr (Or.inl ⟨C, rfl⟩) (by cases x with
    | none => exact Or.inl rfl
    | some b => exact Or.inr ⟨b, rfl⟩) (fun t ht hW => ⟨⟨σ, x, rfl, h, by show th_H G b0 σ t.heap; rw [ht]; exact hH⟩, hS.F ht⟩) hS.2.2 hdg hlocks
end OKQ
def tvE (E : th_E) (σ : th_M) (a n : Nat) : TV := ((ad E a 0, ad E a 1, ad E a 2, ad E a 3), (aF σ (ad E a 0), aF σ (ad E a 1), aF σ (ad E a 2), aF σ (ad E a 3)), n, gI σ a 4)
theorem l5_of {fs : List Value} {a b c d e : Value} (hl : fs.length = 5) (h0 : fs[0]? = some a) (h1 : fs[1]? = some b) (h2 : fs[2]? = some c) (h3 : fs[3]? = some d) (h4 : fs[4]? = some e) : fs = [a, b, c, d, e] := by
  match fs, hl with
  | [x0, x1, x2, x3, x4], _ =>
    simp only [List.getElem?_cons_zero, List.getElem?_cons_succ, Option.some.injEq] at h0 h1 h2 h3 h4
    subst h0 h1 h2 h3 h4
    rfl
theorem ok.isT1 {y : Nat → ClassId} {E : th_E} {σ : th_M} {a : Nat} (h : ok y E σ) (ha : kd E a = 1) : isT y σ a (tvE E σ a 60) := by
  obtain ⟨w, fs, v0, q1, q2, p0, _, f0⟩ := h.fld ha (by decide) k1_0
  obtain ⟨_, fs1, v1, r1, _, p1, _, f1⟩ := h.fld ha (by decide) k1_1
  obtain ⟨_, fs2, v2, r2, _, p2, _, f2⟩ := h.fld ha (by decide) k1_2
  obtain ⟨_, fs3, v3, r3, _, p3, _, f3⟩ := h.fld ha (by decide) k1_3
  obtain ⟨_, fs4, v4, r4, _, p4, _, f4⟩ := h.fld ha (by decide) k1_4
  cases (show (some (Sum.inr (9, fs)) : Option va_E) = some (.inr (9, fs1)) from q1.symm.trans r1)
  cases (show (some (Sum.inr (9, fs)) : Option va_E) = some (.inr (9, fs2)) from q1.symm.trans r2)
  cases (show (some (Sum.inr (9, fs)) : Option va_E) = some (.inr (9, fs3)) from q1.symm.trans r3)
  cases (show (some (Sum.inr (9, fs)) : Option va_E) = some (.inr (9, fs4)) from q1.symm.trans r4)
  obtain ⟨z, e4, rz, lz, uz⟩ := f4.1 rfl
  dsimp only at lz uz
  have e0 := (f0.2.1 isA1).1
  have e1 := (f1.2.1 isA1).1
  have e2 := (f2.2.1 isA1).1
  have e3 := (f3.2.1 isA7).1
  subst e4 e0 e1 e2 e3
  have hg : gI σ a 4 = z := gI_of q1 p4 rz
  have hfs := l5_of q2 p0 p1 p2 p3 p4
  refine ⟨?_, (h.arr ha (by decide) k1_0 isA1).2.1, (h.arr ha (by decide) k1_1 isA1).2.1, (h.arr ha (by decide) k1_2 isA1).2.1, (h.arr ha (by decide) k1_3 isA7).2.1, ?_, ?_, ?_⟩
  · show σ a = some (.inr (9, [.ref (ad E a 0), .ref (ad E a 1), .ref (ad E a 2), .ref (ad E a 3), .int (I (gI σ a 4))]))
    rw [q1, hfs, hg]
  · show 0 ≤ gI σ a 4
    omega
  · show gI σ a 4 ≤ ((60 : Nat) : Int)
    omega
  · show 60 ≤ 128
    decide
theorem ok.isT2 {y : Nat → ClassId} {E : th_E} {σ : th_M} {a : Nat} (h : ok y E σ) (ha : kd E a = 2) : isT y σ a (tvE E σ a 128) := by
  obtain ⟨w, fs, v0, q1, q2, p0, _, f0⟩ := h.fld ha (by decide) k2_0
  obtain ⟨_, fs1, v1, r1, _, p1, _, f1⟩ := h.fld ha (by decide) k2_1
  obtain ⟨_, fs2, v2, r2, _, p2, _, f2⟩ := h.fld ha (by decide) k2_2
  obtain ⟨_, fs3, v3, r3, _, p3, _, f3⟩ := h.fld ha (by decide) k2_3
  obtain ⟨_, fs4, v4, r4, _, p4, _, f4⟩ := h.fld ha (by decide) k2_4
  cases (show (some (Sum.inr (9, fs)) : Option va_E) = some (.inr (9, fs1)) from q1.symm.trans r1)
  cases (show (some (Sum.inr (9, fs)) : Option va_E) = some (.inr (9, fs2)) from q1.symm.trans r2)
  cases (show (some (Sum.inr (9, fs)) : Option va_E) = some (.inr (9, fs3)) from q1.symm.trans r3)
  cases (show (some (Sum.inr (9, fs)) : Option va_E) = some (.inr (9, fs4)) from q1.symm.trans r4)
  obtain ⟨z, e4, rz, lz, uz⟩ := f4.1 rfl
  dsimp only at lz uz
  have e0 := (f0.2.1 isA1).1
  have e1 := (f1.2.1 isA1).1
  have e2 := (f2.2.1 isA1).1
  have e3 := (f3.2.1 isA1).1
  subst e4 e0 e1 e2 e3
  have hg : gI σ a 4 = z := gI_of q1 p4 rz
  have hfs := l5_of q2 p0 p1 p2 p3 p4
  refine ⟨?_, (h.arr ha (by decide) k2_0 isA1).2.1, (h.arr ha (by decide) k2_1 isA1).2.1, (h.arr ha (by decide) k2_2 isA1).2.1, (h.arr ha (by decide) k2_3 isA1).2.1, ?_, ?_, ?_⟩
  · show σ a = some (.inr (9, [.ref (ad E a 0), .ref (ad E a 1), .ref (ad E a 2), .ref (ad E a 3), .int (I (gI σ a 4))]))
    rw [q1, hfs, hg]
  · show 0 ≤ gI σ a 4
    omega
  · show gI σ a 4 ≤ ((128 : Nat) : Int)
    omega
  · show 128 ≤ 128
    decide
