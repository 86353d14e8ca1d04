/-! THE WORLD AS A MAP: what lies at an address. Every method of class and reference speaks of one map; what may change lies from b0 on. -/
abbrev th_M : Type := Nat → Option va_E
def th_up (σ : th_M) (a : Nat) (e : va_E) : th_M := fun q => if q = a then some e else σ q
theorem th_up_at (σ : th_M) (a : Nat) (e : va_E) : th_up σ a e a = some e := if_pos rfl
theorem th_up_ne (σ : th_M) {a b : Nat} (e : va_E) (h : b ≠ a) : th_up σ a e b = σ b := if_neg h
def th_H (G : va_G) (b0 : Nat) (σ : th_M) (H : Heap) : Prop := b0 ≤ H.size ∧ ∀ (a : Nat) (e : va_E), σ a = some e → b0 ≤ a ∧ va_at G vwCl (a, e) H
def th_ws (σ : th_M) (n : Nat) : va_W := (List.range n).filterMap (fun a => (σ a).map (fun e => (a, e)))
theorem th_ws_mem {σ : th_M} {n k : Nat} {q : Nat × va_E} (h : (th_ws σ n)[k]? = some q) : q.1 < n ∧ σ q.1 = some q.2 := by
  have h1 := List.mem_of_getElem? h
  obtain ⟨a, ha, hq⟩ := List.mem_filterMap.mp h1
  cases hs : σ a with
  | none => rw [hs] at hq; cases hq
  | some e =>
    rw [hs] at hq
    have hq : (a, e) = q := Option.some.inj hq
    subst hq
    exact ⟨List.mem_range.mp ha, hs⟩
theorem th_ws_pos {σ : th_M} {n a : Nat} {e : va_E} (h : σ a = some e) (hn : a < n) : ∃ k : Nat, (th_ws σ n)[k]? = some (a, e) := by
  have h1 : (a, e) ∈ th_ws σ n := List.mem_filterMap.mpr ⟨a, List.mem_range.mpr hn, by rw [h]; rfl⟩
  exact List.getElem?_of_mem h1
theorem th_ws_fst (σ : th_M) : ∀ (l : List Nat), (l.filterMap (fun a => (σ a).map (fun e => (a, e)))).map Prod.fst = l.filter (fun a => (σ a).isSome) := by
  intro l
  induction l with
  | nil => rfl
  | cons x xs ih =>
    cases hs : σ x with
    | none => simp [List.filterMap_cons, List.filter_cons, hs, ih]
    | some e => simp [List.filterMap_cons, List.filter_cons, hs, ih]
theorem th_ws_inj {σ : th_M} {n i j : Nat} {p q : Nat × va_E} (hi : (th_ws σ n)[i]? = some p) (hj : (th_ws σ n)[j]? = some q) (h : p.1 = q.1) : i = j := by
  have hn : ((th_ws σ n).map Prod.fst).Nodup := by
    rw [th_ws, th_ws_fst]
    exact List.nodup_range.filter _
  have h1 : ((th_ws σ n).map Prod.fst)[i]? = some p.1 := by rw [List.getElem?_map, hi]; rfl
  have h2 : ((th_ws σ n).map Prod.fst)[j]? = some p.1 := by rw [List.getElem?_map, hj, h]; rfl
  obtain ⟨li, e1⟩ := List.getElem?_eq_some_iff.mp h1
  obtain ⟨lj, e2⟩ := List.getElem?_eq_some_iff.mp h2
  exact (List.getElem_inj hn).mp (e1.trans e2.symm)
abbrev th_A (b0 : Nat) : Nat → Prop := fun q => b0 ≤ q
theorem th_H.P {G : va_G} {b0 : Nat} {σ : th_M} {H : Heap} (h : th_H G b0 σ H) : va_P G vwCl (th_ws σ H.size) H := fun k q hq => (h.2 q.1 q.2 (th_ws_mem hq).2).2
theorem th_H.D {G : va_G} {b0 : Nat} {σ : th_M} {H : Heap} (h : th_H G b0 σ H) : va_D (th_A b0) (th_ws σ H.size) := ⟨fun _ _ _ _ hi hj he => th_ws_inj hi hj he, fun _ q hq => (h.2 q.1 q.2 (th_ws_mem hq).2).1⟩
theorem th_H.lt {G : va_G} {b0 : Nat} {σ : th_M} {H : Heap} (h : th_H G b0 σ H) {a : Nat} {e : va_E} (he : σ a = some e) : a < H.size := (h.2 a e he).2.lt
theorem th_H.pos {G : va_G} {b0 : Nat} {σ : th_M} {H : Heap} (h : th_H G b0 σ H) {a : Nat} {e : va_E} (he : σ a = some e) : ∃ k : Nat, (th_ws σ H.size)[k]? = some (a, e) := th_ws_pos he (h.lt he)
theorem th_H.non {G : va_G} {b0 : Nat} {σ : th_M} {H : Heap} (h : th_H G b0 σ H) {a : Nat} (ha : H.size ≤ a) : σ a = none := by
  cases hs : σ a with
  | none => rfl
  | some e => exact absurd (h.lt hs) (Nat.not_lt.mpr ha)
/-- behind a write at a -/
theorem th_H.set {G : va_G} {b0 : Nat} {σ : th_M} {H H1 : Heap} (h : th_H G b0 σ H) {k a : Nat} {e e1 : va_E} (hk : (th_ws σ H.size)[k]? = some (a, e)) (hP : va_P G vwCl ((th_ws σ H.size).set k (a, e1)) H1) (hz : b0 ≤ H1.size) : th_H G b0 (th_up σ a e1) H1 := by
  refine ⟨hz, fun b x hx => ?_⟩
  have hl : k < (th_ws σ H.size).length := (List.getElem?_eq_some_iff.mp hk).1
  by_cases hb : b = a
  · subst hb
    rw [th_up_at] at hx
    cases hx
    exact ⟨(h.2 b e (th_ws_mem hk).2).1, hP k (b, e1) (by rw [List.getElem?_set_self hl])⟩
  · rw [th_up_ne _ _ hb] at hx
    obtain ⟨j, hj⟩ := h.pos hx
    refine ⟨(h.2 b x hx).1, hP j (b, x) ?_⟩
    rw [List.getElem?_set_ne (fun hkj => hb ?_)]
    · exact hj
    · subst hkj
      exact (congrArg Prod.fst (Option.some.inj (hj.symm.trans hk)))
/-- behind a new cell at q -/
theorem th_H.app {G : va_G} {b0 : Nat} {σ : th_M} {H H1 : Heap} (h : th_H G b0 σ H) {q : Nat} {e1 : va_E} (hP : va_P G vwCl (th_ws σ H.size ++ [(q, e1)]) H1) (hD : va_D (th_A b0) (th_ws σ H.size ++ [(q, e1)])) (hz : b0 ≤ H1.size) : σ q = none ∧ th_H G b0 (th_up σ q e1) H1 := by
  have hq : (th_ws σ H.size ++ [(q, e1)])[(th_ws σ H.size).length]? = some (q, e1) := by rw [List.getElem?_append_right (Nat.le_refl _)]; simp
  have hn : σ q = Option.none := by
    cases hs : σ q with
    | none => rfl
    | some x =>
      obtain ⟨j, hj⟩ := h.pos hs
      have hjl : j < (th_ws σ H.size).length := (List.getElem?_eq_some_iff.mp hj).1
      have := hD.1 j _ (q, x) (q, e1) (by rw [List.getElem?_append_left hjl]; exact hj) hq rfl
      omega
  refine ⟨hn, hz, fun b x hx => ?_⟩
  by_cases hb : b = q
  · subst hb
    rw [th_up_at] at hx
    cases hx
    exact ⟨hD.2 _ _ hq, hP _ _ hq⟩
  · rw [th_up_ne _ _ hb] at hx
    obtain ⟨j, hj⟩ := h.pos hx
    have hjl : j < (th_ws σ H.size).length := (List.getElem?_eq_some_iff.mp hj).1
    exact ⟨(h.2 b x hx).1, hP j (b, x) (by rw [List.getElem?_append_left hjl]; exact hj)⟩
/-! ints as numbers -/
abbrev I (z : Int) : Int32 := Int32.ofInt z
abbrev rng (z : Int) : Prop := -2147483648 ≤ z ∧ z ≤ 2147483647
theorem I_toInt {z : Int} (h : rng z) : (I z).toInt = z := Int32.toInt_ofInt_of_le (by have := h.1; simp; omega) (by have := h.2; simp; omega)
theorem rng_toInt (x : Int32) : rng x.toInt := by
  have h1 := Int32.le_toInt x
  have h2 := Int32.toInt_lt x
  constructor <;> omega
theorem I_of (x : Int32) : I x.toInt = x := Int32.ofInt_toInt x
theorem I_add (a b : Int) : I a + I b = I (a + b) := (Int32.ofInt_add a b).symm
theorem I_sub (a b : Int) : I a - I b = I (a - b) := (Int32.ofInt_sub a b).symm
theorem I_mul (a b : Int) : I a * I b = I (a * b) := (Int32.ofInt_mul a b).symm
theorem I_neg (a : Int) : - I a = I (-a) := (Int32.ofInt_neg a).symm
theorem I_le {a b : Int} (ha : rng a) (hb : rng b) : I a ≤ I b ↔ a ≤ b := by rw [Int32.le_iff_toInt_le, I_toInt ha, I_toInt hb]
theorem I_lt {a b : Int} (ha : rng a) (hb : rng b) : I a < I b ↔ a < b := by rw [Int32.lt_iff_toInt_lt, I_toInt ha, I_toInt hb]
theorem I_eq {a b : Int} (ha : rng a) (hb : rng b) : I a = I b ↔ a = b := by
  constructor
  · intro h
    have := congrArg Int32.toInt h
    rwa [I_toInt ha, I_toInt hb] at this
  · intro h; rw [h]
theorem I_nat {z : Int} (h : rng z) (h0 : 0 ≤ z) : (I z).toNatClampNeg = z.toNat := by
  rw [← Int32.toNat_toInt, I_toInt h]
theorem I_in {z : Int} {n : Nat} (h : rng z) (h0 : 0 ≤ z) (hn : z < n) : vp_in (I z) n := by
  intro hc
  rcases hc with hc | hc
  · have : I z < I 0 := hc
    rw [I_lt h ⟨by decide, by decide⟩] at this
    omega
  · rw [I_nat h h0] at hc
    omega
section TH
variable {p : Program} {l : Launch} {e : Env} {R : Room} {s : State} {m : MethodId} {args : Array Value} {below : List Frame} {meth : Method} {c : Code} {H H0 : Heap} {locs : List Loc} {cells slots : Nat} {Q : State → Prop} {G : va_G} {y : Nat → ClassId} {b0 : Nat} {σ : th_M} {As rest st0 : List Value} {a b mc ms pc : Nat} {ls : Array Slot} {cc : ByteArray}
theorem th_get (hexec : p.tables.exec = Jvm.exec) (hb : c.code = cc) {own C : String} {T : u_T} {N ci index : Nat} {Ts : List Cond} (hts : ∀ w ∈ Ts, w.before args s = true) (hin : ∀ w ∈ u_ws C T N, w ∈ Ts) (hown : s.vm.findClass own = some m.cls) (hK : nq_K G y s) (hH : th_H G b0 σ H) {fs : List Value} (he : σ a = some (.inr (ci, fs))) (hc : vwCl[ci]? = some (C, T, N)) (k : Nat) (hk : k < N) (hlink : (Cond.fieldLink own index (T k).1 (T k).2.1 (T k).2.2.1).before args s = true) {v : Value} (hv : fs[k]? = some v) (hdg : decode cc pc = .ok (.getfield index, 3))
    (kk : W p l e R s m args below meth c H locs cells slots Q (F0 m (pc + 3) ls (v :: rest))) : W p l e R s m args below meth c H locs cells slots Q (F0 m pc ls (.ref a :: rest)) := by
  obtain ⟨q0, hq⟩ := hH.pos he
  exact va_get hexec hb hts hin hown hK.1 hH.P q0 hq hc k hk hlink (fun _ h9 => h9) hv hdg kk
theorem th_getN (hexec : p.tables.exec = Jvm.exec) (hb : c.code = cc) {own C host : String} {T : u_T} {N ci index : Nat} {Ts : List Cond} (hts : ∀ w ∈ Ts, w.before args s = true) (hin : ∀ w ∈ u_ws C T N, w ∈ Ts) (hown : s.vm.findClass own = some m.cls) (hK : nq_K G y s) (hH : th_H G b0 σ H) {fs : List Value} (he : σ a = some (.inr (ci, fs))) (hc : vwCl[ci]? = some (C, T, N)) (k : Nat) (hk : k < N) (hlink : (Cond.fieldLinkNest own index (T k).1 (T k).2.1 (T k).2.2.1 host).before args s = true) {v : Value} (hv : fs[k]? = some v) (hdg : decode cc pc = .ok (.getfield index, 3))
    (kk : W p l e R s m args below meth c H locs cells slots Q (F0 m (pc + 3) ls (v :: rest))) : W p l e R s m args below meth c H locs cells slots Q (F0 m pc ls (.ref a :: rest)) := by
  obtain ⟨q0, hq⟩ := hH.pos he
  exact va_getN hexec hb hts hin hown hK.1 hH.P q0 hq hc k hk hlink (fun _ h9 => h9) hv hdg kk
theorem th_put (hexec : p.tables.exec = Jvm.exec) (hb : c.code = cc) {own C : String} {T : u_T} {N ci index : Nat} {Ts : List Cond} (hts : ∀ w ∈ Ts, w.before args s = true) (hin : ∀ w ∈ u_ws C T N, w ∈ Ts) (ty0 : Nat → FieldType) (hty : ∀ k, k < N → parseFieldDescriptor (T k).2.2.1 = some (ty0 k)) (hnm : ∀ a, a < N → ∀ b, b < N → a ≠ b → (T a).2.1 ≠ (T b).2.1) (hown : s.vm.findClass own = some m.cls) (hK : nq_K G y s) (hH : th_H G b0 σ H) (hS : va_S (th_A b0) H0 H locs) (h0 : b0 ≤ H0.size) {fs : List Value} (he : σ a = some (.inr (ci, fs))) (hc : vwCl[ci]? = some (C, T, N)) (k : Nat) (hk : k < N) (hlink : (Cond.fieldLink own index (T k).1 (T k).2.1 (T k).2.2.1).before args s = true) (hfin : (T k).2.2.2 = false) {ty : FieldType} {v : Value} (hd : parseFieldDescriptor (T k).2.2.1 = some ty) (hn : narrow ty v = v) (hfit : fits ty v = true) (hl : k < fs.length) (hdg : decode cc pc = .ok (.putfield index, 3))
    (kk : ∀ (H1 : Heap) (locs1 : List Loc), th_H G b0 (th_up σ a (.inr (ci, fs.set k v))) H1 → va_S (th_A b0) H0 H1 locs1 → W p l e R s m args below meth c H1 locs1 cells slots Q (F0 m (pc + 3) ls rest)) : W p l e R s m args below meth c H locs cells slots Q (F0 m pc ls (v :: .ref a :: rest)) := by
  obtain ⟨q0, hq⟩ := hH.pos he
  exact va_put hexec hb hts hin ty0 hty hnm hown hK.1 hH.P hH.D hS q0 hq hc k hk hlink (fun _ h9 => h9) hfin hd hn hfit hl hdg (fun H1 locs1 hP1 _ hS1 => kk H1 locs1 (hH.set hq hP1 (Nat.le_trans h0 hS1.1)) hS1)
theorem th_putN (hexec : p.tables.exec = Jvm.exec) (hb : c.code = cc) {own C host : String} {T : u_T} {N ci index : Nat} {Ts : List Cond} (hts : ∀ w ∈ Ts, w.before args s = true) (hin : ∀ w ∈ u_ws C T N, w ∈ Ts) (ty0 : Nat → FieldType) (hty : ∀ k, k < N → parseFieldDescriptor (T k).2.2.1 = some (ty0 k)) (hnm : ∀ a, a < N → ∀ b, b < N → a ≠ b → (T a).2.1 ≠ (T b).2.1) (hown : s.vm.findClass own = some m.cls) (hK : nq_K G y s) (hH : th_H G b0 σ H) (hS : va_S (th_A b0) H0 H locs) (h0 : b0 ≤ H0.size) {fs : List Value} (he : σ a = some (.inr (ci, fs))) (hc : vwCl[ci]? = some (C, T, N)) (k : Nat) (hk : k < N) (hlink : (Cond.fieldLinkNest own index (T k).1 (T k).2.1 (T k).2.2.1 host).before args s = true) (hfin : (T k).2.2.2 = false) {ty : FieldType} {v : Value} (hd : parseFieldDescriptor (T k).2.2.1 = some ty) (hn : narrow ty v = v) (hfit : fits ty v = true) (hl : k < fs.length) (hdg : decode cc pc = .ok (.putfield index, 3))
    (kk : ∀ (H1 : Heap) (locs1 : List Loc), th_H G b0 (th_up σ a (.inr (ci, fs.set k v))) H1 → va_S (th_A b0) H0 H1 locs1 → W p l e R s m args below meth c H1 locs1 cells slots Q (F0 m (pc + 3) ls rest)) : W p l e R s m args below meth c H locs cells slots Q (F0 m pc ls (v :: .ref a :: rest)) := by
  obtain ⟨q0, hq⟩ := hH.pos he
  exact va_putN hexec hb hts hin ty0 hty hnm hown hK.1 hH.P hH.D hS q0 hq hc k hk hlink (fun _ h9 => h9) hfin hd hn hfit hl hdg (fun H1 locs1 hP1 _ hS1 => kk H1 locs1 (hH.set hq hP1 (Nat.le_trans h0 hS1.1)) hS1)
theorem th_iald (hexec : p.tables.exec = Jvm.exec) (hb : c.code = cc) (hK : nq_K G y s) (hH : th_H G b0 σ H) {n : Nat} {f : Nat → Int32} (ha : σ a = some (.inl (y 0, n, .inl f))) {i : Int} (hr : rng i) (h0 : 0 ≤ i) (hn : i < n) (hdg : decode cc pc = .ok (.iaload, 1))
    (kk : W p l e R s m args below meth c H locs cells slots Q (F0 m (pc + 1) ls (.int (I (f i.toNat).toInt) :: rest))) : W p l e R s m args below meth c H locs cells slots Q (F0 m pc ls (.int (I i) :: .ref a :: rest)) := by
  obtain ⟨q0, hq⟩ := hH.pos ha
  refine va_iald hexec hb hK.1 hH.P q0 0 hq rfl (I_in hr h0 hn) hdg ?_
  rw [I_nat hr h0, ← I_of (f i.toNat)]
  exact kk
theorem th_zald (hexec : p.tables.exec = Jvm.exec) (hb : c.code = cc) (hK : nq_K G y s) (hH : th_H G b0 σ H) {n : Nat} {f : Nat → Int32} (ha : σ a = some (.inl (y 2, n, .inl f))) {i : Int} (hr : rng i) (h0 : 0 ≤ i) (hn : i < n) (hdg : decode cc pc = .ok (.baload, 1))
    (kk : W p l e R s m args below meth c H locs cells slots Q (F0 m (pc + 1) ls (.int (I (f i.toNat).toInt) :: rest))) : W p l e R s m args below meth c H locs cells slots Q (F0 m pc ls (.int (I i) :: .ref a :: rest)) := by
  obtain ⟨q0, hq⟩ := hH.pos ha
  refine va_zald hexec hb hK.1 hH.P q0 2 hq rfl (I_in hr h0 hn) hdg ?_
  rw [I_nat hr h0, ← I_of (f i.toNat)]
  exact kk
theorem th_lald (hexec : p.tables.exec = Jvm.exec) (hb : c.code = cc) (hK : nq_K G y s) (hH : th_H G b0 σ H) {n : Nat} {f : Nat → Int64} (ha : σ a = some (.inl (y 1, n, .inr (.inl f)))) {i : Int} (hr : rng i) (h0 : 0 ≤ i) (hn : i < n) (hdg : decode cc pc = .ok (.laload, 1))
    (kk : W p l e R s m args below meth c H locs cells slots Q (F0 m (pc + 1) ls (.long (f i.toNat) :: rest))) : W p l e R s m args below meth c H locs cells slots Q (F0 m pc ls (.int (I i) :: .ref a :: rest)) := by
  obtain ⟨q0, hq⟩ := hH.pos ha
  refine va_lald hexec hb hK.1 hH.P q0 1 hq rfl (I_in hr h0 hn) hdg ?_
  rw [I_nat hr h0]
  exact kk
theorem th_iast (hexec : p.tables.exec = Jvm.exec) (hb : c.code = cc) (hK : nq_K G y s) (hH : th_H G b0 σ H) (hS : va_S (th_A b0) H0 H locs) (h00 : b0 ≤ H0.size) {n : Nat} {f : Nat → Int32} (ha : σ a = some (.inl (y 0, n, .inl f))) {i : Int} {x : Int32} (hr : rng i) (h0 : 0 ≤ i) (hn : i < n) (hdg : decode cc pc = .ok (.iastore, 1))
    (kk : ∀ (H1 : Heap) (locs1 : List Loc), th_H G b0 (th_up σ a (.inl (y 0, n, .inl (upd f i.toNat x)))) H1 → va_S (th_A b0) H0 H1 locs1 → W p l e R s m args below meth c H1 locs1 cells slots Q (F0 m (pc + 1) ls rest)) : W p l e R s m args below meth c H locs cells slots Q (F0 m pc ls (.int x :: .int (I i) :: .ref a :: rest)) := by
  obtain ⟨q0, hq⟩ := hH.pos ha
  refine va_iast hexec hb hK.1 hH.P hH.D hS q0 0 hq rfl (I_in hr h0 hn) hdg (fun H1 locs1 hP1 _ hS1 => ?_)
  rw [I_nat hr h0] at hP1
  exact kk H1 locs1 (hH.set hq hP1 (Nat.le_trans h00 hS1.1)) hS1
theorem th_alen (hexec : p.tables.exec = Jvm.exec) (hb : c.code = cc) (hK : nq_K G y s) (hH : th_H G b0 σ H) {t0 : Nat} {cA : ClassId} {x : vp_A} (ha : σ a = some (.inl (cA, x))) {ty : FieldType} (ht : (tyL y)[t0]? = some (cA, ty)) (hdg : decode cc pc = .ok (.arraylength, 1))
    (kk : W p l e R s m args below meth c H locs cells slots Q (F0 m (pc + 1) ls (.int (I x.1) :: rest))) : W p l e R s m args below meth c H locs cells slots Q (F0 m pc ls (.ref a :: rest)) := by
  obtain ⟨q0, hq⟩ := hH.pos ha
  exact va_alen hexec hb hK.1 hH.P q0 t0 hq ht (v := I x.1) (Int32.ofInt_eq_ofNat (n := x.1)).symm hdg kk
/-- a contract's start and ends -/
def th_P (G : va_G) (y : Nat → ClassId) (b0 : Nat) (σ : th_M) (av : List Value) : Array Value → State → Prop := va_Pc av (fun U => th_H G b0 σ U.heap ∧ nq_K G y U)
def th_Qi (G : va_G) (b0 : Nat) (post : Int → th_M → Prop) : Array Value → State → Outcome → State → Prop := va_Qi (fun r σ' => post r.toInt σ') (fun σ' t => th_H G b0 σ' t.heap) (th_A b0)
def th_Ql (G : va_G) (b0 : Nat) (post : Int64 → th_M → Prop) : Array Value → State → Outcome → State → Prop := va_Ql post (fun σ' t => th_H G b0 σ' t.heap) (th_A b0)
def th_Qv (G : va_G) (b0 : Nat) (post : th_M → Prop) : Array Value → State → Outcome → State → Prop := va_Qv post (fun σ' t => th_H G b0 σ' t.heap) (th_A b0)
theorem th_blind (G : va_G) (y : Nat → ClassId) (b0 : Nat) (σ : th_M) (av : List Value) : FrameBlind (th_P G y b0 σ av) := by
  intro a U g mk q
  obtain ⟨q0, qP, qK, qN, qA, qB⟩ := q
  exact ⟨q0, qP, va_K.moved (u := U) (U := U.calling g mk a) (Vm.Alike.refl U.vm) qK, qN.same rfl, va_AO.moved (u := U) (U := U.calling g mk a) (Vm.Alike.refl U.vm) qA, va_AO.moved (u := U) (U := U.calling g mk a) (Vm.Alike.refl U.vm) qB⟩
theorem th_PS (hK : nq_K G y s) (hH : th_H G b0 σ H) : PreS s H (th_P G y b0 σ As) As := ⟨th_blind _ _ _ _ _, fun U hU hW => ⟨rfl, by rw [hU]; exact hH, hK.warm hW⟩⟩
theorem th_PV (hK : nq_K G y s) (hH : th_H G b0 σ H) {ci : Nat} {q : vw_C} {fs : List Value} (hc : vwCl[ci]? = some q) (he : σ b = some (.inr (ci, fs))) : PreV s H q.1 b (th_P G y b0 σ (.ref b :: As)) As := by
  obtain ⟨q0, hq⟩ := hH.pos he
  exact ⟨th_blind _ _ _ _ _, va_recv hK.1 hH.P hc hq, fun U hU hW => ⟨rfl, by rw [hU]; exact hH, hK.warm hW⟩⟩
theorem th_calli {a : Array Value} {post : Int → th_M → Prop} (hr : va_Run p l e R s m args below meth c H locs cells slots mc ms (F0 m pc ls st0) rest (th_Qi G b0 post a) (th_A b0)) (hS : va_S (th_A b0) H0 H locs)
    (kk : ∀ (r : Int) (σ1 : th_M) (H1 : Heap) (locs1 : List Loc), rng r → post r σ1 → th_H G b0 σ1 H1 → va_S (th_A b0) H0 H1 locs1 → W p l e R s m args below meth c H1 locs1 (cells + mc) (slots + ms) Q (F0 m (pc + 3) ls (.int (I r) :: rest))) : W p l e R s m args below meth c H locs cells slots Q (F0 m pc ls st0) := by
  refine va_calli hr hS (fun _ _ h => h) (fun _ h => h) (fun r u t H1 locs1 ht hvm hw hB hz hk hS1 => ?_)
  have h1 := kk r.toInt u H1 locs1 (rng_toInt r) hw (by rw [← ht]; exact hB) hS1
  rw [I_of] at h1
  exact h1
theorem th_calll {a : Array Value} {post : Int64 → th_M → Prop} (hr : va_Run p l e R s m args below meth c H locs cells slots mc ms (F0 m pc ls st0) rest (th_Ql G b0 post a) (th_A b0)) (hS : va_S (th_A b0) H0 H locs)
    (kk : ∀ (r : Int64) (σ1 : th_M) (H1 : Heap) (locs1 : List Loc), post r σ1 → th_H G b0 σ1 H1 → va_S (th_A b0) H0 H1 locs1 → W p l e R s m args below meth c H1 locs1 (cells + mc) (slots + ms) Q (F0 m (pc + 3) ls (.long r :: rest))) : W p l e R s m args below meth c H locs cells slots Q (F0 m pc ls st0) :=
  va_calll hr hS (fun _ _ h => h) (fun _ h => h) (fun r u t H1 locs1 ht hvm hw hB hz hk hS1 => kk r u H1 locs1 hw (by rw [← ht]; exact hB) hS1)
theorem th_callv {a : Array Value} {post : th_M → Prop} (hr : va_Run p l e R s m args below meth c H locs cells slots mc ms (F0 m pc ls st0) rest (th_Qv G b0 post a) (th_A b0)) (hS : va_S (th_A b0) H0 H locs)
    (kk : ∀ (σ1 : th_M) (H1 : Heap) (locs1 : List Loc), post σ1 → th_H G b0 σ1 H1 → va_S (th_A b0) H0 H1 locs1 → W p l e R s m args below meth c H1 locs1 (cells + mc) (slots + ms) Q (F0 m (pc + 3) ls rest)) : W p l e R s m args below meth c H locs cells slots Q (F0 m pc ls st0) :=
  va_callv hr hS (fun _ _ h => h) (fun _ h => h) (fun u t H1 locs1 ht hvm hw hB hz hk hS1 => kk u H1 locs1 hw (by rw [← ht]; exact hB) hS1)
theorem th_topi {x : Int32} (k : ∀ z : Int, rng z → W p l e R s m args below meth c H locs cells slots Q (F0 m pc ls (.int (I z) :: rest))) : W p l e R s m args below meth c H locs cells slots Q (F0 m pc ls (.int x :: rest)) := by
  have h := k x.toInt (rng_toInt x)
  rw [I_of] at h
  exact h
theorem th_mmax {a b : Int} (ha : rng a) (hb : rng b) (k : ∀ z : Int, rng z → (a ≤ z ∧ b ≤ z ∧ (z = a ∨ z = b)) → W p l e R s m args below meth c H locs cells slots Q (F0 m pc ls (.int (I z) :: rest))) : W p l e R s m args below meth c H locs cells slots Q (F0 m pc ls (.int (if I a < I b then I b else I a) :: rest)) := by
  by_cases h : I a < I b
  · rw [if_pos h]
    have h1 := (I_lt ha hb).mp h
    exact k b hb ⟨by omega, by omega, Or.inr rfl⟩
  · rw [if_neg h]
    have h1 := mt (I_lt ha hb).mpr h
    exact k a ha ⟨by omega, by omega, Or.inl rfl⟩
theorem th_mmin {a b : Int} (ha : rng a) (hb : rng b) (k : ∀ z : Int, rng z → (z ≤ a ∧ z ≤ b ∧ (z = a ∨ z = b)) → W p l e R s m args below meth c H locs cells slots Q (F0 m pc ls (.int (I z) :: rest))) : W p l e R s m args below meth c H locs cells slots Q (F0 m pc ls (.int (if I b < I a then I b else I a) :: rest)) := by
  by_cases h : I b < I a
  · rw [if_pos h]
    have h1 := (I_lt hb ha).mp h
    exact k b hb ⟨by omega, by omega, Or.inr rfl⟩
  · rw [if_neg h]
    have h1 := mt (I_lt hb ha).mpr h
    exact k a ha ⟨by omega, by omega, Or.inl rfl⟩
/-- a loop: the measure falls -/
theorem th_loop {α : Type} {pc : Nat} (μ : α → Nat) (Inv : α → th_M → Heap → List Loc → Array Slot → Prop) (step : ∀ (x : α) (σ : th_M) (H : Heap) (locs : List Loc) (ls : Array Slot), Inv x σ H locs ls → (∀ (x' : α) (σ' : th_M) (H' : Heap) (locs' : List Loc) (ls' : Array Slot), μ x' < μ x → Inv x' σ' H' locs' ls' → W p l e R s m args below meth c H' locs' cells slots Q (F0 m pc ls' [])) → W p l e R s m args below meth c H locs cells slots Q (F0 m pc ls [])) (x : α) (σ : th_M) (H : Heap) (locs : List Loc) (ls : Array Slot) (h : Inv x σ H locs ls) : W p l e R s m args below meth c H locs cells slots Q (F0 m pc ls []) := by
  have key : ∀ (n : Nat) (x : α) (σ : th_M) (H : Heap) (locs : List Loc) (ls : Array Slot), μ x < n → Inv x σ H locs ls → W p l e R s m args below meth c H locs cells slots Q (F0 m pc ls []) := by
    intro n
    induction n with
    | zero => intro x σ H locs ls h; exact absurd h (Nat.not_lt_zero _)
    | succ n ih => intro x σ H locs ls hn hI; exact step x σ H locs ls hI (fun x' σ' H' locs' ls' hlt hI' => ih x' σ' H' locs' ls' (by omega) hI')
  exact key (μ x + 1) x σ H locs ls (Nat.lt_succ_self _) h
end TH
theorem th_ri {P : Int → th_M → Prop} {z : Int} {σ : th_M} (hr : rng z) (h : P z σ) : P (I z).toInt σ := by rw [I_toInt hr]; exact h
section THR
variable {p : Program} {l : Launch} {e : Env} {R : Room} {s : State} {m : MethodId} {args : Array Value} {below : List Frame} {meth : Method} {c : Code} {H : Heap} {locs : List Loc} {cells slots : Nat} {G : va_G} {b0 : Nat} {σ : th_M} {pc : Nat} {ls : Array Slot} {cc : ByteArray}
theorem th_iret {post : Int → th_M → Prop} (hx : p.tables.exec = Jvm.exec) (hb : c.code = cc) (hr : meth.sig.returnType = some .int) (hlocks : meth.locks = false) (hH : th_H G b0 σ H) (hS : va_S (th_A b0) s.heap H locs) {z : Int} (hz : rng z) (h : post z σ) (hdg : decode cc pc = .ok (.ireturn, 1)) : W p l e R s m args below meth c H locs cells slots (MQ below (th_Qi G b0 post) args s cells slots (th_A b0)) (F0 m pc ls [.int (I z)]) :=
  W.iret hx hb hr (fun t ht hW => ⟨⟨I z, σ, rfl, th_ri hz h, by show th_H G b0 σ t.heap; rw [ht]; exact hH⟩, hS.F ht⟩) hS.2.2 hdg hlocks
theorem th_zret {post : Int → th_M → Prop} (hx : p.tables.exec = Jvm.exec) (hb : c.code = cc) (hr : meth.sig.returnType = some .boolean) (hlocks : meth.locks = false) (hH : th_H G b0 σ H) (hS : va_S (th_A b0) s.heap H locs) {z : Int} (hz : z = 0 ∨ z = 1) (h : post z σ) (hdg : decode cc pc = .ok (.ireturn, 1)) : W p l e R s m args below meth c H locs cells slots (MQ below (th_Qi G b0 post) args s cells slots (th_A b0)) (F0 m pc ls [.int (I z)]) :=
  W.zret hx hb hr (by rcases hz with rfl | rfl <;> rfl) (fun t ht hW => ⟨⟨I z, σ, rfl, th_ri ⟨by omega, by omega⟩ h, by show th_H G b0 σ t.heap; rw [ht]; exact hH⟩, hS.F ht⟩) hS.2.2 hdg hlocks
theorem th_lret {post : Int64 → th_M → Prop} (hx : p.tables.exec = Jvm.exec) (hb : c.code = cc) (hr : meth.sig.returnType = some .long) (hlocks : meth.locks = false) (hH : th_H G b0 σ H) (hS : va_S (th_A b0) s.heap H locs) {z : Int64} (h : post z σ) (hdg : decode cc pc = .ok (.lreturn, 1)) : W p l e R s m args below meth c H locs cells slots (MQ below (th_Ql G b0 post) args s cells slots (th_A b0)) (F0 m pc ls [.long z]) :=
  W.lret hx hb hr (fun t ht hW => ⟨⟨z, σ, rfl, h, by show th_H G b0 σ t.heap; rw [ht]; exact hH⟩, hS.F ht⟩) hS.2.2 hdg hlocks
theorem th_vret {post : th_M → Prop} (hx : p.tables.exec = Jvm.exec) (hb : c.code = cc) (hr : meth.sig.returnType = none) (hlocks : meth.locks = false) (hH : th_H G b0 σ H) (hS : va_S (th_A b0) s.heap H locs) (h : post σ) (hdg : decode cc pc = .ok (.return_, 1)) : W p l e R s m args below meth c H locs cells slots (MQ below (th_Qv G b0 post) args s cells slots (th_A b0)) (F0 m pc ls []) :=
  W.vret hx hb hr (fun t ht hW => ⟨⟨σ, rfl, h, by show th_H G b0 σ t.heap; rw [ht]; exact hH⟩, hS.F ht⟩) hS.2.2 hdg hlocks
end THR
/-! a Tree: its cell, its four rows -/
abbrev TV : Type := (Nat × Nat × Nat × Nat) × ((Nat → Int32) × (Nat → Int32) × (Nat → Int32) × (Nat → Int32)) × Nat × Int
def TV.k (t : TV) : Nat := t.1.1
def TV.v (t : TV) : Nat := t.1.2.1
def TV.y (t : TV) : Nat := t.1.2.2.1
def TV.d (t : TV) : Nat := t.1.2.2.2
def TV.fk (t : TV) : Nat → Int32 := t.2.1.1
def TV.fv (t : TV) : Nat → Int32 := t.2.1.2.1
def TV.fy (t : TV) : Nat → Int32 := t.2.1.2.2.1
def TV.fd (t : TV) : Nat → Int32 := t.2.1.2.2.2
def TV.n (t : TV) : Nat := t.2.2.1
def TV.z (t : TV) : Int := t.2.2.2
def isT (y : Nat → ClassId) (σ : th_M) (a : Nat) (t : TV) : Prop :=
  σ a = some (.inr (9, [.ref t.k, .ref t.v, .ref t.y, .ref t.d, .int (I t.z)])) ∧ σ t.k = some (.inl (y 0, t.n, .inl t.fk)) ∧ σ t.v = some (.inl (y 0, t.n, .inl t.fv)) ∧ σ t.y = some (.inl (y 0, t.n, .inl t.fy)) ∧ σ t.d = some (.inl (y 0, t.n, .inl t.fd)) ∧ 0 ≤ t.z ∧ t.z ≤ t.n ∧ t.n ≤ 128
