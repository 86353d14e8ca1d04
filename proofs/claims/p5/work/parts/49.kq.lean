/-! ROWS OF OBJECTS -/
def aQ (σ : th_M) (b : Nat) : Nat → Option Nat := match σ b with
  | some (.inl (_, _, .inr (.inr (.inr (.inr f))))) => f
  | _ => fun _ => none
theorem aQ_eq {σ σ1 : th_M} {b : Nat} (h : σ1 b = σ b) : aQ σ1 b = aQ σ b := by simp only [aQ, h]
theorem aQ_up {σ : th_M} {b x : Nat} {e : va_E} (h : x ≠ b) : aQ (th_up σ b e) x = aQ σ x := aQ_eq (th_up_ne _ _ h)
/-- one cell alone was written -/
def up1 (σ σ1 : th_M) (b : Nat) : Prop := ∃ e, σ1 = th_up σ b e
theorem up1.q {σ σ1 : th_M} {b x : Nat} (h : up1 σ σ1 b) (hn : x ≠ b) : aQ σ1 x = aQ σ x := by
  obtain ⟨e, h⟩ := h
  rw [h]
  exact aQ_up hn
theorem kne {E : th_E} {a b κ κ2 : Nat} (h : kd E a = κ) (h2 : kd E b = κ2) (hn : κ ≠ κ2) : a ≠ b := fun e => hn (by rw [← h, ← h2, e])
section AQS
variable {y : Nat → ClassId} {E : th_E} {σ σ1 : th_M} {a κ k ci : Nat} {lo hi : Int} {S : List Nat}
theorem fr.aq (h : ok y E σ) (hf : fr S E σ σ1) (ha : kd E a = κ) (h0 : κ ≠ 0) (hn : κ ∉ S) (hq : kfl κ k = some (ci, 5, lo, hi)) : aQ σ1 (ad E a k) = aQ σ (ad E a k) := by
  obtain ⟨o, f, c1, c2⟩ := h.arq ha h0 hq
  exact aQ_eq (hf _ (by rw [o]; show kd E a ≠ 0; rw [ha]; exact h0) (by rw [o]; show kd E a ∉ S; rw [ha]; exact hn))
theorem fr.aq2 (h : ok y E σ1) (hf : fr S E σ σ1) (ha : kd E a = κ) (h0 : κ ≠ 0) (hn : κ ∉ S) (hq : kfl κ k = some (ci, 5, lo, hi)) : aQ σ1 (ad E a k) = aQ σ (ad E a k) := by
  obtain ⟨o, f, c1, c2⟩ := h.arq ha h0 hq
  exact aQ_eq (hf _ (by rw [o]; show kd E a ≠ 0; rw [ha]; exact h0) (by rw [o]; show kd E a ∉ S; rw [ha]; exact hn))
theorem ok.qo (h : ok y E σ) (ha : kd E a = κ) (h0 : κ ≠ 0) (hq : kfl κ k = some (ci, 5, lo, hi)) (hk : k ≠ 99) : ad E a k ≠ a := fun e => by
  obtain ⟨o, -⟩ := h.arq ha h0 hq
  rw [e, h.ow0 ha h0] at o
  exact hk (show (99 : Nat) = k from congrArg Prod.snd o).symm
theorem ok.qa {k2 ci2 cd2 : Nat} {n2 hi2 : Int} (h : ok y E σ) (ha : kd E a = κ) (h0 : κ ≠ 0) (hq : kfl κ k = some (ci, 5, lo, hi)) (hq2 : kfl κ k2 = some (ci2, cd2, n2, hi2)) (hd2 : isA cd2) (hn : k2 ≠ k) : ad E a k ≠ ad E a k2 := fun e => by
  obtain ⟨o, -⟩ := h.arq ha h0 hq
  rw [e, (h.arr ha h0 hq2 hd2).1] at o
  exact hn (congrArg Prod.snd o)
theorem ok.ql {k2 ci2 : Nat} {n2 hi2 : Int} (h : ok y E σ) (ha : kd E a = κ) (h0 : κ ≠ 0) (hq : kfl κ k = some (ci, 5, lo, hi)) (hq2 : kfl κ k2 = some (ci2, 3, n2, hi2)) (hn : k2 ≠ k) : ad E a k ≠ ad E a k2 := fun e => by
  obtain ⟨o, -⟩ := h.arq ha h0 hq
  rw [e, (h.arl ha h0 hq2).1] at o
  exact hn (congrArg Prod.snd o)
end AQS
section OKPW
variable {y : Nat → ClassId} {E : th_E} {σ : th_M} {a κ k ci : Nat} {lo hi : Int} {G : va_G} {b0 : Nat} {H0 : Heap}
theorem ok.putIw {C : Heap → List Loc → Prop} {B : Prop} {z : Int} (h : ok y E σ) (ha : kd E a = κ) (h0 : κ ≠ 0) (hq : kfl κ k = some (ci, 0, lo, hi)) (hr : rng z) (hl : lo ≤ z) (hu : z ≤ hi)
    (hput : ∀ fs : List Value, σ a = some (.inr (ci, fs)) → k < fs.length → (∀ (H1 : Heap) (locs1 : List Loc), th_H G b0 (th_up σ a (.inr (ci, fs.set k (.int (I z))))) H1 → va_S (th_A b0) H0 H1 locs1 → C H1 locs1) → B)
    (kk : ∀ (σ1 : th_M) (H1 : Heap) (locs1 : List Loc), ok y E σ1 → fr [κ] E σ σ1 → gI σ1 a k = z → (∀ b j, (b ≠ a ∨ j ≠ k) → gI σ1 b j = gI σ b j) → (∀ b, aF σ1 b = aF σ b) → up1 σ σ1 a → th_H G b0 σ1 H1 → va_S (th_A b0) H0 H1 locs1 → C H1 locs1) : B := by
  obtain ⟨w, fs, v, q1, q2, q3, q4, q5⟩ := h.fld ha h0 hq
  refine hput fs q1 q4 (fun H1 locs1 hH1 hS1 => ?_)
  obtain ⟨p1, p2, p3, p4⟩ := h.own ha h0 hq q1 (v := .int (I z)) (fun _ => fo_int hr hl hu)
  exact kk _ H1 locs1 p1 p2 (gI_of (th_up_at _ _ _) (List.getElem?_set_self q4) hr) p3 p4 ⟨_, rfl⟩ hH1 hS1
theorem ok.putMw {C : Heap → List Loc → Prop} {B : Prop} {b : Nat} (h : ok y E σ) (ha : kd E a = κ) (h0 : κ ≠ 0) (hq : kfl κ k = some (ci, 6, lo, hi)) (hb : kd E b = lo.toNat)
    (hput : ∀ fs : List Value, σ a = some (.inr (ci, fs)) → k < fs.length → (∀ (H1 : Heap) (locs1 : List Loc), th_H G b0 (th_up σ a (.inr (ci, fs.set k (.ref b)))) H1 → va_S (th_A b0) H0 H1 locs1 → C H1 locs1) → B)
    (kk : ∀ (σ1 : th_M) (H1 : Heap) (locs1 : List Loc), ok y E σ1 → fr [κ] E σ σ1 → (∀ b j, (b ≠ a ∨ j ≠ k) → gI σ1 b j = gI σ b j) → up1 σ σ1 a → th_H G b0 σ1 H1 → va_S (th_A b0) H0 H1 locs1 → C H1 locs1) : B := by
  obtain ⟨w, fs, v, q1, q2, q3, q4, q5⟩ := h.fld ha h0 hq
  refine hput fs q1 q4 (fun H1 locs1 hH1 hS1 => ?_)
  obtain ⟨p1, p2, p3, p4⟩ := h.own ha h0 hq q1 (v := .ref b) (fun _ => fo_ref hb)
  exact kk _ H1 locs1 p1 p2 p3 ⟨_, rfl⟩ hH1 hS1
end OKPW
section OKWW
variable {p : Program} {l : Launch} {e : Env} {R : Room} {s : State} {m : MethodId} {args : Array Value} {below : List Frame} {meth : Method} {c : Code} {H H0 : Heap} {locs : List Loc} {cells slots : Nat} {Q : State → Prop} {G : va_G} {y : Nat → ClassId} {b0 : Nat} {σ : th_M} {rest : List Value} {a pc : Nat} {ls : Array Slot} {cc : ByteArray} {E : th_E} {κ k ci cd : Nat} {n lo hi : Int}
theorem ok_iastw (hexec : p.tables.exec = Jvm.exec) (hb : c.code = cc) (hK : nq_K G y s) (hH : th_H G b0 σ H) (hS : va_S (th_A b0) H0 H locs) (h00 : b0 ≤ H0.size) (hO : ok y E σ) (ha : kd E a = κ) (hk0 : κ ≠ 0) (hq : kfl κ k = some (ci, cd, n, hi)) (hd : isA cd) {i x : Int} (hr : rng i) (h0 : 0 ≤ i) (hn : i < n) (hx : rng x) (hel : el cd hi x) (hdg : decode cc pc = .ok (.iastore, 1))
    (kk : ∀ (σ1 : th_M) (H1 : Heap) (locs1 : List Loc), ok y E σ1 → fr [κ] E σ σ1 → (∀ b j, gI σ1 b j = gI σ b j) → (aF σ1 (ad E a k) = upd (aF σ (ad E a k)) i.toNat (I x) ∧ ∀ b, b ≠ ad E a k → aF σ1 b = aF σ b) → up1 σ σ1 (ad E a k) → th_H G b0 σ1 H1 → va_S (th_A b0) H0 H1 locs1 → W p l e R s m args below meth c H1 locs1 cells slots Q (F0 m (pc + 1) ls rest)) : W p l e R s m args below meth c H locs cells slots Q (F0 m pc ls (.int (I x) :: .int (I i) :: .ref (ad E a k) :: rest)) := by
  obtain ⟨o, c1, c2⟩ := hO.arr ha hk0 hq hd
  refine th_iast hexec hb hK hH hS h00 c1 hr h0 (by omega) hdg (fun H1 locs1 hH1 hS1 => ?_)
  obtain ⟨p1, p2, p3⟩ := hO.putA ha hk0 hq hd (f := upd (aF σ (ad E a k)) i.toNat (I x)) (el_upd c2 (by rw [I_toInt hx]; exact hel))
  exact kk _ H1 locs1 p1 p2 p3 ⟨aF_at, fun b hb => aF_up hb⟩ ⟨_, rfl⟩ hH1 hS1
theorem ok_lastw (hexec : p.tables.exec = Jvm.exec) (hb : c.code = cc) (hK : nq_K G y s) (hH : th_H G b0 σ H) (hS : va_S (th_A b0) H0 H locs) (h00 : b0 ≤ H0.size) (hO : ok y E σ) (ha : kd E a = κ) (hk0 : κ ≠ 0) (hq : kfl κ k = some (ci, 3, n, hi)) {i : Int} {x : Int64} (hr : rng i) (h0 : 0 ≤ i) (hn : i < n) (hdg : decode cc pc = .ok (.lastore, 1))
    (kk : ∀ (σ1 : th_M) (H1 : Heap) (locs1 : List Loc), ok y E σ1 → fr [κ] E σ σ1 → (∀ b j, gI σ1 b j = gI σ b j) → (∀ b, b ≠ ad E a k → aF σ1 b = aF σ b) → up1 σ σ1 (ad E a k) → th_H G b0 σ1 H1 → va_S (th_A b0) H0 H1 locs1 → W p l e R s m args below meth c H1 locs1 cells slots Q (F0 m (pc + 1) ls rest)) : W p l e R s m args below meth c H locs cells slots Q (F0 m pc ls (.long x :: .int (I i) :: .ref (ad E a k) :: rest)) := by
  obtain ⟨o, f, c1⟩ := hO.arl ha hk0 hq
  obtain ⟨q0, hq0⟩ := hH.pos c1
  refine va_last hexec hb hK.1 hH.P hH.D hS q0 1 hq0 rfl (I_in hr h0 (by omega)) hdg (fun H1 locs1 hP1 _ hS1 => ?_)
  obtain ⟨p1, p2, p3⟩ := hO.putL ha hk0 hq (f := _)
  exact kk _ H1 locs1 p1 p2 p3 (fun b hb9 => aF_up hb9) ⟨_, rfl⟩ (hH.set hq0 hP1 (Nat.le_trans h00 hS1.1)) hS1
theorem ok_aaldw (hexec : p.tables.exec = Jvm.exec) (hb : c.code = cc) (hK : nq_K G y s) (hH : th_H G b0 σ H) (hO : ok y E σ) (ha : kd E a = κ) (hk0 : κ ≠ 0) (hq : kfl κ k = some (ci, 5, lo, hi)) (hl : lo = 4 ∨ lo = 1) {kp : Nat} (hkp : lo.toNat = kp) {i : Int} (hr : rng i) (h0 : 0 ≤ i) (hn : i < hi) (hdg : decode cc pc = .ok (.aaload, 1))
    (kk : ∀ x : Option Nat, (∀ b, x = some b → kd E b = kp) → x = aQ σ (ad E a k) i.toNat → W p l e R s m args below meth c H locs cells slots Q (F0 m (pc + 1) ls (va_rf x :: rest))) : W p l e R s m args below meth c H locs cells slots Q (F0 m pc ls (.int (I i) :: .ref (ad E a k) :: rest)) := by
  obtain ⟨o, f, c1, c2⟩ := hO.arq ha hk0 hq
  obtain ⟨q0, hq0⟩ := hH.pos c1
  have hkk := kk (f (I i).toNatClampNeg) (fun b hb => by rw [← hkp]; exact c2 _ _ hb) (by rw [I_nat hr h0]; simp only [aQ, c1])
  rcases hl with e4 | e1
  · subst e4
    exact va_aldq hexec hb hK.1 hH.P q0 3 hq0 rfl (I_in hr h0 (by omega)) hdg hkk
  · subst e1
    exact va_aldq hexec hb hK.1 hH.P q0 4 hq0 rfl (I_in hr h0 (by omega)) hdg hkk
theorem ok_aastw (hexec : p.tables.exec = Jvm.exec) (hb : c.code = cc) (hK : nq_K G y s) (hH : th_H G b0 σ H) (hS : va_S (th_A b0) H0 H locs) (h00 : b0 ≤ H0.size) (hO : ok y E σ) (ha : kd E a = κ) (hk0 : κ ≠ 0) (hq : kfl κ k = some (ci, 5, lo, hi)) (hl : lo = 4 ∨ lo = 1) {i : Int} {v : Nat} (hv : kd E v = lo.toNat) (hr : rng i) (h0 : 0 ≤ i) (hn : i < hi) (hdg : decode cc pc = .ok (.aastore, 1))
    (kk : ∀ (σ1 : th_M) (H1 : Heap) (locs1 : List Loc), ok y E σ1 → fr [κ] E σ σ1 → (∀ b j, gI σ1 b j = gI σ b j) → aQ σ1 (ad E a k) = va_up (aQ σ (ad E a k)) i.toNat (some v) → th_H G b0 σ1 H1 → va_S (th_A b0) H0 H1 locs1 → W p l e R s m args below meth c H1 locs1 cells slots Q (F0 m (pc + 1) ls rest)) : W p l e R s m args below meth c H locs cells slots Q (F0 m pc ls (.ref v :: .int (I i) :: .ref (ad E a k) :: rest)) := by
  obtain ⟨o, f, c1, c2⟩ := hO.arq ha hk0 hq
  obtain ⟨q0, hq0⟩ := hH.pos c1
  have hf : ∀ q x, va_up f (I i).toNatClampNeg (some v) q = some x → kd E x = lo.toNat := fun q x hx => by
    rcases va_up_some hx with h | h
    · rw [h]; exact hv
    · exact c2 q x h
  obtain ⟨p1, p2, p3⟩ := hO.putQ ha hk0 hq hf
  have hQ : aQ (th_up σ (ad E a k) (.inl ((if lo = 4 then y 3 else y 4), hi.toNat, .inr (.inr (.inr (.inr (va_up f (I i).toNatClampNeg (some v)))))))) (ad E a k) = va_up (aQ σ (ad E a k)) i.toNat (some v) := by
    simp only [aQ, th_up_at, c1, I_nat hr h0]
  rcases hl with e4 | e1
  · subst e4
    obtain ⟨fs, cv⟩ := hO.cell hv (by decide) (ci := 4) rfl
    obtain ⟨q1, hq1⟩ := hH.pos cv
    exact va_astq hexec hb hK.1 hH.P hH.D hS q0 3 q1 4 hq0 rfl hq1 rfl (I_in hr h0 (by omega)) hdg (fun H1 locs1 hP1 _ hS1 => kk _ H1 locs1 p1 p2 p3 hQ (hH.set hq0 hP1 (Nat.le_trans h00 hS1.1)) hS1)
  · subst e1
    obtain ⟨fs, cv⟩ := hO.cell hv (by decide) (ci := 9) rfl
    obtain ⟨q1, hq1⟩ := hH.pos cv
    exact va_astq hexec hb hK.1 hH.P hH.D hS q0 4 q1 9 hq0 rfl hq1 rfl (I_in hr h0 (by omega)) hdg (fun H1 locs1 hP1 _ hS1 => kk _ H1 locs1 p1 p2 p3 hQ (hH.set hq0 hP1 (Nat.le_trans h00 hS1.1)) hS1)
end OKWW
