/-! MORE OBJECTS -/
theorem kt_pos (κ : Nat) : (kt κ).2.all (fun c => !(c.1 == 4 || c.1 == 5 || c.1 == 6) || (c.2.1.toNat != 0)) = true := by unfold kt; split <;> decide
theorem kt_pos' {κ k : Nat} {c : Nat × Int × Int} (h : (kt κ).2[k]? = some c) (hc : c.1 = 4 ∨ c.1 = 5 ∨ c.1 = 6) : c.2.1.toNat ≠ 0 := by
  have h1 := List.all_eq_true.mp (kt_pos κ) c (List.mem_of_getElem? h)
  intro h0
  rcases hc with e | e | e <;> simp [e, h0] at h1
/-- the table of objects with one more: of the kind κ at q, its rows at f, whose they are by g -/
def Eadd (E : th_E) (q κ : Nat) (f : Nat → Nat) (g : Nat → Option Nat) (z : Nat) : th_E :=
  (fun a => if a = q then κ else kd E a, fun a k => if a = q then f k else ad E a k, fun x => if x = q then (q, 99) else match g x with
    | some k => (q, k)
    | none => if (ow E x).1 = q then (z, 0) else ow E x)
theorem Eadd_kd {E : th_E} {q κ z : Nat} {f : Nat → Nat} {g : Nat → Option Nat} : kd (Eadd E q κ f g z) q = κ := by simp [Eadd, kd]
theorem Eadd_kdn {E : th_E} {q κ z a : Nat} {f : Nat → Nat} {g : Nat → Option Nat} (h : a ≠ q) : kd (Eadd E q κ f g z) a = kd E a := by simp [Eadd, kd, h]
theorem Eadd_ad {E : th_E} {q κ z k : Nat} {f : Nat → Nat} {g : Nat → Option Nat} : ad (Eadd E q κ f g z) q k = f k := by simp [Eadd, ad]
theorem Eadd_adn {E : th_E} {q κ z a k : Nat} {f : Nat → Nat} {g : Nat → Option Nat} (h : a ≠ q) : ad (Eadd E q κ f g z) a k = ad E a k := by simp [Eadd, ad, h]
theorem Eadd_ow {E : th_E} {q κ z : Nat} {f : Nat → Nat} {g : Nat → Option Nat} : ow (Eadd E q κ f g z) q = (q, 99) := by simp [Eadd, ow]
theorem Eadd_owg {E : th_E} {q κ z x k : Nat} {f : Nat → Nat} {g : Nat → Option Nat} (hx : x ≠ q) (h : g x = some k) : ow (Eadd E q κ f g z) x = (q, k) := by simp [Eadd, ow, hx, h]
theorem Eadd_own {E : th_E} {q κ z x : Nat} {f : Nat → Nat} {g : Nat → Option Nat} (hx : x ≠ q) (h : g x = none) (ho : (ow E x).1 ≠ q) : ow (Eadd E q κ f g z) x = ow E x := by simp only [ow] at ho; simp [Eadd, ow, hx, h, ho]
theorem ok.is {y : Nat → ClassId} {E : th_E} {σ : th_M} (h : ok y E σ) {x : Nat} (hx : kd E (ow E x).1 ≠ 0) : (σ x).isSome = true := h.dm rfl hx x rfl
theorem ok.is0 {y : Nat → ClassId} {E : th_E} {σ : th_M} (h : ok y E σ) {a : Nat} (ha : kd E a ≠ 0) : (σ a).isSome = true := h.dm rfl ha a (by rw [h.ow0 rfl ha])
theorem ok.add {y : Nat → ClassId} {E : th_E} {σ σ1 : th_M} {q κ z : Nat} {f : Nat → Nat} {g : Nat → Option Nat} (h : ok y E σ) (hold : ∀ x, (σ x).isSome = true → σ1 x = σ x) (hq : σ q = none) (hg : ∀ x k, g x = some k → σ x = none) (hκ : κ ≠ 0) (hz : σ z = none) (hzq : z ≠ q) (hro : ro y (Eadd E q κ f g z) σ1 q κ) :
    ext E (Eadd E q κ f g z) ∧ ok y (Eadd E q κ f g z) σ1 ∧ fr [] E σ σ1 ∧ kd (Eadd E q κ f g z) q = κ := by
  have nq : ∀ a, kd E a ≠ 0 → a ≠ q := fun a ha e => by
    have := h.is0 ha
    rw [e, hq] at this
    cases this
  have own : ∀ x, kd E (ow E x).1 ≠ 0 → ow (Eadd E q κ f g z) x = ow E x := fun x hx => by
    have hs := h.is hx
    have e1 : x ≠ q := fun e => by rw [e, hq] at hs; cases hs
    have e2 : g x = none := by
      cases hgx : g x with
      | none => rfl
      | some k => rw [hg x k hgx] at hs; cases hs
    exact Eadd_own e1 e2 (nq _ hx)
  have hkd : ∀ a, kd E a ≠ 0 → kd (Eadd E q κ f g z) a = kd E a := fun a ha => Eadd_kdn (nq a ha)
  refine ⟨⟨fun a ha => ⟨hkd a ha, fun k => Eadd_adn (nq a ha)⟩, own⟩, fun a ha => ?_, fun x hx _ => hold x (h.is hx), Eadd_kd⟩
  by_cases e : a = q
  · subst e; rw [Eadd_kd]; exact hro
  · rw [Eadd_kdn e] at ha ⊢
    obtain ⟨w, dm, fs, q1, q2, q3⟩ := h a ha
    have sa : σ1 a = σ a := hold a (h.is0 ha)
    refine ⟨(own a (by rw [w]; exact ha)).trans w, fun x hx => ?_, fs, sa.trans q1, q2, fun k c v hc hv => ?_⟩
    · by_cases ex : x = q
      · rw [ex, Eadd_ow] at hx; exact absurd hx.symm e
      · cases hgx : g x with
        | some k => rw [Eadd_owg ex hgx] at hx; exact absurd hx.symm e
        | none =>
          by_cases eo : (ow E x).1 = q
          · have : ow (Eadd E q κ f g z) x = (z, 0) := by simp only [ow] at eo; simp [Eadd, ow, ex, hgx, eo]
            rw [this] at hx
            have hx : z = a := hx
            have := h.is0 ha
            rw [← hx, hz] at this
            cases this
          · rw [Eadd_own ex hgx eo] at hx
            have := dm x hx
            rw [hold x this]; exact this
    · have hf := q3 k c v hc hv
      have ek : ad (Eadd E q κ f g z) a k = ad E a k := Eadd_adn e
      have ej : ∀ j, ad (Eadd E q κ f g z) a j = ad E a j := fun j => Eadd_adn e
      have oo : ow E (ad E a k) = (a, k) → ow (Eadd E q κ f g z) (ad E a k) = (a, k) := fun o => (own _ (by rw [o]; exact ha)).trans o
      have ss : ow E (ad E a k) = (a, k) → σ1 (ad E a k) = σ (ad E a k) := fun o => hold _ (dm _ (by rw [o]))
      have kk : ∀ b n, n ≠ 0 → kd E b = n → kd (Eadd E q κ f g z) b = n := fun b n hn hb => (hkd b (by rw [hb]; exact hn)).trans hb
      obtain ⟨h0, h1, h2, h3, h4, h5, h6, h8⟩ := hf
      refine ⟨h0, fun e9 => ?_, fun e9 => ?_, fun e9 => ?_, fun e9 => ?_, fun e9 => ?_, fun e9 => ?_, fun e9 => ?_⟩
      · obtain ⟨a1, a2, f9, a3, a4⟩ := h1 e9; rw [ek]; exact ⟨a1, oo a2, f9, (ss a2).trans a3, a4⟩
      · obtain ⟨a1, a2, f9, a3, a4⟩ := h2 e9; rw [ek]; exact ⟨a1, oo a2, f9, (ss a2).trans a3, a4⟩
      · obtain ⟨a1, a2, f9, a3⟩ := h3 e9; rw [ek]; exact ⟨a1, oo a2, f9, (ss a2).trans a3⟩
      · obtain ⟨a1, a2⟩ := h4 e9; rw [ek]; exact ⟨a1, kk _ _ (kt_pos' hc (Or.inl e9)) a2⟩
      · obtain ⟨a1, a2, f9, a3, a4⟩ := h5 e9; rw [ek]; exact ⟨a1, oo a2, f9, (ss a2).trans a3, fun i x hx => kk _ _ (kt_pos' hc (Or.inr (Or.inl e9))) (a4 i x hx)⟩
      · obtain ⟨b, a1, a2⟩ := h6 e9; exact ⟨b, a1, kk _ _ (kt_pos' hc (Or.inr (Or.inr e9))) a2⟩
      · rw [ej, ej]; exact h8 e9
/-! a list of cells is laid over the map -/
def th_lay (σ : th_M) (w : va_W) : th_M := fun a => match w.find? (fun p => p.1 == a) with
  | some p => some p.2
  | none => σ a
theorem th_lay_at {σ : th_M} {w : va_W} {A : Nat → Prop} (hD : va_D A w) {k a : Nat} {e : va_E} (h : w[k]? = some (a, e)) : th_lay σ w a = some e := by
  unfold th_lay
  cases hf : w.find? (fun p => p.1 == a) with
  | none =>
    have := List.find?_eq_none.mp hf (a, e) (List.mem_of_getElem? h)
    simp at this
  | some p =>
    have h1 : p.1 = a := by have := List.find?_some hf; simpa using this
    obtain ⟨j, hj⟩ := List.getElem?_of_mem (List.mem_of_find?_eq_some hf)
    have := hD.1 j k p (a, e) hj h h1
    subst this
    rw [h] at hj
    have := Option.some.inj hj
    subst this
    rfl
theorem th_lay_no {σ : th_M} {w : va_W} {a : Nat} (h : ∀ p ∈ w, p.1 ≠ a) : th_lay σ w a = σ a := by
  unfold th_lay
  cases hf : w.find? (fun p => p.1 == a) with
  | none => rfl
  | some p =>
    have h1 : p.1 = a := by have := List.find?_some hf; simpa using this
    exact absurd h1 (h p (List.mem_of_find?_eq_some hf))
section NEW
variable {p : Program} {l : Launch} {e : Env} {R : Room} {s : State} {m : MethodId} {args : Array Value} {below : List Frame} {meth : Method} {c : Code} {H H0 : Heap} {locs : List Loc} {cells slots : Nat} {Q : State → Prop} {G : va_G} {y : Nat → ClassId} {b0 : Nat} {σ : th_M} {As rest st0 : List Value} {mc ms pc : Nat} {ls : Array Slot} {cc : ByteArray}
theorem th_new (hexec : p.tables.exec = Jvm.exec) (hb : c.code = cc) {own C : String} {T : u_T} {N ci index : Nat} {Ts : List Cond} (hts : ∀ w ∈ Ts, w.before args s = true) (hin : ∀ w ∈ u_ws C T N, w ∈ Ts) (ty : Nat → FieldType) (hty : ∀ k, k < N → parseFieldDescriptor (T k).2.2.1 = some (ty k)) (hown : s.vm.findClass own = some m.cls) (hcl : (Cond.classLink own index C).before args s = true) (hinst : (Cond.instantiable C N).before args s = true) (hini : (Cond.initialized C).before args s = true)
    (hK : nq_K G y s) (hH : th_H G b0 σ H) (hS : va_S (th_A b0) H0 H locs) (h00 : b0 ≤ H0.size) (hc : vwCl[ci]? = some (C, T, N)) {fs : List Value} (hfs : ∀ j, j < N → defaultValue (ty j) = vp_V fs j) (hcells : cells + 1 ≤ R.cells) (hslots : slots + N ≤ R.slots) (hdg : decode cc pc = .ok (.new index, 3))
    (kk : ∀ (q : Nat) (H1 : Heap), σ q = none → b0 ≤ q → th_H G b0 (th_up σ q (.inr (ci, fs))) H1 → va_S (th_A b0) H0 H1 locs → W p l e R s m args below meth c H1 locs (cells + 1) (slots + N) Q (F0 m (pc + 3) ls (.ref q :: rest))) : W p l e R s m args below meth c H locs cells slots Q (F0 m pc ls rest) :=
  va_new hexec hb hts hin ty hty hown hcl hinst hini hK.1 hH.P hH.D hS (fun q h => Nat.le_trans h00 h) hc hfs hcells hslots hdg (fun q H1 hP hD hS1 => by
    have r := hH.app hP hD (Nat.le_trans h00 hS1.1)
    exact kk q H1 r.1 (r.2.2 q _ (th_up_at _ _ _)).1 r.2 hS1)
theorem th_ctor {S : Type} {post : S → Prop} {w1 : S → va_W} {a9 : Array Value} {q : Nat} {raw : va_E} (hr : va_Run p l e R s m args below meth c H locs cells slots mc ms (F0 m pc ls st0) rest (va_Qv post (fun u t => va_P G vwCl (w1 u) t.heap ∧ va_D (va_A [(q, raw)] H.size) (w1 u)) (va_A [(q, raw)] H.size) a9) (va_A [(q, raw)] H.size)) (hH : th_H G b0 σ H) (hq : σ q = some raw) (hw : ∀ u, ∃ (k : Nat) (e : va_E), (w1 u)[k]? = some (q, e)) (hS : va_S (th_A b0) H0 H locs)
    (kk : ∀ (u : S) (H1 : Heap) (locs1 : List Loc), post u → va_D (va_A [(q, raw)] H.size) (w1 u) → th_H G b0 (th_lay σ (w1 u)) H1 → va_S (th_A b0) H0 H1 locs1 → W p l e R s m args below meth c H1 locs1 (cells + mc) (slots + ms) Q (F0 m (pc + 3) ls rest)) : W p l e R s m args below meth c H locs cells slots Q (F0 m pc ls st0) := by
  have hA : ∀ x, va_A [(q, raw)] H.size x → th_A b0 x := fun x hx => by
    rcases hx with ⟨k, e, hk⟩ | hx
    · have hk1 : (q, raw) = (x, e) := by
        cases k with
        | zero => exact Option.some.inj hk
        | succ k => simp at hk
      have : q = x := congrArg Prod.fst hk1
      rw [← this]
      exact (hH.2 q raw hq).1
    · exact Nat.le_trans hH.1 hx
  refine va_callv hr hS (fun x _ hx => hA x hx) hA (fun u t H1 locs1 ht hvm hp hB hz hk hS1 => ?_)
  obtain ⟨hP1, hD1⟩ := hB
  rw [ht] at hP1
  refine kk u H1 locs1 hp hD1 ⟨Nat.le_trans hH.1 hz, fun a e ha => ?_⟩ hS1
  by_cases hm : ∃ pr ∈ w1 u, pr.1 = a
  · obtain ⟨pr, h1, h2⟩ := hm
    obtain ⟨k, hk9⟩ := List.getElem?_of_mem h1
    have e1 := th_lay_at (σ := σ) hD1 (k := k) (a := a) (e := pr.2) (by rw [hk9, ← h2])
    rw [e1] at ha
    have ha := Option.some.inj ha
    refine ⟨hA a (by rw [← h2]; exact hD1.2 k pr hk9), ?_⟩
    have := hP1 k pr hk9
    rw [← ha, ← h2]
    exact this
  · have e1 : th_lay σ (w1 u) a = σ a := th_lay_no (fun pr h1 h2 => hm ⟨pr, h1, h2⟩)
    rw [e1] at ha
    have hv := hH.2 a e ha
    refine ⟨hv.1, ?_⟩
    have hn : ¬ va_A [(q, raw)] H.size a := fun hx => by
      rcases hx with ⟨k, e9, hk9⟩ | hx
      · have hk1 : (q, raw) = (a, e9) := by
          cases k with
          | zero => exact Option.some.inj hk9
          | succ k => simp at hk9
        have hqa : q = a := congrArg Prod.fst hk1
        obtain ⟨k2, e2, h2⟩ := hw u
        exact hm ⟨(q, e2), List.mem_of_getElem? h2, hqa⟩
      · exact absurd (hH.lt ha) (Nat.not_lt.mpr hx)
    exact hv.2.kept (hk a (hH.lt ha) hn)
/-- a loop that makes objects: room for each round -/
theorem th_loop2 {α : Type} {pc : Nat} (cf sf : α → Nat) (μ : α → Nat) (Inv : α → th_M → Heap → List Loc → Array Slot → Prop) (step : ∀ (x : α) (σ : th_M) (H : Heap) (locs : List Loc) (ls : Array Slot), Inv x σ H locs ls → (∀ (x' : α) (σ' : th_M) (H' : Heap) (locs' : List Loc) (ls' : Array Slot), μ x' < μ x → Inv x' σ' H' locs' ls' → W p l e R s m args below meth c H' locs' (cf x') (sf x') Q (F0 m pc ls' [])) → W p l e R s m args below meth c H locs (cf x) (sf x) Q (F0 m pc ls [])) (x : α) (σ : th_M) (H : Heap) (locs : List Loc) (ls : Array Slot) (h : Inv x σ H locs ls) : W p l e R s m args below meth c H locs (cf x) (sf x) Q (F0 m pc ls []) := by
  have key : ∀ (n : Nat) (x : α) (σ : th_M) (H : Heap) (locs : List Loc) (ls : Array Slot), μ x < n → Inv x σ H locs ls → W p l e R s m args below meth c H locs (cf x) (sf x) Q (F0 m pc ls []) := by
    intro n
    induction n with
    | zero => intro x σ H locs ls h; exact absurd h (Nat.not_lt_zero _)
    | succ n ih => intro x σ H locs ls hn hI; exact step x σ H locs ls hI (fun x' σ' H' locs' ls' hlt hI' => ih x' σ' H' locs' ls' (by omega) hI')
  exact key (μ x + 1) x σ H locs ls (Nat.lt_succ_self _) h
end NEW
theorem th_non_up {G : va_G} {b0 : Nat} {σ : th_M} {H : Heap} {q : Nat} {e : va_E} (h : th_H G b0 (th_up σ q e) H) (x : Nat) (hx : H.size ≤ x) : σ x = none := by
  have h1 := h.non hx
  have h2 := h.lt (th_up_at σ q e)
  rw [th_up_ne _ _ (by omega)] at h1
  exact h1
theorem va_D_ne {A : Nat → Prop} {w : va_W} (hD : va_D A w) (i j : Nat) {p q : Nat × va_E} (hi : w[i]? = some p) (hj : w[j]? = some q) (hn : i ≠ j) : p.1 ≠ q.1 := fun h => hn (hD.1 i j p q hi hj h)
theorem deep_0 {f : Nat → Int32} {m : Int} : ∀ q : Nat, (q : Int) < 0 → (f q).toInt ≤ m := fun q h => absurd h (by omega)
theorem deep_s {f : Nat → Int32} {k m z m2 : Int} (h : ∀ q : Nat, (q : Int) < k → (f q).toInt ≤ m) (e : (f k.toNat).toInt = z) (h0 : 0 ≤ k) (h1 : m ≤ m2) (h2 : z ≤ m2) : ∀ q : Nat, (q : Int) < k + 1 → (f q).toInt ≤ m2 := by
  intro q hq
  by_cases e9 : (q : Int) = k
  · have : q = k.toNat := by omega
    rw [this, e]; exact h2
  · exact Int.le_trans (h q (by omega)) h1
theorem dp_move {y : Nat → ClassId} {E E1 : th_E} {σ σ1 : th_M} {S : List Nat} {b : Nat} {r : Int} (h : ∀ q : Nat, (q : Int) < gI σ b 4 → (aF σ (ad E b 3) q).toInt ≤ r) (hr : r ≤ 7) (hO : ok y E σ) (hF : fr S E σ σ1) (hX : ext E E1) (hb : kd E b = 2) (hn : 2 ∉ S) : ∀ q : Nat, (q : Int) < gI σ1 b 4 → (aF σ1 (ad E1 b 3) q).toInt ≤ 7 := by
  intro q hq
  rw [fr.ki hO hF hb (by decide) hn] at hq
  rw [hX.ad2 hb (by decide), fr.af hO hF hb (by decide) hn k2_3 isA1]
  exact Int.le_trans (h q hq) hr
theorem ad_move {y : Nat → ClassId} {E : th_E} {σ σ1 : th_M} {S : List Nat} {b : Nat} (h : ∀ q : Nat, (q : Int) < gI σ b 4 → (aF σ (ad E b 3) q).toInt ≤ 7) (hO : ok y E σ) (hF : fr S E σ σ1) (hb : kd E b = 2) (hn : 2 ∉ S) : ∀ q : Nat, (q : Int) < gI σ1 b 4 → (aF σ1 (ad E b 3) q).toInt ≤ 7 := by
  intro q hq
  rw [fr.ki hO hF hb (by decide) hn] at hq
  rw [fr.af hO hF hb (by decide) hn k2_3 isA1]
  exact h q hq
theorem fo_arr {y : Nat → ClassId} {E : th_E} {σ : th_M} {a k cd b : Nat} {n hi : Int} {f0 : Nat → Int32} (hd : isA cd) (hb : ad E a k = b) (ho : ow E b = (a, k)) (hs : σ b = some (.inl (y 0, n.toNat, .inl f0))) (hel : ∀ q, el cd hi (f0 q).toInt) : fo y E σ a k (cd, n, hi) (.ref b) := by
  subst hb
  refine ⟨fun e => ?_, fun _ => ⟨rfl, ho, f0, hs, hel⟩, fun e => ?_, fun e => ?_, fun e => ?_, fun e => ?_, fun e => ?_, fun e => ?_⟩ <;> (simp only [isA] at e hd; omega)
theorem fo_arz {y : Nat → ClassId} {E : th_E} {σ : th_M} {a k b : Nat} {n hi : Int} {f0 : Nat → Int32} (hb : ad E a k = b) (ho : ow E b = (a, k)) (hs : σ b = some (.inl (y 2, n.toNat, .inl f0))) (hel : ∀ q, f0 q = 0 ∨ f0 q = 1) : fo y E σ a k (2, n, hi) (.ref b) := by
  subst hb
  refine ⟨fun e => ?_, fun e => ?_, fun _ => ⟨rfl, ho, f0, hs, hel⟩, fun e => ?_, fun e => ?_, fun e => ?_, fun e => ?_, fun e => ?_⟩ <;> (simp only [isA] at e; omega)
def ntW_tree (y : Nat → ClassId) (q : Nat) (u : Nat × Nat × Nat × Nat) : va_W := [(q, .inr (9, [.ref u.1, .ref u.2.1, .ref u.2.2.1, .ref u.2.2.2, .int 0])), (u.1, .inl (y 0, 60, .inl (fun _ => 0))), (u.2.1, .inl (y 0, 60, .inl (fun _ => 0))), (u.2.2.1, .inl (y 0, 60, .inl (fun _ => 0))), (u.2.2.2, .inl (y 0, 60, .inl (fun _ => 0)))]
set_option maxHeartbeats 1000000 in
theorem nt_tree {y : Nat → ClassId} {E : th_E} {σ : th_M} {q sz : Nat} {u : Nat × Nat × Nat × Nat} (hO : ok y E σ) (hq : σ q = none) (hsz : ∀ x, sz ≤ x → σ x = none) (hD : va_D (va_A [(q, .inr (9, [.null, .null, .null, .null, .int 0]))] sz) (ntW_tree y q u)) : ∃ E1, ext E E1 ∧ ok y E1 (th_lay (th_up σ q (.inr (9, [.null, .null, .null, .null, .int 0]))) (ntW_tree y q u)) ∧ fr [] E σ (th_lay (th_up σ q (.inr (9, [.null, .null, .null, .null, .int 0]))) (ntW_tree y q u)) ∧ kd E1 q = 1 := by
  have at0 := fun σ9 : th_M => th_lay_at (σ := σ9) hD (k := 0) rfl
  have n0 : u.1 ≠ q := fun e9 => va_D_ne hD 0 1 rfl rfl (by decide) e9.symm
  have s0 : σ u.1 = none := by
    rcases hD.2 1 _ rfl with ⟨k9, e9, h9⟩ | h9
    · cases k9 with
      | zero => exact absurd (congrArg Prod.fst (Option.some.inj h9)).symm n0
      | succ k9 => simp at h9
    · exact hsz _ h9
  have at1 := fun σ9 : th_M => th_lay_at (σ := σ9) hD (k := 1) rfl
  have n1 : u.2.1 ≠ q := fun e9 => va_D_ne hD 0 2 rfl rfl (by decide) e9.symm
  have s1 : σ u.2.1 = none := by
    rcases hD.2 2 _ rfl with ⟨k9, e9, h9⟩ | h9
    · cases k9 with
      | zero => exact absurd (congrArg Prod.fst (Option.some.inj h9)).symm n1
      | succ k9 => simp at h9
    · exact hsz _ h9
  have at2 := fun σ9 : th_M => th_lay_at (σ := σ9) hD (k := 2) rfl
  have n2 : u.2.2.1 ≠ q := fun e9 => va_D_ne hD 0 3 rfl rfl (by decide) e9.symm
  have s2 : σ u.2.2.1 = none := by
    rcases hD.2 3 _ rfl with ⟨k9, e9, h9⟩ | h9
    · cases k9 with
      | zero => exact absurd (congrArg Prod.fst (Option.some.inj h9)).symm n2
      | succ k9 => simp at h9
    · exact hsz _ h9
  have at3 := fun σ9 : th_M => th_lay_at (σ := σ9) hD (k := 3) rfl
  have n3 : u.2.2.2 ≠ q := fun e9 => va_D_ne hD 0 4 rfl rfl (by decide) e9.symm
  have s3 : σ u.2.2.2 = none := by
    rcases hD.2 4 _ rfl with ⟨k9, e9, h9⟩ | h9
    · cases k9 with
      | zero => exact absurd (congrArg Prod.fst (Option.some.inj h9)).symm n3
      | succ k9 => simp at h9
    · exact hsz _ h9
  have at4 := fun σ9 : th_M => th_lay_at (σ := σ9) hD (k := 4) rfl
  have hgn : ∀ x k, (fun x => if x = u.1 then some 0 else if x = u.2.1 then some 1 else if x = u.2.2.1 then some 2 else if x = u.2.2.2 then some 3 else none : Nat → Option Nat) x = some k → σ x = none ∧ x ≠ q ∧ (th_lay (th_up σ q (.inr (9, [.null, .null, .null, .null, .int 0]))) (ntW_tree y q u) x).isSome = true := by
    intro x k h9
    dsimp only at h9
    by_cases e0 : x = u.1
    · rw [e0]; exact ⟨s0, n0, by rw [at1]; rfl⟩
    rw [if_neg e0] at h9
    by_cases e1 : x = u.2.1
    · rw [e1]; exact ⟨s1, n1, by rw [at2]; rfl⟩
    rw [if_neg e1] at h9
    by_cases e2 : x = u.2.2.1
    · rw [e2]; exact ⟨s2, n2, by rw [at3]; rfl⟩
    rw [if_neg e2] at h9
    by_cases e3 : x = u.2.2.2
    · rw [e3]; exact ⟨s3, n3, by rw [at4]; rfl⟩
    rw [if_neg e3] at h9
    cases h9
  refine ⟨_, hO.add (σ1 := th_lay (th_up σ q (.inr (9, [.null, .null, .null, .null, .int 0]))) (ntW_tree y q u)) (f := fun k => if k = 0 then u.1 else if k = 1 then u.2.1 else if k = 2 then u.2.2.1 else if k = 3 then u.2.2.2 else 0) (g := fun x => if x = u.1 then some 0 else if x = u.2.1 then some 1 else if x = u.2.2.1 then some 2 else if x = u.2.2.2 then some 3 else none) (z := u.1) (fun x hx => ?_) hq (fun x k h9 => (hgn x k h9).1) (by decide) s0 n0 ⟨Eadd_ow, fun x hx => ?_, _, at0 _, rfl, fun k c v hc hv => ?_⟩⟩
  · have hxq : x ≠ q := fun e9 => by rw [e9, hq] at hx; cases hx
    have hx0 : x ≠ u.1 := fun e9 => by rw [e9, s0] at hx; cases hx
    have hx1 : x ≠ u.2.1 := fun e9 => by rw [e9, s1] at hx; cases hx
    have hx2 : x ≠ u.2.2.1 := fun e9 => by rw [e9, s2] at hx; cases hx
    have hx3 : x ≠ u.2.2.2 := fun e9 => by rw [e9, s3] at hx; cases hx
    rw [th_lay_no, th_up_ne _ _ hxq]
    intro pr hpr
    simp only [ntW_tree, List.mem_cons, List.not_mem_nil, or_false] at hpr
    rcases hpr with h9 | h9 | h9 | h9 | h9
    · rw [h9]; exact fun e9 => hxq e9.symm
    · rw [h9]; exact fun e9 => hx0 e9.symm
    · rw [h9]; exact fun e9 => hx1 e9.symm
    · rw [h9]; exact fun e9 => hx2 e9.symm
    · rw [h9]; exact fun e9 => hx3 e9.symm
  · by_cases ex : x = q
    · rw [ex, at0]; rfl
    cases hgx : (fun x => if x = u.1 then some 0 else if x = u.2.1 then some 1 else if x = u.2.2.1 then some 2 else if x = u.2.2.2 then some 3 else none : Nat → Option Nat) x with
    | some k => exact (hgn x k hgx).2.2
    | none =>
      by_cases eo : (ow E x).1 = q
      · have h9 : (ow (Eadd E q 1 (fun k => if k = 0 then u.1 else if k = 1 then u.2.1 else if k = 2 then u.2.2.1 else if k = 3 then u.2.2.2 else 0) (fun x => if x = u.1 then some 0 else if x = u.2.1 then some 1 else if x = u.2.2.1 then some 2 else if x = u.2.2.2 then some 3 else none) u.1) x).1 = u.1 := by
          have eo2 : (E.2.2 x).1 = q := eo
          simp only [Eadd, ow, if_neg ex, hgx, eo2, if_true]
        exact absurd (h9.symm.trans hx) n0
      · exact absurd (by rw [Eadd_own ex hgx eo] at hx; exact hx) eo
  · match k, hc, hv with
    | 0, hc, hv =>
      cases (show (1, 60, 0) = c from Option.some.inj hc)
      cases (show (.ref u.1 : Value) = v from Option.some.inj hv)
      exact fo_arr isA1 (by rw [Eadd_ad]; rfl) (Eadd_owg n0 (by rw [if_pos rfl])) (at1 _) (fun _ => el1)
    | 1, hc, hv =>
      cases (show (1, 60, 0) = c from Option.some.inj hc)
      cases (show (.ref u.2.1 : Value) = v from Option.some.inj hv)
      exact fo_arr isA1 (by rw [Eadd_ad]; rfl) (Eadd_owg n1 (by rw [if_neg (va_D_ne hD 2 1 rfl rfl (by decide)), if_pos rfl])) (at2 _) (fun _ => el1)
    | 2, hc, hv =>
      cases (show (1, 60, 0) = c from Option.some.inj hc)
      cases (show (.ref u.2.2.1 : Value) = v from Option.some.inj hv)
      exact fo_arr isA1 (by rw [Eadd_ad]; rfl) (Eadd_owg n2 (by rw [if_neg (va_D_ne hD 3 1 rfl rfl (by decide)), if_neg (va_D_ne hD 3 2 rfl rfl (by decide)), if_pos rfl])) (at3 _) (fun _ => el1)
    | 3, hc, hv =>
      cases (show (7, 60, 7) = c from Option.some.inj hc)
      cases (show (.ref u.2.2.2 : Value) = v from Option.some.inj hv)
      exact fo_arr isA7 (by rw [Eadd_ad]; rfl) (Eadd_owg n3 (by rw [if_neg (va_D_ne hD 4 1 rfl rfl (by decide)), if_neg (va_D_ne hD 4 2 rfl rfl (by decide)), if_neg (va_D_ne hD 4 3 rfl rfl (by decide)), if_pos rfl])) (at4 _) (fun _ => el7 (by decide))
    | 4, hc, hv =>
      cases (show (0, 0, 60) = c from Option.some.inj hc)
      cases (show (.int 0 : Value) = v from Option.some.inj hv)
      exact fo_int (z := 0) ⟨by decide, by decide⟩ (by decide) (by decide)
    | k + 5, hc, hv => exact absurd (show ([] : List (Nat × Int × Int))[k]? = some c from hc) (by simp)
def ntW_path (y : Nat → ClassId) (q : Nat) (u : Nat × Nat × Nat × Nat × Nat × Nat × Nat × Nat × Nat × Nat) : va_W := [(q, .inr (4, [.ref u.1, .ref u.2.1, .ref u.2.2.1, .int 0, .ref u.2.2.2.1, .int 0, .ref u.2.2.2.2.1, .ref u.2.2.2.2.2.1, .int 0, .ref u.2.2.2.2.2.2.1, .ref u.2.2.2.2.2.2.2.1, .ref u.2.2.2.2.2.2.2.2.1, .ref u.2.2.2.2.2.2.2.2.2, .int 0])), (u.1, .inl (y 0, 8, .inl (fun _ => 0))), (u.2.1, .inl (y 0, 8, .inl (fun _ => 0))), (u.2.2.1, .inl (y 0, 8, .inl (fun _ => 0))), (u.2.2.2.1, .inl (y 0, 128, .inl (fun _ => 0))), (u.2.2.2.2.1, .inl (y 2, 200, .inl (fun _ => 0))), (u.2.2.2.2.2.1, .inl (y 0, 200, .inl (fun _ => 0))), (u.2.2.2.2.2.2.1, .inl (y 0, 12, .inl (fun _ => 0))), (u.2.2.2.2.2.2.2.1, .inl (y 0, 12, .inl (fun _ => 0))), (u.2.2.2.2.2.2.2.2.1, .inl (y 0, 12, .inl (fun _ => 0))), (u.2.2.2.2.2.2.2.2.2, .inl (y 0, 12, .inl (fun _ => 0)))]
set_option maxHeartbeats 1000000 in
theorem nt_path {y : Nat → ClassId} {E : th_E} {σ : th_M} {q sz : Nat} {u : Nat × Nat × Nat × Nat × Nat × Nat × Nat × Nat × Nat × Nat} (hO : ok y E σ) (hq : σ q = none) (hsz : ∀ x, sz ≤ x → σ x = none) (hD : va_D (va_A [(q, .inr (4, [.null, .null, .null, .int 0, .null, .int 0, .null, .null, .int 0, .null, .null, .null, .null, .int 0]))] sz) (ntW_path y q u)) : ∃ E1, ext E E1 ∧ ok y E1 (th_lay (th_up σ q (.inr (4, [.null, .null, .null, .int 0, .null, .int 0, .null, .null, .int 0, .null, .null, .null, .null, .int 0]))) (ntW_path y q u)) ∧ fr [] E σ (th_lay (th_up σ q (.inr (4, [.null, .null, .null, .int 0, .null, .int 0, .null, .null, .int 0, .null, .null, .null, .null, .int 0]))) (ntW_path y q u)) ∧ kd E1 q = 4 := by
  have at0 := fun σ9 : th_M => th_lay_at (σ := σ9) hD (k := 0) rfl
  have n0 : u.1 ≠ q := fun e9 => va_D_ne hD 0 1 rfl rfl (by decide) e9.symm
  have s0 : σ u.1 = none := by
    rcases hD.2 1 _ rfl with ⟨k9, e9, h9⟩ | h9
    · cases k9 with
      | zero => exact absurd (congrArg Prod.fst (Option.some.inj h9)).symm n0
      | succ k9 => simp at h9
    · exact hsz _ h9
  have at1 := fun σ9 : th_M => th_lay_at (σ := σ9) hD (k := 1) rfl
  have n1 : u.2.1 ≠ q := fun e9 => va_D_ne hD 0 2 rfl rfl (by decide) e9.symm
  have s1 : σ u.2.1 = none := by
    rcases hD.2 2 _ rfl with ⟨k9, e9, h9⟩ | h9
    · cases k9 with
      | zero => exact absurd (congrArg Prod.fst (Option.some.inj h9)).symm n1
      | succ k9 => simp at h9
    · exact hsz _ h9
  have at2 := fun σ9 : th_M => th_lay_at (σ := σ9) hD (k := 2) rfl
  have n2 : u.2.2.1 ≠ q := fun e9 => va_D_ne hD 0 3 rfl rfl (by decide) e9.symm
  have s2 : σ u.2.2.1 = none := by
    rcases hD.2 3 _ rfl with ⟨k9, e9, h9⟩ | h9
    · cases k9 with
      | zero => exact absurd (congrArg Prod.fst (Option.some.inj h9)).symm n2
      | succ k9 => simp at h9
    · exact hsz _ h9
  have at3 := fun σ9 : th_M => th_lay_at (σ := σ9) hD (k := 3) rfl
  have n4 : u.2.2.2.1 ≠ q := fun e9 => va_D_ne hD 0 4 rfl rfl (by decide) e9.symm
  have s4 : σ u.2.2.2.1 = none := by
    rcases hD.2 4 _ rfl with ⟨k9, e9, h9⟩ | h9
    · cases k9 with
      | zero => exact absurd (congrArg Prod.fst (Option.some.inj h9)).symm n4
      | succ k9 => simp at h9
    · exact hsz _ h9
  have at5 := fun σ9 : th_M => th_lay_at (σ := σ9) hD (k := 4) rfl
  have n6 : u.2.2.2.2.1 ≠ q := fun e9 => va_D_ne hD 0 5 rfl rfl (by decide) e9.symm
  have s6 : σ u.2.2.2.2.1 = none := by
    rcases hD.2 5 _ rfl with ⟨k9, e9, h9⟩ | h9
    · cases k9 with
      | zero => exact absurd (congrArg Prod.fst (Option.some.inj h9)).symm n6
      | succ k9 => simp at h9
    · exact hsz _ h9
  have at7 := fun σ9 : th_M => th_lay_at (σ := σ9) hD (k := 5) rfl
  have n7 : u.2.2.2.2.2.1 ≠ q := fun e9 => va_D_ne hD 0 6 rfl rfl (by decide) e9.symm
  have s7 : σ u.2.2.2.2.2.1 = none := by
    rcases hD.2 6 _ rfl with ⟨k9, e9, h9⟩ | h9
    · cases k9 with
      | zero => exact absurd (congrArg Prod.fst (Option.some.inj h9)).symm n7
      | succ k9 => simp at h9
    · exact hsz _ h9
  have at8 := fun σ9 : th_M => th_lay_at (σ := σ9) hD (k := 6) rfl
  have n9 : u.2.2.2.2.2.2.1 ≠ q := fun e9 => va_D_ne hD 0 7 rfl rfl (by decide) e9.symm
  have s9 : σ u.2.2.2.2.2.2.1 = none := by
    rcases hD.2 7 _ rfl with ⟨k9, e9, h9⟩ | h9
    · cases k9 with
      | zero => exact absurd (congrArg Prod.fst (Option.some.inj h9)).symm n9
      | succ k9 => simp at h9
    · exact hsz _ h9
  have at10 := fun σ9 : th_M => th_lay_at (σ := σ9) hD (k := 7) rfl
  have n10 : u.2.2.2.2.2.2.2.1 ≠ q := fun e9 => va_D_ne hD 0 8 rfl rfl (by decide) e9.symm
  have s10 : σ u.2.2.2.2.2.2.2.1 = none := by
    rcases hD.2 8 _ rfl with ⟨k9, e9, h9⟩ | h9
    · cases k9 with
      | zero => exact absurd (congrArg Prod.fst (Option.some.inj h9)).symm n10
      | succ k9 => simp at h9
    · exact hsz _ h9
  have at11 := fun σ9 : th_M => th_lay_at (σ := σ9) hD (k := 8) rfl
  have n11 : u.2.2.2.2.2.2.2.2.1 ≠ q := fun e9 => va_D_ne hD 0 9 rfl rfl (by decide) e9.symm
  have s11 : σ u.2.2.2.2.2.2.2.2.1 = none := by
    rcases hD.2 9 _ rfl with ⟨k9, e9, h9⟩ | h9
    · cases k9 with
      | zero => exact absurd (congrArg Prod.fst (Option.some.inj h9)).symm n11
      | succ k9 => simp at h9
    · exact hsz _ h9
  have at12 := fun σ9 : th_M => th_lay_at (σ := σ9) hD (k := 9) rfl
  have n12 : u.2.2.2.2.2.2.2.2.2 ≠ q := fun e9 => va_D_ne hD 0 10 rfl rfl (by decide) e9.symm
  have s12 : σ u.2.2.2.2.2.2.2.2.2 = none := by
    rcases hD.2 10 _ rfl with ⟨k9, e9, h9⟩ | h9
    · cases k9 with
      | zero => exact absurd (congrArg Prod.fst (Option.some.inj h9)).symm n12
      | succ k9 => simp at h9
    · exact hsz _ h9
  have at13 := fun σ9 : th_M => th_lay_at (σ := σ9) hD (k := 10) rfl
  have hgn : ∀ x k, (fun x => if x = u.1 then some 0 else if x = u.2.1 then some 1 else if x = u.2.2.1 then some 2 else if x = u.2.2.2.1 then some 4 else if x = u.2.2.2.2.1 then some 6 else if x = u.2.2.2.2.2.1 then some 7 else if x = u.2.2.2.2.2.2.1 then some 9 else if x = u.2.2.2.2.2.2.2.1 then some 10 else if x = u.2.2.2.2.2.2.2.2.1 then some 11 else if x = u.2.2.2.2.2.2.2.2.2 then some 12 else none : Nat → Option Nat) x = some k → σ x = none ∧ x ≠ q ∧ (th_lay (th_up σ q (.inr (4, [.null, .null, .null, .int 0, .null, .int 0, .null, .null, .int 0, .null, .null, .null, .null, .int 0]))) (ntW_path y q u) x).isSome = true := by
    intro x k h9
    dsimp only at h9
    by_cases e0 : x = u.1
    · rw [e0]; exact ⟨s0, n0, by rw [at1]; rfl⟩
    rw [if_neg e0] at h9
    by_cases e1 : x = u.2.1
    · rw [e1]; exact ⟨s1, n1, by rw [at2]; rfl⟩
    rw [if_neg e1] at h9
    by_cases e2 : x = u.2.2.1
    · rw [e2]; exact ⟨s2, n2, by rw [at3]; rfl⟩
    rw [if_neg e2] at h9
    by_cases e4 : x = u.2.2.2.1
    · rw [e4]; exact ⟨s4, n4, by rw [at5]; rfl⟩
    rw [if_neg e4] at h9
    by_cases e6 : x = u.2.2.2.2.1
    · rw [e6]; exact ⟨s6, n6, by rw [at7]; rfl⟩
    rw [if_neg e6] at h9
    by_cases e7 : x = u.2.2.2.2.2.1
    · rw [e7]; exact ⟨s7, n7, by rw [at8]; rfl⟩
    rw [if_neg e7] at h9
    by_cases e9 : x = u.2.2.2.2.2.2.1
    · rw [e9]; exact ⟨s9, n9, by rw [at10]; rfl⟩
    rw [if_neg e9] at h9
    by_cases e10 : x = u.2.2.2.2.2.2.2.1
    · rw [e10]; exact ⟨s10, n10, by rw [at11]; rfl⟩
    rw [if_neg e10] at h9
    by_cases e11 : x = u.2.2.2.2.2.2.2.2.1
    · rw [e11]; exact ⟨s11, n11, by rw [at12]; rfl⟩
    rw [if_neg e11] at h9
    by_cases e12 : x = u.2.2.2.2.2.2.2.2.2
    · rw [e12]; exact ⟨s12, n12, by rw [at13]; rfl⟩
    rw [if_neg e12] at h9
    cases h9
  refine ⟨_, hO.add (σ1 := th_lay (th_up σ q (.inr (4, [.null, .null, .null, .int 0, .null, .int 0, .null, .null, .int 0, .null, .null, .null, .null, .int 0]))) (ntW_path y q u)) (f := fun k => if k = 0 then u.1 else if k = 1 then u.2.1 else if k = 2 then u.2.2.1 else if k = 4 then u.2.2.2.1 else if k = 6 then u.2.2.2.2.1 else if k = 7 then u.2.2.2.2.2.1 else if k = 9 then u.2.2.2.2.2.2.1 else if k = 10 then u.2.2.2.2.2.2.2.1 else if k = 11 then u.2.2.2.2.2.2.2.2.1 else if k = 12 then u.2.2.2.2.2.2.2.2.2 else 0) (g := fun x => if x = u.1 then some 0 else if x = u.2.1 then some 1 else if x = u.2.2.1 then some 2 else if x = u.2.2.2.1 then some 4 else if x = u.2.2.2.2.1 then some 6 else if x = u.2.2.2.2.2.1 then some 7 else if x = u.2.2.2.2.2.2.1 then some 9 else if x = u.2.2.2.2.2.2.2.1 then some 10 else if x = u.2.2.2.2.2.2.2.2.1 then some 11 else if x = u.2.2.2.2.2.2.2.2.2 then some 12 else none) (z := u.1) (fun x hx => ?_) hq (fun x k h9 => (hgn x k h9).1) (by decide) s0 n0 ⟨Eadd_ow, fun x hx => ?_, _, at0 _, rfl, fun k c v hc hv => ?_⟩⟩
  · have hxq : x ≠ q := fun e9 => by rw [e9, hq] at hx; cases hx
    have hx0 : x ≠ u.1 := fun e9 => by rw [e9, s0] at hx; cases hx
    have hx1 : x ≠ u.2.1 := fun e9 => by rw [e9, s1] at hx; cases hx
    have hx2 : x ≠ u.2.2.1 := fun e9 => by rw [e9, s2] at hx; cases hx
    have hx4 : x ≠ u.2.2.2.1 := fun e9 => by rw [e9, s4] at hx; cases hx
    have hx6 : x ≠ u.2.2.2.2.1 := fun e9 => by rw [e9, s6] at hx; cases hx
    have hx7 : x ≠ u.2.2.2.2.2.1 := fun e9 => by rw [e9, s7] at hx; cases hx
    have hx9 : x ≠ u.2.2.2.2.2.2.1 := fun e9 => by rw [e9, s9] at hx; cases hx
    have hx10 : x ≠ u.2.2.2.2.2.2.2.1 := fun e9 => by rw [e9, s10] at hx; cases hx
    have hx11 : x ≠ u.2.2.2.2.2.2.2.2.1 := fun e9 => by rw [e9, s11] at hx; cases hx
    have hx12 : x ≠ u.2.2.2.2.2.2.2.2.2 := fun e9 => by rw [e9, s12] at hx; cases hx
    rw [th_lay_no, th_up_ne _ _ hxq]
    intro pr hpr
    simp only [ntW_path, List.mem_cons, List.not_mem_nil, or_false] at hpr
    rcases hpr with h9 | h9 | h9 | h9 | h9 | h9 | h9 | h9 | h9 | h9 | h9
    · rw [h9]; exact fun e9 => hxq e9.symm
    · rw [h9]; exact fun e9 => hx0 e9.symm
    · rw [h9]; exact fun e9 => hx1 e9.symm
    · rw [h9]; exact fun e9 => hx2 e9.symm
    · rw [h9]; exact fun e9 => hx4 e9.symm
    · rw [h9]; exact fun e9 => hx6 e9.symm
    · rw [h9]; exact fun e9 => hx7 e9.symm
    · rw [h9]; exact fun e9 => hx9 e9.symm
    · rw [h9]; exact fun e9 => hx10 e9.symm
    · rw [h9]; exact fun e9 => hx11 e9.symm
    · rw [h9]; exact fun e9 => hx12 e9.symm
  · by_cases ex : x = q
    · rw [ex, at0]; rfl
    cases hgx : (fun x => if x = u.1 then some 0 else if x = u.2.1 then some 1 else if x = u.2.2.1 then some 2 else if x = u.2.2.2.1 then some 4 else if x = u.2.2.2.2.1 then some 6 else if x = u.2.2.2.2.2.1 then some 7 else if x = u.2.2.2.2.2.2.1 then some 9 else if x = u.2.2.2.2.2.2.2.1 then some 10 else if x = u.2.2.2.2.2.2.2.2.1 then some 11 else if x = u.2.2.2.2.2.2.2.2.2 then some 12 else none : Nat → Option Nat) x with
    | some k => exact (hgn x k hgx).2.2
    | none =>
      by_cases eo : (ow E x).1 = q
      · have h9 : (ow (Eadd E q 4 (fun k => if k = 0 then u.1 else if k = 1 then u.2.1 else if k = 2 then u.2.2.1 else if k = 4 then u.2.2.2.1 else if k = 6 then u.2.2.2.2.1 else if k = 7 then u.2.2.2.2.2.1 else if k = 9 then u.2.2.2.2.2.2.1 else if k = 10 then u.2.2.2.2.2.2.2.1 else if k = 11 then u.2.2.2.2.2.2.2.2.1 else if k = 12 then u.2.2.2.2.2.2.2.2.2 else 0) (fun x => if x = u.1 then some 0 else if x = u.2.1 then some 1 else if x = u.2.2.1 then some 2 else if x = u.2.2.2.1 then some 4 else if x = u.2.2.2.2.1 then some 6 else if x = u.2.2.2.2.2.1 then some 7 else if x = u.2.2.2.2.2.2.1 then some 9 else if x = u.2.2.2.2.2.2.2.1 then some 10 else if x = u.2.2.2.2.2.2.2.2.1 then some 11 else if x = u.2.2.2.2.2.2.2.2.2 then some 12 else none) u.1) x).1 = u.1 := by
          have eo2 : (E.2.2 x).1 = q := eo
          simp only [Eadd, ow, if_neg ex, hgx, eo2, if_true]
        exact absurd (h9.symm.trans hx) n0
      · exact absurd (by rw [Eadd_own ex hgx eo] at hx; exact hx) eo
  · match k, hc, hv with
    | 0, hc, hv =>
      cases (show (1, 8, 0) = c from Option.some.inj hc)
      cases (show (.ref u.1 : Value) = v from Option.some.inj hv)
      exact fo_arr isA1 (by rw [Eadd_ad]; rfl) (Eadd_owg n0 (by rw [if_pos rfl])) (at1 _) (fun _ => el1)
    | 1, hc, hv =>
      cases (show (1, 8, 0) = c from Option.some.inj hc)
      cases (show (.ref u.2.1 : Value) = v from Option.some.inj hv)
      exact fo_arr isA1 (by rw [Eadd_ad]; rfl) (Eadd_owg n1 (by rw [if_neg (va_D_ne hD 2 1 rfl rfl (by decide)), if_pos rfl])) (at2 _) (fun _ => el1)
    | 2, hc, hv =>
      cases (show (1, 8, 0) = c from Option.some.inj hc)
      cases (show (.ref u.2.2.1 : Value) = v from Option.some.inj hv)
      exact fo_arr isA1 (by rw [Eadd_ad]; rfl) (Eadd_owg n2 (by rw [if_neg (va_D_ne hD 3 1 rfl rfl (by decide)), if_neg (va_D_ne hD 3 2 rfl rfl (by decide)), if_pos rfl])) (at3 _) (fun _ => el1)
    | 3, hc, hv =>
      cases (show (0, 0, 8) = c from Option.some.inj hc)
      cases (show (.int 0 : Value) = v from Option.some.inj hv)
      exact fo_int (z := 0) ⟨by decide, by decide⟩ (by decide) (by decide)
    | 4, hc, hv =>
      cases (show (1, 128, 0) = c from Option.some.inj hc)
      cases (show (.ref u.2.2.2.1 : Value) = v from Option.some.inj hv)
      exact fo_arr isA1 (by rw [Eadd_ad]; rfl) (Eadd_owg n4 (by rw [if_neg (va_D_ne hD 4 1 rfl rfl (by decide)), if_neg (va_D_ne hD 4 2 rfl rfl (by decide)), if_neg (va_D_ne hD 4 3 rfl rfl (by decide)), if_pos rfl])) (at5 _) (fun _ => el1)
    | 5, hc, hv =>
      cases (show (0, 0, 128) = c from Option.some.inj hc)
      cases (show (.int 0 : Value) = v from Option.some.inj hv)
      exact fo_int (z := 0) ⟨by decide, by decide⟩ (by decide) (by decide)
    | 6, hc, hv =>
      cases (show (2, 200, 0) = c from Option.some.inj hc)
      cases (show (.ref u.2.2.2.2.1 : Value) = v from Option.some.inj hv)
      exact fo_arz (by rw [Eadd_ad]; rfl) (Eadd_owg n6 (by rw [if_neg (va_D_ne hD 5 1 rfl rfl (by decide)), if_neg (va_D_ne hD 5 2 rfl rfl (by decide)), if_neg (va_D_ne hD 5 3 rfl rfl (by decide)), if_neg (va_D_ne hD 5 4 rfl rfl (by decide)), if_pos rfl])) (at7 _) (fun _ => Or.inl rfl)
    | 7, hc, hv =>
      cases (show (1, 200, 0) = c from Option.some.inj hc)
      cases (show (.ref u.2.2.2.2.2.1 : Value) = v from Option.some.inj hv)
      exact fo_arr isA1 (by rw [Eadd_ad]; rfl) (Eadd_owg n7 (by rw [if_neg (va_D_ne hD 6 1 rfl rfl (by decide)), if_neg (va_D_ne hD 6 2 rfl rfl (by decide)), if_neg (va_D_ne hD 6 3 rfl rfl (by decide)), if_neg (va_D_ne hD 6 4 rfl rfl (by decide)), if_neg (va_D_ne hD 6 5 rfl rfl (by decide)), if_pos rfl])) (at8 _) (fun _ => el1)
    | 8, hc, hv =>
      cases (show (0, 0, 200) = c from Option.some.inj hc)
      cases (show (.int 0 : Value) = v from Option.some.inj hv)
      exact fo_int (z := 0) ⟨by decide, by decide⟩ (by decide) (by decide)
    | 9, hc, hv =>
      cases (show (1, 12, 0) = c from Option.some.inj hc)
      cases (show (.ref u.2.2.2.2.2.2.1 : Value) = v from Option.some.inj hv)
      exact fo_arr isA1 (by rw [Eadd_ad]; rfl) (Eadd_owg n9 (by rw [if_neg (va_D_ne hD 7 1 rfl rfl (by decide)), if_neg (va_D_ne hD 7 2 rfl rfl (by decide)), if_neg (va_D_ne hD 7 3 rfl rfl (by decide)), if_neg (va_D_ne hD 7 4 rfl rfl (by decide)), if_neg (va_D_ne hD 7 5 rfl rfl (by decide)), if_neg (va_D_ne hD 7 6 rfl rfl (by decide)), if_pos rfl])) (at10 _) (fun _ => el1)
    | 10, hc, hv =>
      cases (show (1, 12, 0) = c from Option.some.inj hc)
      cases (show (.ref u.2.2.2.2.2.2.2.1 : Value) = v from Option.some.inj hv)
      exact fo_arr isA1 (by rw [Eadd_ad]; rfl) (Eadd_owg n10 (by rw [if_neg (va_D_ne hD 8 1 rfl rfl (by decide)), if_neg (va_D_ne hD 8 2 rfl rfl (by decide)), if_neg (va_D_ne hD 8 3 rfl rfl (by decide)), if_neg (va_D_ne hD 8 4 rfl rfl (by decide)), if_neg (va_D_ne hD 8 5 rfl rfl (by decide)), if_neg (va_D_ne hD 8 6 rfl rfl (by decide)), if_neg (va_D_ne hD 8 7 rfl rfl (by decide)), if_pos rfl])) (at11 _) (fun _ => el1)
    | 11, hc, hv =>
      cases (show (1, 12, 0) = c from Option.some.inj hc)
      cases (show (.ref u.2.2.2.2.2.2.2.2.1 : Value) = v from Option.some.inj hv)
      exact fo_arr isA1 (by rw [Eadd_ad]; rfl) (Eadd_owg n11 (by rw [if_neg (va_D_ne hD 9 1 rfl rfl (by decide)), if_neg (va_D_ne hD 9 2 rfl rfl (by decide)), if_neg (va_D_ne hD 9 3 rfl rfl (by decide)), if_neg (va_D_ne hD 9 4 rfl rfl (by decide)), if_neg (va_D_ne hD 9 5 rfl rfl (by decide)), if_neg (va_D_ne hD 9 6 rfl rfl (by decide)), if_neg (va_D_ne hD 9 7 rfl rfl (by decide)), if_neg (va_D_ne hD 9 8 rfl rfl (by decide)), if_pos rfl])) (at12 _) (fun _ => el1)
    | 12, hc, hv =>
      cases (show (1, 12, 0) = c from Option.some.inj hc)
      cases (show (.ref u.2.2.2.2.2.2.2.2.2 : Value) = v from Option.some.inj hv)
      exact fo_arr isA1 (by rw [Eadd_ad]; rfl) (Eadd_owg n12 (by rw [if_neg (va_D_ne hD 10 1 rfl rfl (by decide)), if_neg (va_D_ne hD 10 2 rfl rfl (by decide)), if_neg (va_D_ne hD 10 3 rfl rfl (by decide)), if_neg (va_D_ne hD 10 4 rfl rfl (by decide)), if_neg (va_D_ne hD 10 5 rfl rfl (by decide)), if_neg (va_D_ne hD 10 6 rfl rfl (by decide)), if_neg (va_D_ne hD 10 7 rfl rfl (by decide)), if_neg (va_D_ne hD 10 8 rfl rfl (by decide)), if_neg (va_D_ne hD 10 9 rfl rfl (by decide)), if_pos rfl])) (at13 _) (fun _ => el1)
    | 13, hc, hv =>
      cases (show (0, 0, 12) = c from Option.some.inj hc)
      cases (show (.int 0 : Value) = v from Option.some.inj hv)
      exact fo_int (z := 0) ⟨by decide, by decide⟩ (by decide) (by decide)
    | k + 14, hc, hv => exact absurd (show ([] : List (Nat × Int × Int))[k]? = some c from hc) (by simp)
