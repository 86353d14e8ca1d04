/-! WHAT HOLDS BETWEEN TWO CALLS -/
def LJ (y : Nat → ClassId) (E : th_E) (σ : th_M) (x0 m0 ou : Nat) (tx tm : Int) : Prop := ok y E σ ∧ kd E x0 = 12 ∧ kd E m0 = 13 ∧ ow E ou = (m0, 98) ∧ (∃ f : Nat → Int64, σ ou = some (.inl (y 1, 1, .inr (.inl f)))) ∧ jw (aF σ (ad E m0 1)) (aF σ (ad E m0 37)) (aF σ (ad E m0 61)) (aF σ (ad E m0 62)) (aF σ (ad E m0 39)) (aF σ (ad E m0 40)) (aF σ (ad E m0 42)) (aF σ (ad E m0 43)) (aF σ (ad E m0 44)) (aF σ (ad E m0 45)) (aF σ (ad E m0 46)) (gI σ m0 36) (gI σ m0 58) (gI σ m0 59) ∧ gI σ x0 1 = tx ∧ gI σ m0 12 = tm
section LJS
variable {y : Nat → ClassId} {E E1 : th_E} {σ σ1 : th_M} {x0 m0 ou : Nat} {tx tm t2 : Int} {S L : List Nat}
theorem R13_98 {k : Nat} (h : k ∈ R13) : k ≠ 98 := fun e => by rw [e] at h; exact absurd h (by decide)
theorem LJ.cls (h : LJ y E σ x0 m0 ou tx tm) (hX : ext E E1) (hO : ok y E1 σ1) (hF : fx S E σ σ1 ou) (hS : 13 ∉ S) (hf : ∃ f : Nat → Int64, σ1 ou = some (.inl (y 1, 1, .inr (.inl f)))) (ht : gI σ1 x0 1 = t2) : LJ y E1 σ1 x0 m0 ou t2 tm := by
  obtain ⟨hO0, hx, hm, ho, hf0, hj, h1, h2⟩ := h
  have had : ∀ k, ad E1 m0 k = ad E m0 k := hX.ad2 hm (by decide)
  have hrow : ∀ k, k ∈ R13 → aF σ1 (ad E1 m0 k) = aF σ (ad E m0 k) := fun k hk => by
    have h9 := (hO0.owr hm hk).1
    rw [had k]
    have e : σ1 (ad E m0 k) = σ (ad E m0 k) := by
      refine hF _ (fun e9 => ?_) (by rw [h9]; show kd E m0 ≠ 0; rw [hm]; decide) (by rw [h9]; show kd E m0 ∉ S; rw [hm]; exact hS)
      rw [e9, ho] at h9
      exact R13_98 hk (show (98 : Nat) = k from congrArg Prod.snd h9).symm
    simp only [aF, e]
  have hg : ∀ k, gI σ1 m0 k = gI σ m0 k := fun k => by
    have h9 := hO0.ow0 hm (by decide)
    have e : σ1 m0 = σ m0 := hF _ (hO0.neou hm (by decide) ho) (by rw [h9]; show kd E m0 ≠ 0; rw [hm]; decide) (by rw [h9]; show kd E m0 ∉ S; rw [hm]; exact hS)
    simp only [gI, e]
  refine ⟨hO, hX.kd2 hx (by decide), hX.kd2 hm (by decide), ou_ext hX ho hm, hf, ?_, ht, (hg 12).trans h2⟩
  rw [hrow 1 (by decide), hrow 37 (by decide), hrow 61 (by decide), hrow 62 (by decide), hrow 39 (by decide), hrow 40 (by decide), hrow 42 (by decide), hrow 43 (by decide), hrow 44 (by decide), hrow 45 (by decide), hrow 46 (by decide), hg 36, hg 58, hg 59]
  exact hj
theorem LJ.clr (h : LJ y E σ x0 m0 ou tx tm) (hX : ext E E1) (hO : ok y E1 σ1) (hF : fr S E σ σ1) (hS : 13 ∉ S) (ht : gI σ1 x0 1 = t2) : LJ y E1 σ1 x0 m0 ou t2 tm := by
  obtain ⟨f, hf⟩ := h.2.2.2.2.1
  have hk := ow_k h.2.2.2.1 h.2.2.1
  exact h.cls hX hO (fun x _ h0 hs => hF x h0 hs) hS ⟨f, (hF ou (by rw [hk]; decide) (by rw [hk]; exact hS)).trans hf⟩ ht
theorem LJ.ref (h : LJ y E σ x0 m0 ou tx tm) (hO : ok y E σ1) (hF : fr [13] E σ σ1) (hM : fm L E σ σ1 m0) (hj : jw (aF σ1 (ad E m0 1)) (aF σ1 (ad E m0 37)) (aF σ1 (ad E m0 61)) (aF σ1 (ad E m0 62)) (aF σ1 (ad E m0 39)) (aF σ1 (ad E m0 40)) (aF σ1 (ad E m0 42)) (aF σ1 (ad E m0 43)) (aF σ1 (ad E m0 44)) (aF σ1 (ad E m0 45)) (aF σ1 (ad E m0 46)) (gI σ1 m0 36) (gI σ1 m0 58) (gI σ1 m0 59)) (ht : gI σ1 m0 12 = t2) : LJ y E σ1 x0 m0 ou tx t2 := by
  obtain ⟨hO0, hx, hm, ho, ⟨f, hf⟩, -, h1, -⟩ := h
  exact ⟨hO, hx, hm, ho, ⟨f, (hM.2.2 ou ho).trans hf⟩, hj, (fr.ki hO0 hF hx (by decide) (by decide) 1).trans h1, ht⟩
theorem LJ.tapx (h : LJ y E σ x0 m0 ou tx tm) : gI σ x0 1 = tx := h.2.2.2.2.2.2.1
theorem LJ.tapm (h : LJ y E σ x0 m0 ou tx tm) : gI σ m0 12 = tm := h.2.2.2.2.2.2.2
theorem LJ.jw (h : LJ y E σ x0 m0 ou tx tm) : jw (aF σ (ad E m0 1)) (aF σ (ad E m0 37)) (aF σ (ad E m0 61)) (aF σ (ad E m0 62)) (aF σ (ad E m0 39)) (aF σ (ad E m0 40)) (aF σ (ad E m0 42)) (aF σ (ad E m0 43)) (aF σ (ad E m0 44)) (aF σ (ad E m0 45)) (aF σ (ad E m0 46)) (gI σ m0 36) (gI σ m0 58) (gI σ m0 59) := h.2.2.2.2.2.1
end LJS
section PXS
variable {s : State} {H H0 : Heap} {locs : List Loc} {G : va_G} {y : Nat → ClassId} {b0 : Nat} {σ : th_M} {As : List Value}
theorem th_PXS (hK : nq_K G y s) (hX : nq_X (th_A b0) s) (hS : va_S (th_A b0) s.heap H locs) (hH : th_H G b0 σ H) : PreS s H (th_PX G y b0 σ As) As := ⟨th_blindX _ _ _ _ _, fun U hU hW => ⟨rfl, by rw [hU]; exact hH, hK.warm hW, hX.on hS hU hW⟩⟩
end PXS
theorem fx.m0 {y : Nat → ClassId} {E : th_E} {σ σ1 : th_M} {x0 m0 ou : Nat} {tx tm : Int} {S : List Nat} (h : LJ y E σ x0 m0 ou tx tm) (hF : fx S E σ σ1 ou) (hS : 13 ∉ S) (k : Nat) : gI σ1 m0 k = gI σ m0 k := by
  obtain ⟨hO0, hx, hm, ho, -⟩ := h
  have h9 := hO0.ow0 hm (by decide)
  have e : σ1 m0 = σ m0 := hF _ (hO0.neou hm (by decide) ho) (by rw [h9]; show kd E m0 ≠ 0; rw [hm]; decide) (by rw [h9]; show kd E m0 ∉ S; rw [hm]; exact hS)
  simp only [gI, e]
theorem LJ.row6 {y : Nat → ClassId} {E E1 : th_E} {σ σ1 : th_M} {x0 m0 ou : Nat} {tx tm : Int} {S : List Nat} (h : LJ y E σ x0 m0 ou tx tm) (hX : ext E E1) (hF : fx S E σ σ1 ou) (hS : 13 ∉ S) : aF σ1 (ad E1 m0 6) = aF σ (ad E m0 6) := by
  obtain ⟨hO0, hx, hm, ho, -⟩ := h
  have hk : (6 : Nat) ∈ R13 := by decide
  have h9 := (hO0.owr hm hk).1
  rw [hX.ad2 hm (by decide) 6]
  have e : σ1 (ad E m0 6) = σ (ad E m0 6) := by
    refine hF _ (fun e9 => ?_) (by rw [h9]; show kd E m0 ≠ 0; rw [hm]; decide) (by rw [h9]; show kd E m0 ∉ S; rw [hm]; exact hS)
    rw [e9, ho] at h9
    exact R13_98 hk (show (98 : Nat) = 6 from congrArg Prod.snd h9).symm
  simp only [aF, e]
/-- the tapes: as far as the class's goes they are alike, bytes -/
def tp (E : th_E) (σ : th_M) (x0 m0 : Nat) : Prop := tps (aF σ (ad E x0 0)) (aF σ (ad E m0 6)) (gI σ x0 1)
section TPS
variable {E E1 : th_E} {σ σ1 : th_M} {x0 m0 ou : Nat} {cI : ClassId} {f0 f2 : Nat → Int32} {c0 c1 i0 i1 n z a b c d e : Int}
theorem tp.cls (h : tp E σ x0 m0) (hr : rq (aF σ (ad E x0 0)) (aF σ1 (ad E1 x0 0)) (gI σ x0 1) (gI σ1 x0 1)) (hm : aF σ1 (ad E1 m0 6) = aF σ (ad E m0 6)) : tp E1 σ1 x0 m0 := by
  unfold tp at h ⊢
  rcases hr with h9 | ⟨h9, h8⟩
  · exact tps.zero (by omega)
  · rw [h9, hm]
    exact h.le h8
theorem tp.ref (h : tp E σ x0 m0) (hx : aF σ1 (ad E x0 0) = aF σ (ad E x0 0)) (hm : aF σ1 (ad E m0 6) = aF σ (ad E m0 6)) (hc : gI σ1 x0 1 = gI σ x0 1) : tp E σ1 x0 m0 := by
  unfold tp at h ⊢
  rw [hx, hm, hc]
  exact h
theorem tp.byt (h : tp E σ x0 m0) : ∀ k : Int, 0 ≤ k → k < gI σ x0 1 → 0 ≤ (aF σ (ad E x0 0) k.toNat).toInt ∧ (aF σ (ad E x0 0) k.toNat).toInt ≤ 255 := fun k h0 h1 => by
  have h9 := h k h0 h1
  omega
theorem tp.byf (h : tp E σ x0 m0) (hn : n ≤ gI σ x0 1) : byf (aF σ (ad E m0 6)) n = byf (aF σ (ad E x0 0)) n := (byf_eq (fun k h0 h1 => (h k h0 h1).1) hn).symm
theorem tp.fed (h : tp E σ x0 m0) (hx1 : 0 ≤ gI σ x0 1) (hfx : gI σ x0 1 + 20 ≤ 400 → fdp (aF σ (ad E x0 0)) (aF σ1 (ad E x0 0)) (gI σ x0 1) 20 a b c d e) (hrx : ¬ gI σ x0 1 + 20 ≤ 400 → aF σ1 (ad E x0 0) = aF σ (ad E x0 0)) {σ2 : th_M} (hm : aF σ1 (ad E m0 6) = aF σ (ad E m0 6)) (hx : aF σ2 (ad E x0 0) = aF σ1 (ad E x0 0)) (ec : gI σ1 m0 12 = gI σ x0 1) (hfm : gI σ1 m0 12 + 20 ≤ 400 → fdp (aF σ1 (ad E m0 6)) (aF σ2 (ad E m0 6)) (gI σ1 m0 12) 20 a b c d e) (hrm : ¬ gI σ1 m0 12 + 20 ≤ 400 → aF σ2 (ad E m0 6) = aF σ1 (ad E m0 6)) (h2 : (gI σ x0 1 + 20 ≤ 400 ∧ gI σ2 x0 1 = gI σ x0 1 + 20) ∨ (¬ gI σ x0 1 + 20 ≤ 400 ∧ gI σ2 x0 1 = gI σ x0 1)) : tp E σ2 x0 m0 := by
  unfold tp at h ⊢
  rw [ec, hm] at hfm
  rw [ec, hm] at hrm
  rw [hx]
  rcases h2 with ⟨h9, h8⟩ | ⟨h9, h8⟩
  · exact h.fed hx1 (hfx h9) (hfm h9) h8
  · rw [hrx h9, hrm h9, h8]
    exact h
end TPS
theorem nq_cmp (x : Int64) : lg_cmp x x = 0 := by
  unfold lg_cmp
  rw [if_neg (fun h => Int64.lt_irrefl h), if_pos rfl]
/-- where there is a path: on both sides -/
def pth (q : Nat → Option Nat) (f : Nat → Int32) : Prop := ∀ k : Nat, k < 4 → ((q k).isSome = true ↔ 1 ≤ (f k).toInt)
theorem pth.path {q q1 : Nat → Option Nat} {f f1 : Nat → Int32} {sl v r n : Int} (h : pth q f) (hs : 0 ≤ sl ∧ sl ≤ 3) (hn : 0 ≤ n ∧ n ≤ 400) (hv : r = v) (h1 : v ≠ 0 → q1 = q) (h2 : v = 0 → ∃ u, q1 = va_up q sl.toNat (some u)) (h3 : r ≠ 0 → f1 = f) (h4 : r = 0 → f1 = upd f sl.toNat (I (n + 1))) : pth q1 f1 := by
  subst hv
  rcases Classical.em (r = 0) with h9 | h9
  · obtain ⟨u, h2⟩ := h2 h9
    rw [h2, h4 h9]
    intro k hk
    by_cases e : k = sl.toNat
    · subst e
      rw [upd_at, I_toInt ⟨by omega, by omega⟩]
      have e2 : va_up q sl.toNat (some u) sl.toNat = some u := by simp [va_up]
      rw [e2]
      exact ⟨fun _ => by omega, fun _ => rfl⟩
    · rw [upd_no _ _ e]
      have e2 : va_up q sl.toNat (some u) k = q k := by simp [va_up, e]
      rw [e2]
      exact h k hk
  · rw [h1 h9, h3 h9]
    exact h
/-- one Tokens for both readers -/
def shr (E : th_E) (x0 : Nat) : Prop := (kd E (ad E x0 6) = 10 ∧ kd E (ad E x0 7) = 11) ∧ ad E (ad E x0 6) 0 = ad E x0 5 ∧ ad E (ad E x0 7) 0 = ad E x0 5
def F5 (E : th_E) (σ : th_M) (x0 m0 : Nat) : Prop := gI σ x0 2 = gI σ m0 21 ∧ pth (aQ σ (ad E x0 3)) (aF σ (ad E m0 8)) ∧ shr E x0
section F5S
variable {E E1 : th_E} {σ σ1 : th_M} {x0 m0 : Nat} {i : Int} {f : Nat → Int32}
theorem shr.ext (h : shr E x0) (hX : ext E E1) (hk : kd E x0 = 12) : shr E1 x0 := by
  obtain ⟨⟨a, b⟩, c, d⟩ := h
  unfold shr
  rw [hX.ad2 hk (by decide) 6, hX.ad2 hk (by decide) 7, hX.ad2 hk (by decide) 5, hX.ad2 a (by decide) 0, hX.ad2 b (by decide) 0]
  exact ⟨⟨hX.kd2 a (by decide), hX.kd2 b (by decide)⟩, c, d⟩
theorem F5.go (h : F5 E σ x0 m0) (hX : ext E E1) (hk : kd E x0 = 12) (h1 : gI σ1 x0 2 = gI σ1 m0 21) (h2 : pth (aQ σ1 (ad E1 x0 3)) (aF σ1 (ad E1 m0 8))) : F5 E1 σ1 x0 m0 := ⟨h1, h2, h.2.2.ext hX hk⟩
theorem F5.keep (h : F5 E σ x0 m0) (hX : ext E E1) (hk : kd E x0 = 12) (e2 : gI σ1 x0 2 = gI σ x0 2) (eq : aQ σ1 (ad E1 x0 3) = aQ σ (ad E x0 3)) (em : gI σ1 m0 21 = gI σ m0 21) (e8 : aF σ1 (ad E1 m0 8) = aF σ (ad E m0 8)) : F5 E1 σ1 x0 m0 := h.go hX hk (e2.trans (h.1.trans em.symm)) (by rw [eq, e8]; exact h.2.1)
theorem F5.at (h : F5 E σ x0 m0) (hf : f = aF σ (ad E m0 8)) : ((pAt σ E x0 i).isSome = true ↔ (0 ≤ i ∧ i ≤ 3 ∧ 1 ≤ (f i.toNat).toInt)) := by
  subst hf
  unfold pAt
  by_cases h9 : 0 ≤ i ∧ i ≤ 3
  · rw [if_pos h9]
    have h8 := h.2.1 i.toNat (by omega)
    exact ⟨fun h7 => ⟨h9.1, h9.2, h8.mp h7⟩, fun h7 => h8.mpr h7.2.2⟩
  · rw [if_neg h9]
    exact ⟨fun h7 => (by cases h7), fun h7 => absurd ⟨h7.1, h7.2.1⟩ h9⟩
end F5S
theorem LJ.row8 {y : Nat → ClassId} {E E1 : th_E} {σ σ1 : th_M} {x0 m0 ou : Nat} {tx tm : Int} {S : List Nat} (h : LJ y E σ x0 m0 ou tx tm) (hX : ext E E1) (hF : fx S E σ σ1 ou) (hS : 13 ∉ S) : aF σ1 (ad E1 m0 8) = aF σ (ad E m0 8) := by
  obtain ⟨hO0, hx, hm, ho, -⟩ := h
  have hk : (8 : Nat) ∈ R13 := by decide
  have h9 := (hO0.owr hm hk).1
  rw [hX.ad2 hm (by decide) 8]
  have e : σ1 (ad E m0 8) = σ (ad E m0 8) := by
    refine hF _ (fun e9 => ?_) (by rw [h9]; show kd E m0 ≠ 0; rw [hm]; decide) (by rw [h9]; show kd E m0 ∉ S; rw [hm]; exact hS)
    rw [e9, ho] at h9
    exact R13_98 hk (show (98 : Nat) = 8 from congrArg Prod.snd h9).symm
  simp only [aF, e]
