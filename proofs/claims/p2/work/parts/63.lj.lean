/-! WHAT HOLDS BETWEEN TWO CALLS -/
def LJ (y : Nat → ClassId) (E : th_E) (σ : th_M) (x0 m0 ou : Nat) (tx tm : Int) : Prop := ok y E σ ∧ kd E x0 = 12 ∧ kd E m0 = 13 ∧ ow E ou = (m0, 98) ∧ (∃ f : Nat → Int64, σ ou = some (.inl (y 1, 1, .inr (.inl f)))) ∧ jw (aF σ (ad E m0 1)) (aF σ (ad E m0 37)) (aF σ (ad E m0 61)) (aF σ (ad E m0 62)) (aF σ (ad E m0 39)) (aF σ (ad E m0 40)) (aF σ (ad E m0 42)) (aF σ (ad E m0 43)) (aF σ (ad E m0 44)) (aF σ (ad E m0 45)) (aF σ (ad E m0 46)) (gI σ m0 36) (gI σ m0 58) (gI σ m0 59) ∧ gI σ x0 1 = tx ∧ gI σ m0 12 = tm
section LJS
variable {y : Nat → ClassId} {E E1 : th_E} {σ σ1 : th_M} {x0 m0 ou : Nat} {tx tm t2 : Int} {S L : List Nat}
theorem R13_98 {k : Nat} (h : k ∈ R13) : k ≠ 98 := fun e => by rw [e] at h; exact absurd h (by decide)
theorem LJ.cls (h : LJ y E σ x0 m0 ou tx tm) (hX : ext E E1) (hO : ok y E1 σ1) (hF : fx S E σ σ1 ou) (hS : 13 ∉ S) (hf : ∃ f : Nat → Int64, σ1 ou = some (.inl (y 1, 1, .inr (.inl f)))) (ht : gI σ1 x0 1 = t2) : LJ y E1 σ1 x0 m0 ou t2 tm := by
  obtain ⟨hO0, hx, hm, ho, hf0, hj, h1, h2⟩ := h
  have had : ∀ k, ad E1 m0 k = ad E m0 k := hX.ad2 hm (by decide)
  have hrow : ∀ k, k ∈ R13 → aF σ1 (ad E1 m0 k) = aF σ (ad E m0 k) := fun k hk => by
    have h9 := (hO0.owr hm hk).1
    rw [had k]
    have e : σ1 (ad E m0 k) = σ (ad E m0 k) := by
      refine hF _ (fun e9 => ?_) (by rw [h9]; show kd E m0 ≠ 0; rw [hm]; decide) (by rw [h9]; show kd E m0 ∉ S; rw [hm]; exact hS)
      rw [e9, ho] at h9
      exact R13_98 hk (show (98 : Nat) = k from congrArg Prod.snd h9).symm
    simp only [aF, e]
  have hg : ∀ k, gI σ1 m0 k = gI σ m0 k := fun k => by
    have h9 := hO0.ow0 hm (by decide)
    have e : σ1 m0 = σ m0 := hF _ (hO0.neou hm (by decide) ho) (by rw [h9]; show kd E m0 ≠ 0; rw [hm]; decide) (by rw [h9]; show kd E m0 ∉ S; rw [hm]; exact hS)
    simp only [gI, e]
  refine ⟨hO, hX.kd2 hx (by decide), hX.kd2 hm (by decide), ou_ext hX ho hm, hf, ?_, ht, (hg 12).trans h2⟩
  rw [hrow 1 (by decide), hrow 37 (by decide), hrow 61 (by decide), hrow 62 (by decide), hrow 39 (by decide), hrow 40 (by decide), hrow 42 (by decide), hrow 43 (by decide), hrow 44 (by decide), hrow 45 (by decide), hrow 46 (by decide), hg 36, hg 58, hg 59]
  exact hj
theorem LJ.clr (h : LJ y E σ x0 m0 ou tx tm) (hX : ext E E1) (hO : ok y E1 σ1) (hF : fr S E σ σ1) (hS : 13 ∉ S) (ht : gI σ1 x0 1 = t2) : LJ y E1 σ1 x0 m0 ou t2 tm := by
  obtain ⟨f, hf⟩ := h.2.2.2.2.1
  have hk := ow_k h.2.2.2.1 h.2.2.1
  exact h.cls hX hO (fun x _ h0 hs => hF x h0 hs) hS ⟨f, (hF ou (by rw [hk]; decide) (by rw [hk]; exact hS)).trans hf⟩ ht
theorem LJ.ref (h : LJ y E σ x0 m0 ou tx tm) (hO : ok y E σ1) (hF : fr [13] E σ σ1) (hM : fm L E σ σ1 m0) (hj : jw (aF σ1 (ad E m0 1)) (aF σ1 (ad E m0 37)) (aF σ1 (ad E m0 61)) (aF σ1 (ad E m0 62)) (aF σ1 (ad E m0 39)) (aF σ1 (ad E m0 40)) (aF σ1 (ad E m0 42)) (aF σ1 (ad E m0 43)) (aF σ1 (ad E m0 44)) (aF σ1 (ad E m0 45)) (aF σ1 (ad E m0 46)) (gI σ1 m0 36) (gI σ1 m0 58) (gI σ1 m0 59)) (ht : gI σ1 m0 12 = t2) : LJ y E σ1 x0 m0 ou tx t2 := by
  obtain ⟨hO0, hx, hm, ho, ⟨f, hf⟩, -, h1, -⟩ := h
  exact ⟨hO, hx, hm, ho, ⟨f, (hM.2.2 ou ho).trans hf⟩, hj, (fr.ki hO0 hF hx (by decide) (by decide) 1).trans h1, ht⟩
theorem LJ.tapx (h : LJ y E σ x0 m0 ou tx tm) : gI σ x0 1 = tx := h.2.2.2.2.2.2.1
theorem LJ.tapm (h : LJ y E σ x0 m0 ou tx tm) : gI σ m0 12 = tm := h.2.2.2.2.2.2.2
theorem LJ.jw (h : LJ y E σ x0 m0 ou tx tm) : jw (aF σ (ad E m0 1)) (aF σ (ad E m0 37)) (aF σ (ad E m0 61)) (aF σ (ad E m0 62)) (aF σ (ad E m0 39)) (aF σ (ad E m0 40)) (aF σ (ad E m0 42)) (aF σ (ad E m0 43)) (aF σ (ad E m0 44)) (aF σ (ad E m0 45)) (aF σ (ad E m0 46)) (gI σ m0 36) (gI σ m0 58) (gI σ m0 59) := h.2.2.2.2.2.1
end LJS
section PXS
variable {s : State} {H H0 : Heap} {locs : List Loc} {G : va_G} {y : Nat → ClassId} {b0 : Nat} {σ : th_M} {As : List Value}
theorem th_PXS (hK : nq_K G y s) (hX : nq_X (th_A b0) s) (hS : va_S (th_A b0) s.heap H locs) (hH : th_H G b0 σ H) : PreS s H (th_PX G y b0 σ As) As := ⟨th_blindX _ _ _ _ _, fun U hU hW => ⟨rfl, by rw [hU]; exact hH, hK.warm hW, hX.on hS hU hW⟩⟩
end PXS
