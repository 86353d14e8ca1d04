abbrev lis (f : Nat → Int32) (b : Int) (n : Nat) : List Int := ls f b n
section EB
variable {f1 g o : Nat → Int32} {b p m d i z a e : Int} {N : Nat} {x : Nat}
theorem emv.room (h1 : emv f1 g (ls o b p.toNat) m d) (h2 : prm f1 o b N i) (hw : wf f1 a e) (ha : a ≤ i) (hd : i < e) (hb : 0 ≤ b) (hp : 0 ≤ p) (hm : p.toNat < N) (hx : (x : Int) = b + p) (hz : (o x).toInt = z) : d + 61 * mS f1 z ≤ m + 1 + 61 * (mS f1 i - 1) := by
  have h3 := h2.pre hw ha hd hb hm (x := x) (by omega) hz
  have h4 := h1.2.2.1
  omega
theorem emv.full (h1 : emv f1 g (ls o b p.toNat) m d) (h2 : prm f1 o b N i) (hN : p.toNat = N) : d ≤ m + 1 + 61 * (mS f1 i - 1) := by
  rw [hN] at h1
  have h4 := h1.2.2.1
  rw [h2.sum] at h4
  exact h4
end EB
theorem emv.cur {f1 g : Nat → Int32} {O : List Int} {m d c : Int} (h : emv f1 g O m d) (e : d = c) : emv f1 g O m c := e ▸ h
