/-! PATHS AS THEY ARE READ -/
/-- the token now is the sign i -/
def mkd (b t x i : Int) : Prop := b = 0 ∧ t = 3 ∧ x = i
/-- 1 while one may go on -/
def fg (b t : Int) : Int := if b = 0 ∧ ¬ t = 0 then 1 else 0
def fb (b : Int) : Int := if b = 0 then 1 else 0
theorem pgo.is {b t x z b' t' x' z' : Int} (h : pgo b t x z) (hb : b' = b) (ht : t' = t) (hx : x' ≤ x) (hz : z ≤ z') : pgo b' t' x' z' := by
  unfold pgo at h ⊢
  omega
