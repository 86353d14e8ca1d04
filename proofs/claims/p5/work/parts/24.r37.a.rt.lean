/-! HOW A THING ENDS THAT IS READ -/
theorem pgo.up {b t x z b2 t2 x2 z2 : Int} (h : pgo b t x z) (h1 : b2 = b) (h2 : t2 = t) (h3 : x2 ≤ x) (h4 : z2 = z) : pgo b2 t2 x2 z2 := by
  unfold pgo at h ⊢
  omega
theorem rdT_leaf {f g1 g2 g3 g4 g5 : Nat → Int32} {x ky dp a b c w : Int} (d1 : g1 = upd f (4 * x + 2).toNat (I ky)) (d2 : g2 = upd g1 (4 * x + 1).toNat (I a)) (d3 : g3 = upd g2 (4 * x).toNat (I b)) (d4 : g4 = upd g3 (4 * x + 1).toNat (I c)) (d5 : g5 = upd g4 (4 * x + 3).toNat (I w)) (rky : rng ky) (rw : rng w) (h0 : 0 ≤ x) (h2 : dp ≤ 7) (hw : w = x + 1 - x) : rdT f g5 x (x + 1) ky dp :=
  (rdF.zero (f := g4) same.rf).node h2 d5 hw rw h0 (((((same.rf).up1 d1 (by omega)).up1 d2 (by omega)).up1 d3 (by omega)).up1 d4 (by omega)) ((mY_up d4 (by omega) h0).trans ((mY_up d3 (by omega) h0).trans ((mY_up d2 (by omega) h0).trans (mY_at d1 rky))))
theorem rdT_many {f g1 g2 g3 h g5 : Nat → Int32} {x ky dp a b w d k : Int} (h9 : rdF g3 h k d dp) (hk : k = x) (d1 : g1 = upd f (4 * x + 2).toNat (I ky)) (d2 : g2 = upd g1 (4 * x + 1).toNat (I a)) (d3 : g3 = upd g2 (4 * x).toNat (I b)) (d5 : g5 = upd h (4 * x + 3).toNat (I w)) (rky : rng ky) (rw : rng w) (h0 : 0 ≤ x) (h2 : dp ≤ 7) (hw : w = d - x) : rdT f g5 x d ky dp := by
  subst hk
  exact h9.node h2 d5 hw rw h0 ((((same.rf).up1 d1 (by omega)).up1 d2 (by omega)).up1 d3 (by omega)) ((mY_up d3 (by omega) h0).trans ((mY_up d2 (by omega) h0).trans (mY_at d1 rky)))
