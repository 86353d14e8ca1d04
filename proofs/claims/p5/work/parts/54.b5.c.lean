theorem e_refuse (l : Launch) (G : va_G) (y : Nat → ClassId) (b0 : Nat) (σ : th_M) (E : th_E) (hO : ok y E σ) (a : Nat) (h_a : kd E a = 5) (i : Int) (ri : rng i) : Met l yX6_refuse wsX6_refuse ({ frames := 0, cells := 0, slots := 0, locals := 0 }) (th_P G y b0 σ [.ref a, .int (I i)]) (th_Qv G b0 (fun σ1 => ok y E σ1 ∧ fr [5] E σ σ1 ∧ (True))) 0 0 (th_A b0) := by
  sorry
theorem e_refusedOf (l : Launch) (G : va_G) (y : Nat → ClassId) (b0 : Nat) (σ : th_M) (E : th_E) (hO : ok y E σ) (a : Nat) (h_a : kd E a = 5) (i : Int) (ri : rng i) : Met l yX6_refusedOf wsX6_refusedOf ({ frames := 0, cells := 0, slots := 0, locals := 0 }) (th_P G y b0 σ [.ref a, .int (I i)]) (th_Qi G b0 (fun r σ1 => σ1 = σ ∧ (True))) 0 0 (th_A b0) := by
  sorry
theorem e_lose (l : Launch) (G : va_G) (y : Nat → ClassId) (b0 : Nat) (σ : th_M) (E : th_E) (hO : ok y E σ) (a : Nat) (h_a : kd E a = 5) : Met l yX6_loseOldest wsX6_loseOldest ({ frames := 0, cells := 0, slots := 0, locals := 0 }) (th_P G y b0 σ [.ref a]) (th_Qv G b0 (fun σ1 => ok y E σ1 ∧ fr [5] E σ σ1 ∧ (True))) 0 0 (th_A b0) := by
  sorry
theorem e_stepBack (l : Launch) (G : va_G) (y : Nat → ClassId) (b0 : Nat) (σ : th_M) (E : th_E) (hO : ok y E σ) (a : Nat) (h_a : kd E a = 5) : Met l yX6_stepBack wsX6_stepBack ({ frames := 2, cells := 0, slots := 0, locals := 86 }) (th_P G y b0 σ [.ref a]) (th_Qi G b0 (fun r σ1 => ok y E σ1 ∧ fr [5, 1] E σ σ1 ∧ (True))) 0 0 (th_A b0) := by
  sorry
theorem e_notes (l : Launch) (G : va_G) (y : Nat → ClassId) (b0 : Nat) (σ : th_M) (E : th_E) (hO : ok y E σ) (a : Nat) (h_a : kd E a = 5) (i : Int) (ri : rng i) (w : Int) (rw : rng w) (l_w : 0 ≤ w) (u_w : w ≤ 1) : Met l yX6_notes wsX6_notes ({ frames := 0, cells := 0, slots := 0, locals := 0 }) (th_P G y b0 σ [.ref a, .int (I i), .int (I w)]) (th_Qi G b0 (fun r σ1 => ok y E σ1 ∧ fr [5] E σ σ1 ∧ (0 ≤ r ∧ r ≤ 1) ∧ (True))) 0 0 (th_A b0) := by
  sorry
theorem e_notedFits (l : Launch) (G : va_G) (y : Nat → ClassId) (b0 : Nat) (σ : th_M) (E : th_E) (hO : ok y E σ) (a : Nat) (h_a : kd E a = 5) (w : Int64) : Met l yX6_notedFits wsX6_notedFits ({ frames := 2, cells := 0, slots := 0, locals := 50 }) (th_P G y b0 σ [.ref a, .long w]) (th_Qi G b0 (fun r σ1 => σ1 = σ ∧ (0 ≤ r ∧ r ≤ 1) ∧ (True))) 0 0 (th_A b0) := by
  sorry
theorem h_addRow (l : Launch) (G : va_G) (y : Nat → ClassId) (b0 : Nat) (σ : th_M) (E : th_E) (hO : ok y E σ) (a : Nat) (h_a : kd E a = 7) (w1 : Int) (rw1 : rng w1) (l_w1 : -1 ≤ w1) (u_w1 : w1 ≤ 59) (w2 : Int) (rw2 : rng w2) (l_w2 : -1 ≤ w2) (u_w2 : w2 ≤ 59) : Met l yX3_addRow wsX3_addRow ({ frames := 0, cells := 0, slots := 0, locals := 0 }) (th_P G y b0 σ [.ref a, .int (I w1), .int (I w2)]) (th_Qv G b0 (fun σ1 => ok y E σ1 ∧ fr [7] E σ σ1 ∧ (True))) 0 0 (th_A b0) := by
  sorry
theorem h_rowsOfMaps (n : Nat) (ih : ∀ (l : Launch) (G : va_G) (y : Nat → ClassId) (b0 : Nat) (σ : th_M) (E : th_E) (hO : ok y E σ) (a : Nat) (h_a : kd E a = 7) (w1 : Int) (rw1 : rng w1) (l_w1 : -1 ≤ w1) (u_w1 : w1 ≤ 59) (w2 : Int) (rw2 : rng w2) (l_w2 : -1 ≤ w2) (u_w2 : w2 ≤ 59) (lv : Int) (rlv : rng lv) (l_lv : 0 ≤ lv) (u_lv : lv ≤ 17) (hn : (17 - lv).toNat < n), Met l yX3_rowsOf wsX3_rowsOf ({ frames := 4*n+70, cells := 0, slots := 0, locals := (120*n+2000) }) (th_P G y b0 σ [.ref a, .int (I w1), .int (I w2), .int (I lv)]) (th_Qv G b0 (fun σ1 => ok y E σ1 ∧ fr [7] E σ σ1 ∧ (True))) 0 0 (th_A b0)) (l : Launch) (G : va_G) (y : Nat → ClassId) (b0 : Nat) (σ : th_M) (E : th_E) (hO : ok y E σ) (a : Nat) (h_a : kd E a = 7) (w1 : Int) (rw1 : rng w1) (l_w1 : -1 ≤ w1) (u_w1 : w1 ≤ 59) (w2 : Int) (rw2 : rng w2) (l_w2 : -1 ≤ w2) (u_w2 : w2 ≤ 59) (lv : Int) (rlv : rng lv) (l_lv : 0 ≤ lv) (u_lv : lv ≤ 16) (hy0 : (17 - lv).toNat < n + 1) : Met l yX3_rowsOfMaps wsX3_rowsOfMaps ({ frames := 4*n+72, cells := 0, slots := 0, locals := (120*n+2050) }) (th_P G y b0 σ [.ref a, .int (I w1), .int (I w2), .int (I lv)]) (th_Qv G b0 (fun σ1 => ok y E σ1 ∧ fr [7] E σ σ1 ∧ (True))) 0 0 (th_A b0) := by
  sorry
theorem h_rowsOfLists (n : Nat) (ih : ∀ (l : Launch) (G : va_G) (y : Nat → ClassId) (b0 : Nat) (σ : th_M) (E : th_E) (hO : ok y E σ) (a : Nat) (h_a : kd E a = 7) (w1 : Int) (rw1 : rng w1) (l_w1 : -1 ≤ w1) (u_w1 : w1 ≤ 59) (w2 : Int) (rw2 : rng w2) (l_w2 : -1 ≤ w2) (u_w2 : w2 ≤ 59) (lv : Int) (rlv : rng lv) (l_lv : 0 ≤ lv) (u_lv : lv ≤ 17) (hn : (17 - lv).toNat < n), Met l yX3_rowsOf wsX3_rowsOf ({ frames := 4*n+70, cells := 0, slots := 0, locals := (120*n+2000) }) (th_P G y b0 σ [.ref a, .int (I w1), .int (I w2), .int (I lv)]) (th_Qv G b0 (fun σ1 => ok y E σ1 ∧ fr [7] E σ σ1 ∧ (True))) 0 0 (th_A b0)) (l : Launch) (G : va_G) (y : Nat → ClassId) (b0 : Nat) (σ : th_M) (E : th_E) (hO : ok y E σ) (a : Nat) (h_a : kd E a = 7) (w1 : Int) (rw1 : rng w1) (l_w1 : -1 ≤ w1) (u_w1 : w1 ≤ 59) (w2 : Int) (rw2 : rng w2) (l_w2 : -1 ≤ w2) (u_w2 : w2 ≤ 59) (lv : Int) (rlv : rng lv) (l_lv : 0 ≤ lv) (u_lv : lv ≤ 16) (hy0 : (17 - lv).toNat < n + 1) : Met l yX3_rowsOfLists wsX3_rowsOfLists ({ frames := 4*n+72, cells := 0, slots := 0, locals := (120*n+2050) }) (th_P G y b0 σ [.ref a, .int (I w1), .int (I w2), .int (I lv)]) (th_Qv G b0 (fun σ1 => ok y E σ1 ∧ fr [7] E σ σ1 ∧ (True))) 0 0 (th_A b0) := by
  sorry
theorem h_rowsOf (n : Nat) : ∀ (l : Launch) (G : va_G) (y : Nat → ClassId) (b0 : Nat) (σ : th_M) (E : th_E) (hO : ok y E σ) (a : Nat) (h_a : kd E a = 7) (w1 : Int) (rw1 : rng w1) (l_w1 : -1 ≤ w1) (u_w1 : w1 ≤ 59) (w2 : Int) (rw2 : rng w2) (l_w2 : -1 ≤ w2) (u_w2 : w2 ≤ 59) (lv : Int) (rlv : rng lv) (l_lv : 0 ≤ lv) (u_lv : lv ≤ 17) (hn : (17 - lv).toNat < n), Met l yX3_rowsOf wsX3_rowsOf ({ frames := 4*n+70, cells := 0, slots := 0, locals := (120*n+2000) }) (th_P G y b0 σ [.ref a, .int (I w1), .int (I w2), .int (I lv)]) (th_Qv G b0 (fun σ1 => ok y E σ1 ∧ fr [7] E σ σ1 ∧ (True))) 0 0 (th_A b0) := by
  sorry
theorem h_compare (l : Launch) (G : va_G) (y : Nat → ClassId) (b0 : Nat) (σ : th_M) (E : th_E) (hO : ok y E σ) (a : Nat) (h_a : kd E a = 7) (b : Nat) (h_b : kd E b = 1) (c9 : Nat) (h_c9 : kd E c9 = 1) : Met l yX3_compare wsX3_compare ({ frames := 143, cells := 0, slots := 0, locals := 4188 }) (th_P G y b0 σ [.ref a, .ref b, .ref c9]) (th_Qi G b0 (fun r σ1 => ok y E σ1 ∧ fr [7, 1] E σ σ1 ∧ (True))) 0 0 (th_A b0) := by
  sorry
theorem h_wasOf (l : Launch) (G : va_G) (y : Nat → ClassId) (b0 : Nat) (σ : th_M) (E : th_E) (hO : ok y E σ) (a : Nat) (h_a : kd E a = 7) (i : Int) (ri : rng i) : Met l yX3_wasOf wsX3_wasOf ({ frames := 0, cells := 0, slots := 0, locals := 0 }) (th_P G y b0 σ [.ref a, .int (I i)]) (th_Qi G b0 (fun r σ1 => σ1 = σ ∧ (-1 ≤ r ∧ r ≤ 59))) 0 0 (th_A b0) := by
  sorry
theorem h_isOf (l : Launch) (G : va_G) (y : Nat → ClassId) (b0 : Nat) (σ : th_M) (E : th_E) (hO : ok y E σ) (a : Nat) (h_a : kd E a = 7) (i : Int) (ri : rng i) : Met l yX3_isOf wsX3_isOf ({ frames := 0, cells := 0, slots := 0, locals := 0 }) (th_P G y b0 σ [.ref a, .int (I i)]) (th_Qi G b0 (fun r σ1 => σ1 = σ ∧ (-1 ≤ r ∧ r ≤ 59))) 0 0 (th_A b0) := by
  sorry
theorem h_kindOf (l : Launch) (G : va_G) (y : Nat → ClassId) (b0 : Nat) (σ : th_M) (E : th_E) (hO : ok y E σ) (a : Nat) (h_a : kd E a = 7) (i : Int) (ri : rng i) : Met l yX3_kindOf wsX3_kindOf ({ frames := 1, cells := 0, slots := 0, locals := 25 }) (th_P G y b0 σ [.ref a, .int (I i)]) (th_Qi G b0 (fun r σ1 => σ1 = σ ∧ (True))) 0 0 (th_A b0) := by
  sorry
theorem h_stepsOf (l : Launch) (G : va_G) (y : Nat → ClassId) (b0 : Nat) (σ : th_M) (E : th_E) (hO : ok y E σ) (a : Nat) (h_a : kd E a = 7) (i : Int) (ri : rng i) : Met l yX3_stepsOf wsX3_stepsOf ({ frames := 1, cells := 0, slots := 0, locals := 25 }) (th_P G y b0 σ [.ref a, .int (I i)]) (th_Qi G b0 (fun r σ1 => σ1 = σ ∧ (True))) 0 0 (th_A b0) := by
  sorry
theorem h_before (l : Launch) (G : va_G) (y : Nat → ClassId) (b0 : Nat) (σ : th_M) (E : th_E) (hO : ok y E σ) (a : Nat) (h_a : kd E a = 7) (i : Int) (ri : rng i) : Met l yX3_thingsBefore wsX3_thingsBefore ({ frames := 2, cells := 0, slots := 0, locals := 48 }) (th_P G y b0 σ [.ref a, .int (I i)]) (th_Qi G b0 (fun r σ1 => σ1 = σ ∧ (True))) 0 0 (th_A b0) := by
  sorry
theorem h_after (l : Launch) (G : va_G) (y : Nat → ClassId) (b0 : Nat) (σ : th_M) (E : th_E) (hO : ok y E σ) (a : Nat) (h_a : kd E a = 7) (i : Int) (ri : rng i) : Met l yX3_thingsAfter wsX3_thingsAfter ({ frames := 2, cells := 0, slots := 0, locals := 48 }) (th_P G y b0 σ [.ref a, .int (I i)]) (th_Qi G b0 (fun r σ1 => σ1 = σ ∧ (True))) 0 0 (th_A b0) := by
  sorry
theorem h_tellRow (l : Launch) (G : va_G) (y : Nat → ClassId) (b0 : Nat) (σ : th_M) (E : th_E) (hO : ok y E σ) (a : Nat) (h_a : kd E a = 7) (i : Int) (ri : rng i) (b : Nat) (h_b : kd E b = 8) : Met l yX3_tellRow wsX3_tellRow ({ frames := 81, cells := 0, slots := 0, locals := 2428 }) (th_P G y b0 σ [.ref a, .int (I i), .ref b]) (th_Qv G b0 (fun σ1 => ok y E σ1 ∧ fr [8] E σ σ1 ∧ (True))) 0 0 (th_A b0) := by
  sorry
theorem h_ledTo (l : Launch) (G : va_G) (y : Nat → ClassId) (b0 : Nat) (σ : th_M) (E : th_E) (hO : ok y E σ) (a : Nat) (h_a : kd E a = 2) (b : Nat) (h_b : kd E b = 1) (i : Int) (ri : rng i) (dp : Int) (rdp : rng dp) : Met l yX3_ledTo wsX3_ledTo ({ frames := 1, cells := 0, slots := 0, locals := 29 }) (th_P G y b0 σ [.ref a, .ref b, .int (I i), .int (I dp)]) (th_Qi G b0 (fun r σ1 => σ1 = σ ∧ (-1 ≤ r ∧ r ≤ 128))) 0 0 (th_A b0) := by
  sorry
theorem h_layGoing (l : Launch) (G : va_G) (y : Nat → ClassId) (b0 : Nat) (σ : th_M) (E : th_E) (hO : ok y E σ) (a : Nat) (h_a : kd E a = 2) (i : Int) (ri : rng i) (l_i : -1 ≤ i) (u_i : i ≤ 128) : Met l yX3_layGoing wsX3_layGoing ({ frames := 3, cells := 0, slots := 0, locals := 114 }) (th_P G y b0 σ [.ref a, .int (I i)]) (th_Qi G b0 (fun r σ1 => ok y E σ1 ∧ fr [2] E σ σ1 ∧ (0 ≤ r ∧ r ≤ 1) ∧ (True))) 0 0 (th_A b0) := by
  sorry
theorem h_layComing (l : Launch) (G : va_G) (y : Nat → ClassId) (b0 : Nat) (σ : th_M) (E : th_E) (hO : ok y E σ) (a : Nat) (h_a : kd E a = 2) (b : Nat) (h_b : kd E b = 1) (i : Int) (ri : rng i) (l_i : -1 ≤ i) (u_i : i ≤ 59) : Met l yX3_layComing wsX3_layComing ({ frames := 3, cells := 0, slots := 0, locals := 120 }) (th_P G y b0 σ [.ref a, .ref b, .int (I i)]) (th_Qi G b0 (fun r σ1 => ok y E σ1 ∧ fr [2] E σ σ1 ∧ (0 ≤ r ∧ r ≤ 1) ∧ (True))) 0 0 (th_A b0) := by
  sorry
theorem h_layRow (l : Launch) (G : va_G) (y : Nat → ClassId) (b0 : Nat) (σ : th_M) (E : th_E) (hO : ok y E σ) (a : Nat) (h_a : kd E a = 2) (b : Nat) (h_b : kd E b = 1) (w1 : Int) (rw1 : rng w1) (l_w1 : -1 ≤ w1) (u_w1 : w1 ≤ 59) (c9 : Nat) (h_c9 : kd E c9 = 1) (w2 : Int) (rw2 : rng w2) (l_w2 : -1 ≤ w2) (u_w2 : w2 ≤ 59) : Met l yX3_layRow wsX3_layRow ({ frames := 61, cells := 0, slots := 0, locals := 1314 }) (th_P G y b0 σ [.ref a, .ref b, .int (I w1), .ref c9, .int (I w2)]) (th_Qi G b0 (fun r σ1 => ok y E σ1 ∧ fr [2] E σ σ1 ∧ (0 ≤ r ∧ r ≤ 1) ∧ (True))) 0 0 (th_A b0) := by
  sorry
theorem h_layOn (l : Launch) (G : va_G) (y : Nat → ClassId) (b0 : Nat) (σ : th_M) (E : th_E) (hO : ok y E σ) (a : Nat) (h_a : kd E a = 7) (b : Nat) (h_b : kd E b = 2) (w : Int) (rw : rng w) (l_w : 0 ≤ w) (u_w : w ≤ 1) : Met l yX3_layOn wsX3_layOn ({ frames := 62, cells := 0, slots := 0, locals := 1343 }) (th_P G y b0 σ [.ref a, .ref b, .int (I w)]) (th_Qi G b0 (fun r σ1 => ok y E σ1 ∧ fr [2] E σ σ1 ∧ (0 ≤ r ∧ r ≤ 1) ∧ (True))) 0 0 (th_A b0) := by
  sorry
theorem c_ofKind (l : Launch) (G : va_G) (y : Nat → ClassId) (b0 : Nat) (σ : th_M) (E : th_E) (hO : ok y E σ) (a : Nat) (h_a : kd E a = 6) (w : Int64) (i : Int) (ri : rng i) : Met l yX0_ofKind wsX0_ofKind ({ frames := 2, cells := 0, slots := 0, locals := 50 }) (th_P G y b0 σ [.ref a, .long w, .int (I i)]) (th_Ql G b0 (fun r σ1 => σ1 = σ ∧ (True))) 0 0 (th_A b0) := by
  sorry
theorem c_tooMany (l : Launch) (G : va_G) (y : Nat → ClassId) (b0 : Nat) (σ : th_M) (E : th_E) (hO : ok y E σ) (w : Int64) (b : Nat) (h_b : kd E b = 1) : Met l yX0_tooManyCopies wsX0_tooManyCopies ({ frames := 1, cells := 0, slots := 0, locals := 25 }) (th_P G y b0 σ [.long w, .ref b]) (th_Qi G b0 (fun r σ1 => σ1 = σ ∧ (0 ≤ r ∧ r ≤ 1) ∧ (True))) 0 0 (th_A b0) := by
  sorry
theorem c_outermost (l : Launch) (G : va_G) (y : Nat → ClassId) (b0 : Nat) (σ : th_M) (E : th_E) (hO : ok y E σ) (a : Nat) (h_a : kd E a = 6) (w : Int64) : Met l yX0_outermost wsX0_outermost ({ frames := 2, cells := 0, slots := 0, locals := 50 }) (th_P G y b0 σ [.ref a, .long w]) (th_Ql G b0 (fun r σ1 => σ1 = σ ∧ (True))) 0 0 (th_A b0) := by
  sorry
theorem c_replacedByKey (l : Launch) (G : va_G) (y : Nat → ClassId) (b0 : Nat) (σ : th_M) (E : th_E) (hO : ok y E σ) (a : Nat) (h_a : kd E a = 6) (w : Int64) (i : Int) (ri : rng i) : Met l yX0_replacedByKey wsX0_replacedByKey ({ frames := 2, cells := 0, slots := 0, locals := 50 }) (th_P G y b0 σ [.ref a, .long w, .int (I i)]) (th_Ql G b0 (fun r σ1 => σ1 = σ ∧ (True))) 0 0 (th_A b0) := by
  sorry
theorem c_setByKey (l : Launch) (G : va_G) (y : Nat → ClassId) (b0 : Nat) (σ : th_M) (E : th_E) (hO : ok y E σ) (a : Nat) (h_a : kd E a = 6) (i : Int) (ri : rng i) (ky : Int) (rky : rng ky) (b : Nat) (h_b : kd E b = 1) : Met l yX0_setByKey wsX0_setByKey ({ frames := 4, cells := 0, slots := 0, locals := 149 }) (th_P G y b0 σ [.ref a, .int (I i), .int (I ky), .ref b]) (th_Qi G b0 (fun r σ1 => ok y E σ1 ∧ fr [2] E σ σ1 ∧ (0 ≤ r ∧ r ≤ 1) ∧ (True))) 0 0 (th_A b0) := by
  sorry
theorem c_isBehind (l : Launch) (G : va_G) (y : Nat → ClassId) (b0 : Nat) (σ : th_M) (E : th_E) (hO : ok y E σ) (a : Nat) (h_a : kd E a = 6) (i : Int) (ri : rng i) (j : Int) (rj : rng j) : Met l yX0_isBehind wsX0_isBehind ({ frames := 1, cells := 0, slots := 0, locals := 25 }) (th_P G y b0 σ [.ref a, .int (I i), .int (I j)]) (th_Qi G b0 (fun r σ1 => σ1 = σ ∧ (0 ≤ r ∧ r ≤ 1) ∧ (True))) 0 0 (th_A b0) := by
  sorry
theorem c_orderOf (l : Launch) (G : va_G) (y : Nat → ClassId) (b0 : Nat) (σ : th_M) (E : th_E) (hO : ok y E σ) (a : Nat) (h_a : kd E a = 6) (i : Int) (ri : rng i) (l_i : -1 ≤ i) (u_i : i ≤ 60) (w : Int) (rw : rng w) (l_w : 0 ≤ w) (u_w : w ≤ 1) : Met l yX0_orderOf wsX0_orderOf ({ frames := 2, cells := 0, slots := 0, locals := 53 }) (th_P G y b0 σ [.ref a, .int (I i), .int (I w)]) (th_Qi G b0 (fun r σ1 => ok y E σ1 ∧ fr [6] E σ σ1 ∧ (0 ≤ r ∧ r ≤ 128))) 0 0 (th_A b0) := by
  sorry
theorem c_rearrange (l : Launch) (G : va_G) (y : Nat → ClassId) (b0 : Nat) (σ : th_M) (E : th_E) (hO : ok y E σ) (a : Nat) (h_a : kd E a = 6) (i : Int) (ri : rng i) (l_i : -1 ≤ i) (u_i : i ≤ 60) (w : Int) (rw : rng w) (l_w : 0 ≤ w) (u_w : w ≤ 1) : Met l yX0_rearrange wsX0_rearrange ({ frames := 3, cells := 0, slots := 0, locals := 120 }) (th_P G y b0 σ [.ref a, .int (I i), .int (I w)]) (th_Qv G b0 (fun σ1 => ok y E σ1 ∧ fr [6, 2] E σ σ1 ∧ (True))) 0 0 (th_A b0) := by
  sorry
theorem c_takes (l : Launch) (G : va_G) (y : Nat → ClassId) (b0 : Nat) (σ : th_M) (E : th_E) (hO : ok y E σ) (a : Nat) (h_a : kd E a = 6) (i : Int) (ri : rng i) (ky : Int) (rky : rng ky) : Met l yX0_takesBehindAll wsX0_takesBehindAll ({ frames := 1, cells := 0, slots := 0, locals := 27 }) (th_P G y b0 σ [.ref a, .int (I i), .int (I ky)]) (th_Qi G b0 (fun r σ1 => σ1 = σ ∧ (0 ≤ r ∧ r ≤ 1) ∧ (True))) 0 0 (th_A b0) := by
  sorry
theorem q_layBytes (l : Launch) (G : va_G) (y : Nat → ClassId) (b0 : Nat) (σ : th_M) (E : th_E) (hO : ok y E σ) (a : Nat) (h_a : kd E a = 12) (i : Int) (ri : rng i) (hy0 : gI σ a 1 + 4 ≤ 400) : Met l yX10_layBytes wsX10_layBytes ({ frames := 0, cells := 0, slots := 0, locals := 0 }) (th_P G y b0 σ [.ref a, .int (I i)]) (th_Qv G b0 (fun σ1 => ok y E σ1 ∧ fr [12] E σ σ1 ∧ (gI σ1 a 2 = gI σ a 2 ∧ gI σ1 a 1 = gI σ a 1 + 4))) 0 0 (th_A b0) := by
  sorry
theorem q_feed (l : Launch) (G : va_G) (y : Nat → ClassId) (b0 : Nat) (σ : th_M) (E : th_E) (hO : ok y E σ) (a : Nat) (h_a : kd E a = 12) (w1 : Int) (rw1 : rng w1) (w2 : Int) (rw2 : rng w2) (w3 : Int) (rw3 : rng w3) (w4 : Int) (rw4 : rng w4) (w5 : Int) (rw5 : rng w5) : Met l yX10_feed wsX10_feed ({ frames := 1, cells := 0, slots := 0, locals := 26 }) (th_P G y b0 σ [.ref a, .int (I w1), .int (I w2), .int (I w3), .int (I w4), .int (I w5)]) (th_Qi G b0 (fun r σ1 => ok y E σ1 ∧ fr [12] E σ σ1 ∧ (gI σ1 a 2 = gI σ a 2 ∧ ((gI σ a 1 + 20 ≤ 400 ∧ gI σ1 a 1 = gI σ a 1 + 20 ∧ r = gI σ a 1 + 20) ∨ (¬ gI σ a 1 + 20 ≤ 400 ∧ gI σ1 a 1 = gI σ a 1 ∧ r = -1))))) 0 0 (th_A b0) := by
  sorry
theorem q_tapeHas (l : Launch) (G : va_G) (y : Nat → ClassId) (b0 : Nat) (σ : th_M) (E : th_E) (hO : ok y E σ) (a : Nat) (h_a : kd E a = 12) (n : Int) (rn : rng n) : Met l yX10_tapeHas wsX10_tapeHas ({ frames := 0, cells := 0, slots := 0, locals := 0 }) (th_P G y b0 σ [.ref a, .int (I n)]) (th_Qi G b0 (fun r σ1 => σ1 = σ ∧ (0 ≤ r ∧ r ≤ 1) ∧ ((r = 1 ∧ 0 ≤ n ∧ n ≤ gI σ a 1) ∨ (r = 0 ∧ ¬ (0 ≤ n ∧ n ≤ gI σ a 1))))) 0 0 (th_A b0) := by
  sorry
theorem q_textWasRead (l : Launch) (G : va_G) (y : Nat → ClassId) (b0 : Nat) (σ : th_M) (E : th_E) (hO : ok y E σ) (a : Nat) (h_a : kd E a = 12) (i : Int) (ri : rng i) : Met l yX10_textWasRead wsX10_textWasRead ({ frames := 1, cells := 0, slots := 0, locals := 25 }) (th_P G y b0 σ [.ref a, .int (I i)]) (th_Qv G b0 (fun σ1 => ok y E σ1 ∧ fr [12, 5] E σ σ1 ∧ (gI σ1 a 1 = 0))) 0 0 (th_A b0) := by
  sorry
theorem q_readData (l : Launch) (G : va_G) (y : Nat → ClassId) (b0 : Nat) (σ : th_M) (E : th_E) (hO : ok y E σ) (a : Nat) (h_a : kd E a = 12) (i : Int) (ri : rng i) : Met l yX10_readData wsX10_readData ({ frames := 46, cells := 0, slots := 0, locals := 1734 }) (th_P G y b0 σ [.ref a, .int (I i)]) (th_Qi G b0 (fun r σ1 => ok y E σ1 ∧ fr [12, 5, 3, 1] E σ σ1 ∧ (gI σ1 a 1 = 0))) 0 0 (th_A b0) := by
  sorry
set_option maxHeartbeats 1000000 in
set_option maxRecDepth 100000 in
theorem q_unread (l : Launch) (G : va_G) (y : Nat → ClassId) (b0 : Nat) (σ : th_M) (E : th_E) (hO : ok y E σ) (a : Nat) (h_a : kd E a = 12) : Met l yX10_refusedUnread wsX10_refusedUnread ({ frames := 1, cells := 0, slots := 0, locals := 25 }) (th_P G y b0 σ [.ref a]) (th_Qi G b0 (fun r σ1 => ok y E σ1 ∧ fr [12, 5] E σ σ1 ∧ ((gI σ1 a 2 = gI σ a 2 ∧ gI σ1 a 1 = 0) ∧ aF σ1 (ad E a 0) = aF σ (ad E a 0) ∧ aQ σ1 (ad E a 3) = aQ σ (ad E a 3)))) 0 0 (th_A b0) := by
  refine Met.ofW (cc := cX10_refusedUnread) (maxL := 1) (ret := (some .int)) (by decide) rfl ?_
  intro p e s m args below meth c s₁ B hml hv
  obtain ⟨rfl, hH, hK⟩ := hv
  have hx := B.exec
  have hb := B.bytes
  have hr := B.returns
  have hts := atoms_spec (ws := wsX10_refusedUnread) B.pre
  have hown : s.vm.findClass RX10 = some m.cls := findClass_of_methodNamed B.named
  have hlocks := B.notSynchronized
  have h00 : b0 ≤ s.heap.size := hH.1
  have hS : va_S (th_A b0) s.heap s.heap [] := va_S.rf
  have hF : fr [12, 5] E σ σ := fr.rf
  have inX10 : ∀ w ∈ wsX100, w ∈ wsX10_refusedUnread := by decide +kernel
  have fl0 := hts (.fieldLink RX10 114 "NestQuery" "tapeCount" "I") (by decide +kernel)
  have fl1 := hts (.fieldLink RX10 63 "NestQuery" "now" "LNestQuery$State;") (by decide +kernel)
  have hl := lv_entry ([.ref a]) (n := 1) (Nat.le_of_ble_eq_true rfl)
  rw [lg_entry_eq]
  generalize (lg_sl ([.ref a]) ++ List.replicate (1 - (lg_sl ([.ref a])).length) Slot.unset).toArray = ls at hl ⊢
  have hl : lv_has ls 1 [(0, .ref a)] := hl
  obtain ⟨a20, ea20, ra20, la20, ua20⟩ := hO.gi h_a (by decide) k12_2
  obtain ⟨f_1, ef_2⟩ : ∃ f9, aF σ (ad E a 0) = f9 := ⟨_, rfl⟩
  have h0row := ef_2
  obtain ⟨f_3, eq_4⟩ : ∃ f9, aQ σ (ad E a 3) = f9 := ⟨_, rfl⟩
  have h0q := eq_4
  refine lv_aload_n hx hb dX10_refusedUnread_0 rfl (lv_at hl 0 rfl) ?_
  refine lv_iconst (v := I 0) hx hb dX10_refusedUnread_1 (by decide) ?_
  refine ok.putIw hO h_a (by decide) k12_1 (show rng 0 from ⟨by decide, by decide⟩) (by omega) (by omega) (fun _ he hl9 kk => th_put (ci := 10) (v := .int (I 0)) (ty := .int) (C := RX10) (T := TX10) (N := 18) hx hb hts inX10 tyX10 tyX10_ok nmX10 hown hK hH hS h00 he rfl 1 (by decide) fl0 rfl (by decide +kernel) rfl rfl hl9 dX10_refusedUnread_2 kk) (fun σ_s_5 H locs hO hF9 hg9 hi9 ha9 hu9 hH hS => ?_)
  replace hF := hF.tu hF9 (by decide)
  have e_6 : gI σ_s_5 a 2 = a20 := (hi9 _ _ (Or.inr (by decide))).trans ea20
  have ef_7 : aF σ_s_5 (ad E a 0) = f_1 := (ha9 _).trans ef_2
  have eq_8 : aQ σ_s_5 (ad E a 3) = f_3 := (hu9.q (ok.qo hO h_a (by decide) k12_3 (by decide))).trans eq_4
  have e_9 := hg9
  refine lv_aload_n hx hb dX10_refusedUnread_5 rfl (lv_at hl 0 rfl) ?_
  have hp_10 : kd E (ad E a 9) = 5 := ok.pk hO h_a (by decide) k12_9 rfl
  refine ok.getR hO h_a (by decide) k12_9 (by decide) (fun _ _ he hv kk => th_get (ci := 10) (C := RX10) (T := TX10) (N := 18) hx hb hts inX10 hown hK hH he rfl 9 (by decide) fl1 hv dX10_refusedUnread_6 kk) ?_
  refine lv_iconst (v := I 1) hx hb dX10_refusedUnread_9 (by decide) ?_
  obtain ⟨_, hc_11⟩ := hO.cell hp_10 (by decide) (ci := 6) rfl
  refine th_callv (va_runV (As := [.int (I 1)]) (rest := []) ⟨hx, hb, hml, hown, hts⟩ (e_refuse l G y b0 σ_s_5 E hO (ad E a 9) hp_10 1 (show rng 1 from (show rng 1 from ⟨by decide, by decide⟩))) (cwV 1 hts gX10_refusedUnread_X6_refuse rfl rfl rfl (by decide +kernel) ⟨Nat.le_of_ble_eq_true rfl, Nat.le_of_ble_eq_true rfl⟩) (th_PV hK hH rfl hc_11) rfl rfl hl.1 rfl (lv_room (Nat.le_of_ble_eq_true rfl)) dX10_refusedUnread_10 ⟨Nat.le_of_ble_eq_true rfl, Nat.le_of_ble_eq_true rfl⟩) hS (fun σ_s_13 H locs hw_12 hH hS => ?_)
  obtain ⟨hO9, hF9, hw_12⟩ := hw_12
  have e_14 : gI σ_s_13 a 2 = a20 := (fr.ki hO hF9 h_a (by decide) (by decide) _).trans e_6
  have e_15 : gI σ_s_13 a 1 = 0 := (fr.ki hO hF9 h_a (by decide) (by decide) _).trans e_9
  have ef_16 : aF σ_s_13 (ad E a 0) = f_1 := (fr.af hO hF9 h_a (by decide) (by decide) k12_0 isA1).trans ef_7
  have eq_17 : aQ σ_s_13 (ad E a 3) = f_3 := (fr.aq hO hF9 h_a (by decide) (by decide) k12_3).trans eq_8
  replace hO := hO9
  replace hF := hF.tu hF9 (by decide)
  refine lv_iconst (v := I (-1)) hx hb dX10_refusedUnread_13 (by decide) ?_
  exact th_iret hx hb hr hlocks hH hS (z := (-1)) (show rng (-1) from ⟨by decide, by decide⟩) ⟨hO, hF, ⟨by omega, (ef_16.trans h0row.symm), (eq_17.trans h0q.symm)⟩⟩ dX10_refusedUnread_14

theorem q_actDone (l : Launch) (G : va_G) (y : Nat → ClassId) (b0 : Nat) (σ : th_M) (E : th_E) (hO : ok y E σ) (a : Nat) (h_a : kd E a = 12) (i : Int) (ri : rng i) : Met l yX10_actDone wsX10_actDone ({ frames := 1, cells := 0, slots := 0, locals := 25 }) (th_P G y b0 σ [.ref a, .int (I i)]) (th_Qi G b0 (fun r σ1 => ok y E σ1 ∧ fr [5] E σ σ1 ∧ (True))) 0 0 (th_A b0) := by
  sorry
theorem q_fault (l : Launch) (G : va_G) (y : Nat → ClassId) (b0 : Nat) (σ : th_M) (E : th_E) (hO : ok y E σ) (a : Nat) (h_a : kd E a = 12) : Met l yX10_fault wsX10_fault ({ frames := 0, cells := 0, slots := 0, locals := 0 }) (th_P G y b0 σ [.ref a]) (th_Qi G b0 (fun r σ1 => σ1 = σ ∧ (r = gI σ a 2))) 0 0 (th_A b0) := by
  sorry
theorem q_forget (l : Launch) (G : va_G) (y : Nat → ClassId) (b0 : Nat) (σ : th_M) (E : th_E) (hO : ok y E σ) (a : Nat) (h_a : kd E a = 12) : Met l yX10_forget wsX10_forget ({ frames := 0, cells := 0, slots := 0, locals := 0 }) (th_P G y b0 σ [.ref a]) (th_Qv G b0 (fun σ1 => ok y E σ1 ∧ fr [5] E σ σ1 ∧ (True))) 0 0 (th_A b0) := by
  sorry
theorem q_keep (l : Launch) (G : va_G) (y : Nat → ClassId) (b0 : Nat) (σ : th_M) (E : th_E) (hO : ok y E σ) (a : Nat) (h_a : kd E a = 12) : Met l yX10_keep wsX10_keep ({ frames := 144, cells := 0, slots := 0, locals := 4214 }) (th_P G y b0 σ [.ref a]) (th_Qi G b0 (fun r σ1 => ok y E σ1 ∧ fr [7, 1] E σ σ1 ∧ (True))) 0 0 (th_A b0) := by
  sorry
theorem q_undo (l : Launch) (G : va_G) (y : Nat → ClassId) (b0 : Nat) (σ : th_M) (E : th_E) (hO : ok y E σ) (a : Nat) (h_a : kd E a = 12) : Met l yX10_undo wsX10_undo ({ frames := 3, cells := 0, slots := 0, locals := 111 }) (th_P G y b0 σ [.ref a]) (th_Qi G b0 (fun r σ1 => ok y E σ1 ∧ fr [5, 1] E σ σ1 ∧ (True))) 0 0 (th_A b0) := by
  sorry
theorem q_note (l : Launch) (G : va_G) (y : Nat → ClassId) (b0 : Nat) (σ : th_M) (E : th_E) (hO : ok y E σ) (a : Nat) (h_a : kd E a = 12) (i : Int) (ri : rng i) (w : Int) (rw : rng w) (l_w : 0 ≤ w) (u_w : w ≤ 1) : Met l yX10_note wsX10_note ({ frames := 1, cells := 0, slots := 0, locals := 26 }) (th_P G y b0 σ [.ref a, .int (I i), .int (I w)]) (th_Qi G b0 (fun r σ1 => ok y E σ1 ∧ fr [5] E σ σ1 ∧ (True))) 0 0 (th_A b0) := by
  sorry
theorem q_pathAt (l : Launch) (G : va_G) (y : Nat → ClassId) (b0 : Nat) (σ : th_M) (E : th_E) (hO : ok y E σ) (a : Nat) (h_a : kd E a = 12) (i : Int) (ri : rng i) : Met l yX10_pathAt wsX10_pathAt ({ frames := 0, cells := 0, slots := 0, locals := 0 }) (th_P G y b0 σ [.ref a, .int (I i)]) (th_Qq G b0 (fun r σ1 => σ1 = σ ∧ (∀ b, r = some b → kd E b = 4) ∧ (True))) 0 0 (th_A b0) := by
  sorry
theorem q_pathsThere (l : Launch) (G : va_G) (y : Nat → ClassId) (b0 : Nat) (σ : th_M) (E : th_E) (hO : ok y E σ) (a : Nat) (h_a : kd E a = 12) : Met l yX10_pathsThere wsX10_pathsThere ({ frames := 0, cells := 0, slots := 0, locals := 0 }) (th_P G y b0 σ [.ref a]) (th_Qi G b0 (fun r σ1 => σ1 = σ ∧ (True))) 0 0 (th_A b0) := by
  sorry
set_option maxHeartbeats 1000000 in
set_option maxRecDepth 100000 in
theorem q_findAnswers (l : Launch) (G : va_G) (y : Nat → ClassId) (b0 : Nat) (σ : th_M) (E : th_E) (hO : ok y E σ) (a : Nat) (h_a : kd E a = 12) : Met l yX10_findAnswers wsX10_findAnswers ({ frames := 5, cells := 0, slots := 0, locals := 159 }) (th_P G y b0 σ [.ref a]) (th_Qv G b0 (fun σ1 => ok y E σ1 ∧ fr [12] E σ σ1 ∧ ((gI σ1 a 2 = gI σ a 2 ∧ gI σ1 a 1 = gI σ a 1) ∧ aF σ1 (ad E a 0) = aF σ (ad E a 0) ∧ aQ σ1 (ad E a 3) = aQ σ (ad E a 3)))) 0 0 (th_A b0) := by
  refine Met.ofW (cc := cX10_findAnswers) (maxL := 3) (ret := none) (by decide) rfl ?_
  intro p e s m args below meth c s₁ B hml hv
  obtain ⟨rfl, hH, hK⟩ := hv
  have hx := B.exec
  have hb := B.bytes
  have hr := B.returns
  have hts := atoms_spec (ws := wsX10_findAnswers) B.pre
  have hown : s.vm.findClass RX10 = some m.cls := findClass_of_methodNamed B.named
  have hlocks := B.notSynchronized
  have h00 : b0 ≤ s.heap.size := hH.1
  have hS : va_S (th_A b0) s.heap s.heap [] := va_S.rf
  have hF : fr [12] E σ σ := fr.rf
  have inX10 : ∀ w ∈ wsX100, w ∈ wsX10_findAnswers := by decide +kernel
  have inX6 : ∀ w ∈ wsX60, w ∈ wsX10_findAnswers := by decide +kernel
  have fl0 := hts (.fieldLink RX10 19 "NestQuery" "paths" "[LNestQuery$Path;") (by decide +kernel)
  have fl1 := hts (.fieldLink RX10 96 "NestQuery" "answers" "[J") (by decide +kernel)
  have fl2 := hts (.fieldLink RX10 63 "NestQuery" "now" "LNestQuery$State;") (by decide +kernel)
  have hl := lv_entry ([.ref a]) (n := 3) (Nat.le_of_ble_eq_true rfl)
  rw [lg_entry_eq]
  generalize (lg_sl ([.ref a]) ++ List.replicate (3 - (lg_sl ([.ref a])).length) Slot.unset).toArray = ls at hl ⊢
  have hl : lv_has ls 3 [(0, .ref a)] := hl
  obtain ⟨a10, ea10, ra10, la10, ua10⟩ := hO.gi h_a (by decide) k12_1
  obtain ⟨a20, ea20, ra20, la20, ua20⟩ := hO.gi h_a (by decide) k12_2
  obtain ⟨f_1, ef_2⟩ : ∃ f9, aF σ (ad E a 0) = f9 := ⟨_, rfl⟩
  have h0row := ef_2
  obtain ⟨f_3, eq_4⟩ : ∃ f9, aQ σ (ad E a 3) = f9 := ⟨_, rfl⟩
  have h0q := eq_4
  refine lv_iconst (v := I 0) hx hb dX10_findAnswers_0 (by decide) ?_
  refine lv_istore_n (lv' := [(1, .int (I 0)), (0, .ref a)]) hx hb dX10_findAnswers_1 rfl hl (by decide) rfl (fun ls hl => ?_)
  refine th_loop (α := Int) (pc := 2) (fun x9 => (4 - x9).toNat) (fun x9 σ9 H9 l9 ls9 => ok y E σ9 ∧ fr [12] E σ σ9 ∧ th_H G b0 σ9 H9 ∧ va_S (th_A b0) s.heap H9 l9 ∧ lv_has ls9 3 [(0, .ref a), (1, .int (I x9))] ∧ rng x9 ∧ (0 ≤ x9) ∧ (x9 ≤ 4) ∧ (gI σ9 a 1 = a10) ∧ (gI σ9 a 2 = a20) ∧ (aF σ9 (ad E a 0) = f_1) ∧ (aQ σ9 (ad E a 3) = f_3)) ?_ (0) σ _ _ _ ⟨hO, hF, hH, hS, lv_sub hl [1, 0] rfl, (show rng 0 from ⟨by decide, by decide⟩), by first | omega | (dsimp only; omega), by first | omega | (dsimp only; omega), ea10, ea20, ef_2, eq_4⟩
  intro x9 σ_J_29 H locs ls hI9 ihJ_29
  obtain ⟨v1q28, ex9⟩ : ∃ z, z = x9 := ⟨_, rfl⟩
  subst ex9
  obtain ⟨hO, hF, hH, hS, hl, rv1q28, J_29_0, J_29_1, J_29_2, J_29_3, J_29_4, J_29_5⟩ := hI9
  have hl : lv_has ls 3 [(0, .ref a), (1, .int (I v1q28))] := hl
  have rv1q28 : rng v1q28 := rv1q28
  replace J_29_0 : 0 ≤ v1q28 := J_29_0
  replace J_29_1 : v1q28 ≤ 4 := J_29_1
  replace J_29_2 : gI σ_J_29 a 1 = a10 := J_29_2
  replace J_29_3 : gI σ_J_29 a 2 = a20 := J_29_3
  replace J_29_4 : aF σ_J_29 (ad E a 0) = f_1 := J_29_4
  replace J_29_5 : aQ σ_J_29 (ad E a 3) = f_3 := J_29_5
  refine lv_iload_n hx hb dX10_findAnswers_2 rfl (lv_at hl 1 rfl) ?_
  refine lv_iconst (v := I 4) hx hb dX10_findAnswers_3 (by decide) ?_
  refine lv_icmp_ge (tgt := 47) hx hb dX10_findAnswers_4 (by decide) (fun c_30 => ?_) (fun c_30 => ?_)
  · replace c_30 := (I_le (a := 4) (b := v1q28) (show rng 4 from ⟨by decide, by decide⟩) rv1q28).mp c_30
    exact th_vret hx hb hr hlocks hH hS ⟨hO, hF, ⟨by omega, (J_29_4.trans h0row.symm), (J_29_5.trans h0q.symm)⟩⟩ dX10_findAnswers_47
  · replace c_30 := mt (I_le (a := 4) (b := v1q28) (show rng 4 from ⟨by decide, by decide⟩) rv1q28).mpr c_30
    refine lv_aload_n hx hb dX10_findAnswers_7 rfl (lv_at hl 0 rfl) ?_
    refine ok.getR hO h_a (by decide) k12_3 (by decide) (fun _ _ he hv kk => th_get (ci := 10) (C := RX10) (T := TX10) (N := 18) hx hb hts inX10 hown hK hH he rfl 3 (by decide) fl0 hv dX10_findAnswers_8 kk) ?_
    refine lv_iload_n hx hb dX10_findAnswers_11 rfl (lv_at hl 1 rfl) ?_
    refine ok_aaldw hx hb hK hH hO h_a (by decide) k12_3 (Or.inl rfl) rfl rv1q28 (by omega) (by omega) dX10_findAnswers_12 (fun x_31 hx_32 hq_33 => ?_)
    rw [J_29_5] at hq_33
    cases x_31 with
    | none =>
      refine lv_astore_nN (lv' := [(2, .null), (0, .ref a), (1, .int (I v1q28))]) hx hb dX10_findAnswers_13 rfl hl (by decide) rfl (fun ls hl => ?_)
      refine lv_aload_n hx hb dX10_findAnswers_14 rfl (lv_at hl 1 rfl) ?_
      refine ok.getR hO h_a (by decide) k12_16 (by decide) (fun _ _ he hv kk => th_get (ci := 10) (C := RX10) (T := TX10) (N := 18) hx hb hts inX10 hown hK hH he rfl 16 (by decide) fl1 hv dX10_findAnswers_15 kk) ?_
      refine lv_iload_n hx hb dX10_findAnswers_18 rfl (lv_at hl 2 rfl) ?_
      refine lv_aload_nN hx hb dX10_findAnswers_19 rfl (lv_at hl 0 rfl) ?_
      refine lv_ifnonnullN hx hb dX10_findAnswers_20 ?_
      refine lv_lconst (v := 0) hx hb dX10_findAnswers_23 (by decide) ?_
      refine lv_goto (tgt := 40) hx hb dX10_findAnswers_24 (by decide) ?_
      refine ok_lastw hx hb hK hH hS h00 hO h_a (by decide) k12_16 rv1q28 (by omega) (by omega) dX10_findAnswers_40 (fun σ_s_36 H locs hO hF9 hi9 ha9 hu9 hH hS => ?_)
      replace hF := hF.tu hF9 (by decide)
      have e_37 : gI σ_s_36 a 1 = a10 := (hi9 _ _).trans J_29_2
      have e_38 : gI σ_s_36 a 2 = a20 := (hi9 _ _).trans J_29_3
      have ef_39 : aF σ_s_36 (ad E a 0) = f_1 := (ha9 _ (ok.adl hO h_a (by decide) k12_16 k12_0 isA1 (by decide))).trans J_29_4
      have eq_40 : aQ σ_s_36 (ad E a 3) = f_3 := (hu9.q (ok.ql hO h_a (by decide) k12_3 k12_16 (by decide))).trans J_29_5
      refine lv_iinc (v := I (v1q28 + 1)) (lv' := [(1, .int (I (v1q28 + 1))), (2, .null), (0, .ref a)]) hx hb dX10_findAnswers_41 hl (k := 2) rfl (I_add _ _) (by decide) rfl (fun ls hl => ?_)
      refine lv_goto (tgt := 2) hx hb dX10_findAnswers_44 (by decide) ?_
      replace hl : lv_has ls 3 [(1, .int (I (v1q28 + 1))), (0, .ref a)] := lv_sub hl [0, 2] rfl
      exact ihJ_29 (v1q28 + 1) σ_s_36 _ _ _ (by first | omega | (dsimp only; omega)) ⟨hO, hF, hH, hS, lv_sub hl [1, 0] rfl, ⟨by first | omega | (dsimp only; omega), by first | omega | (dsimp only; omega)⟩, by first | omega | (dsimp only; omega), by first | omega | (dsimp only; omega), e_37, e_38, ef_39, eq_40⟩
    | some b_34 =>
      have hb_35 : kd E b_34 = 4 := hx_32 b_34 rfl
      refine lv_astore_n (lv' := [(2, .ref b_34), (0, .ref a), (1, .int (I v1q28))]) hx hb dX10_findAnswers_13 rfl hl (by decide) rfl (fun ls hl => ?_)
      refine lv_aload_n hx hb dX10_findAnswers_14 rfl (lv_at hl 1 rfl) ?_
      refine ok.getR hO h_a (by decide) k12_16 (by decide) (fun _ _ he hv kk => th_get (ci := 10) (C := RX10) (T := TX10) (N := 18) hx hb hts inX10 hown hK hH he rfl 16 (by decide) fl1 hv dX10_findAnswers_15 kk) ?_
      refine lv_iload_n hx hb dX10_findAnswers_18 rfl (lv_at hl 2 rfl) ?_
      refine lv_aload_n hx hb dX10_findAnswers_19 rfl (lv_at hl 0 rfl) ?_
      refine lv_ifnonnull (tgt := 27) hx hb dX10_findAnswers_20 (by decide) ?_
      refine lv_aload_n hx hb dX10_findAnswers_27 rfl (lv_at hl 0 rfl) ?_
      refine lv_aload_n hx hb dX10_findAnswers_28 rfl (lv_at hl 1 rfl) ?_
      have hp_41 : kd E (ad E a 9) = 5 := ok.pk hO h_a (by decide) k12_9 rfl
      refine ok.getR hO h_a (by decide) k12_9 (by decide) (fun _ _ he hv kk => th_get (ci := 10) (C := RX10) (T := TX10) (N := 18) hx hb hts inX10 hown hK hH he rfl 9 (by decide) fl2 hv dX10_findAnswers_29 kk) ?_
      have hp_42 : kd E (ad E (ad E a 9) 0) = 1 := ok.pk hO hp_41 (by decide) k5_0 rfl
      refine ok.getR hO hp_41 (by decide) k5_0 (by decide) (fun _ _ he hv kk => th_getN (ci := 6) (C := RX6) (T := TX6) (N := 7) hx hb hts inX6 hown hK hH he rfl 0 (by decide) (nl_13 hK) hv dX10_findAnswers_32 kk) ?_
      refine lv_bipush (v := I 8) hx hb dX10_findAnswers_35 (by decide) ?_
      obtain ⟨_, hc_43⟩ := hO.cell hb_35 (by decide) (ci := 4) rfl
      refine th_calll (va_runV (As := [.ref (ad E (ad E a 9) 0), .int (I 8)]) (rest := [.int (I v1q28), .ref (ad E a 16)]) ⟨hx, hb, hml, hown, hts⟩ (p_answersIn l G y b0 σ_J_29 E hO b_34 hb_35 (ad E (ad E a 9) 0) hp_42 8 (show rng 8 from (show rng 8 from ⟨by decide, by decide⟩))) (cwV 2 hts gX10_findAnswers_X4_answersIn rfl rfl rfl (by decide +kernel) ⟨Nat.le_of_ble_eq_true rfl, Nat.le_of_ble_eq_true rfl⟩) (th_PV hK hH rfl hc_43) rfl rfl hl.1 rfl (lv_room (Nat.le_of_ble_eq_true rfl)) dX10_findAnswers_37 ⟨Nat.le_of_ble_eq_true rfl, Nat.le_of_ble_eq_true rfl⟩) hS (fun w_46 σ_s_45 H locs hw_44 hH hS => ?_)
      obtain ⟨e9, hw_44⟩ := hw_44
      replace e9 := e9.symm
      subst e9
      refine ok_lastw hx hb hK hH hS h00 hO h_a (by decide) k12_16 rv1q28 (by omega) (by omega) dX10_findAnswers_40 (fun σ_s_47 H locs hO hF9 hi9 ha9 hu9 hH hS => ?_)
      replace hF := hF.tu hF9 (by decide)
      have e_48 : gI σ_s_47 a 1 = a10 := (hi9 _ _).trans J_29_2
      have e_49 : gI σ_s_47 a 2 = a20 := (hi9 _ _).trans J_29_3
      have ef_50 : aF σ_s_47 (ad E a 0) = f_1 := (ha9 _ (ok.adl hO h_a (by decide) k12_16 k12_0 isA1 (by decide))).trans J_29_4
      have eq_51 : aQ σ_s_47 (ad E a 3) = f_3 := (hu9.q (ok.ql hO h_a (by decide) k12_3 k12_16 (by decide))).trans J_29_5
      refine lv_iinc (v := I (v1q28 + 1)) (lv' := [(1, .int (I (v1q28 + 1))), (2, .ref b_34), (0, .ref a)]) hx hb dX10_findAnswers_41 hl (k := 2) rfl (I_add _ _) (by decide) rfl (fun ls hl => ?_)
      refine lv_goto (tgt := 2) hx hb dX10_findAnswers_44 (by decide) ?_
      replace hl : lv_has ls 3 [(1, .int (I (v1q28 + 1))), (0, .ref a)] := lv_sub hl [0, 2] rfl
      exact ihJ_29 (v1q28 + 1) σ_s_47 _ _ _ (by first | omega | (dsimp only; omega)) ⟨hO, hF, hH, hS, lv_sub hl [1, 0] rfl, ⟨by first | omega | (dsimp only; omega), by first | omega | (dsimp only; omega)⟩, by first | omega | (dsimp only; omega), by first | omega | (dsimp only; omega), e_48, e_49, ef_50, eq_51⟩

theorem q_foundAmong (l : Launch) (G : va_G) (y : Nat → ClassId) (b0 : Nat) (σ : th_M) (E : th_E) (hO : ok y E σ) (a : Nat) (h_a : kd E a = 12) (i : Int) (ri : rng i) (j : Int) (rj : rng j) : Met l yX10_foundAmong wsX10_foundAmong ({ frames := 2, cells := 0, slots := 0, locals := 50 }) (th_P G y b0 σ [.ref a, .int (I i), .int (I j)]) (th_Qi G b0 (fun r σ1 => σ1 = σ ∧ (True))) 0 0 (th_A b0) := by
  sorry
set_option maxHeartbeats 1000000 in
set_option maxRecDepth 100000 in
theorem q_answering (l : Launch) (G : va_G) (y : Nat → ClassId) (b0 : Nat) (σ : th_M) (E : th_E) (hO : ok y E σ) (a : Nat) (h_a : kd E a = 12) (i : Int) (ri : rng i) : Met l yX10_pathsAnswering wsX10_pathsAnswering ({ frames := 6, cells := 0, slots := 0, locals := 185 }) (th_P G y b0 σ [.ref a, .int (I i)]) (th_Qi G b0 (fun r σ1 => ok y E σ1 ∧ fr [12] E σ σ1 ∧ ((gI σ1 a 2 = gI σ a 2 ∧ gI σ1 a 1 = gI σ a 1) ∧ aF σ1 (ad E a 0) = aF σ (ad E a 0) ∧ aQ σ1 (ad E a 3) = aQ σ (ad E a 3)))) 0 0 (th_A b0) := by
  refine Met.ofW (cc := cX10_pathsAnswering) (maxL := 2) (ret := (some .int)) (by decide) rfl ?_
  intro p e s m args below meth c s₁ B hml hv
  obtain ⟨rfl, hH, hK⟩ := hv
  have hx := B.exec
  have hb := B.bytes
  have hr := B.returns
  have hts := atoms_spec (ws := wsX10_pathsAnswering) B.pre
  have hown : s.vm.findClass RX10 = some m.cls := findClass_of_methodNamed B.named
  have hlocks := B.notSynchronized
  have h00 : b0 ≤ s.heap.size := hH.1
  have hS : va_S (th_A b0) s.heap s.heap [] := va_S.rf
  have hF : fr [12] E σ σ := fr.rf
  have hl := lv_entry ([.ref a, .int (I i)]) (n := 2) (Nat.le_of_ble_eq_true rfl)
  rw [lg_entry_eq]
  generalize (lg_sl ([.ref a, .int (I i)]) ++ List.replicate (2 - (lg_sl ([.ref a, .int (I i)])).length) Slot.unset).toArray = ls at hl ⊢
  have hl : lv_has ls 2 [(0, .ref a), (1, .int (I i))] := hl
  obtain ⟨a10, ea10, ra10, la10, ua10⟩ := hO.gi h_a (by decide) k12_1
  obtain ⟨a20, ea20, ra20, la20, ua20⟩ := hO.gi h_a (by decide) k12_2
  obtain ⟨f_1, ef_2⟩ : ∃ f9, aF σ (ad E a 0) = f9 := ⟨_, rfl⟩
  have h0row := ef_2
  obtain ⟨f_3, eq_4⟩ : ∃ f9, aQ σ (ad E a 3) = f9 := ⟨_, rfl⟩
  have h0q := eq_4
  refine lv_aload_n hx hb dX10_pathsAnswering_0 rfl (lv_at hl 0 rfl) ?_
  obtain ⟨_, hc_5⟩ := hO.cell h_a (by decide) (ci := 10) rfl
  refine th_callv (va_runV (As := []) (rest := []) ⟨hx, hb, hml, hown, hts⟩ (q_findAnswers l G y b0 σ E hO a h_a) (cwV 0 hts gX10_pathsAnswering_X10_findAnswers rfl rfl rfl (by decide +kernel) ⟨Nat.le_of_ble_eq_true rfl, Nat.le_of_ble_eq_true rfl⟩) (th_PV hK hH rfl hc_5) rfl rfl hl.1 rfl (lv_room (Nat.le_of_ble_eq_true rfl)) dX10_pathsAnswering_1 ⟨Nat.le_of_ble_eq_true rfl, Nat.le_of_ble_eq_true rfl⟩) hS (fun σ_s_7 H locs hw_6 hH hS => ?_)
  obtain ⟨hO9, hF9, hw_6⟩ := hw_6
  replace hO := hO9
  replace hF := hF.tu hF9 (by decide)
  replace hw_6 : (gI σ_s_7 a 2 = gI σ a 2 ∧ gI σ_s_7 a 1 = gI σ a 1) ∧ aF σ_s_7 (ad E a 0) = aF σ (ad E a 0) ∧ aQ σ_s_7 (ad E a 3) = aQ σ (ad E a 3) := hw_6
  have ef_8 : aF σ_s_7 (ad E a 0) = f_1 := (hw_6.2.1).trans ef_2
  have eq_9 : aQ σ_s_7 (ad E a 3) = f_3 := (hw_6.2.2).trans eq_4
  obtain ⟨z_10, e_11, rz_10, lz_10, uz_10⟩ := hO.gi h_a (by decide) k12_2
  refine lv_aload_n hx hb dX10_pathsAnswering_4 rfl (lv_at hl 0 rfl) ?_
  refine lv_iload_n hx hb dX10_pathsAnswering_5 rfl (lv_at hl 1 rfl) ?_
  refine lv_aload_n hx hb dX10_pathsAnswering_6 rfl (lv_at hl 0 rfl) ?_
  obtain ⟨_, hc_12⟩ := hO.cell h_a (by decide) (ci := 10) rfl
  refine th_calli (va_runV (As := []) (rest := [.int (I i), .ref a]) ⟨hx, hb, hml, hown, hts⟩ (q_pathsThere l G y b0 σ_s_7 E hO a h_a) (cwV 0 hts gX10_pathsAnswering_X10_pathsThere rfl rfl rfl (by decide +kernel) ⟨Nat.le_of_ble_eq_true rfl, Nat.le_of_ble_eq_true rfl⟩) (th_PV hK hH rfl hc_12) rfl rfl hl.1 rfl (lv_room (Nat.le_of_ble_eq_true rfl)) dX10_pathsAnswering_7 ⟨Nat.le_of_ble_eq_true rfl, Nat.le_of_ble_eq_true rfl⟩) hS (fun z_15 σ_s_14 H locs rz_15 hw_13 hH hS => ?_)
  obtain ⟨e9, hw_13⟩ := hw_13
  replace e9 := e9.symm
  subst e9
  obtain ⟨_, hc_16⟩ := hO.cell h_a (by decide) (ci := 10) rfl
  refine th_calli (va_runV (As := [.int (I i), .int (I z_15)]) (rest := []) ⟨hx, hb, hml, hown, hts⟩ (q_foundAmong l G y b0 σ_s_7 E hO a h_a i (show rng i from ri) z_15 (show rng z_15 from rz_15)) (cwV 2 hts gX10_pathsAnswering_X10_foundAmong rfl rfl rfl (by decide +kernel) ⟨Nat.le_of_ble_eq_true rfl, Nat.le_of_ble_eq_true rfl⟩) (th_PV hK hH rfl hc_16) rfl rfl hl.1 rfl (lv_room (Nat.le_of_ble_eq_true rfl)) dX10_pathsAnswering_10 ⟨Nat.le_of_ble_eq_true rfl, Nat.le_of_ble_eq_true rfl⟩) hS (fun z_19 σ_s_18 H locs rz_19 hw_17 hH hS => ?_)
  obtain ⟨e9, hw_17⟩ := hw_17
  replace e9 := e9.symm
  subst e9
  exact th_iret hx hb hr hlocks hH hS (z := z_19) rz_19 ⟨hO, hF, ⟨by omega, (ef_8.trans h0row.symm), (eq_9.trans h0q.symm)⟩⟩ dX10_pathsAnswering_13

set_option maxHeartbeats 1000000 in
set_option maxRecDepth 100000 in
theorem q_thatFit (l : Launch) (G : va_G) (y : Nat → ClassId) (b0 : Nat) (σ : th_M) (E : th_E) (hO : ok y E σ) (a : Nat) (h_a : kd E a = 12) : Met l yX10_pathsThatFit wsX10_pathsThatFit ({ frames := 6, cells := 0, slots := 0, locals := 185 }) (th_P G y b0 σ [.ref a]) (th_Qi G b0 (fun r σ1 => ok y E σ1 ∧ fr [12] E σ σ1 ∧ ((gI σ1 a 2 = gI σ a 2 ∧ gI σ1 a 1 = gI σ a 1) ∧ aF σ1 (ad E a 0) = aF σ (ad E a 0) ∧ aQ σ1 (ad E a 3) = aQ σ (ad E a 3)))) 0 0 (th_A b0) := by
  refine Met.ofW (cc := cX10_pathsThatFit) (maxL := 3) (ret := (some .int)) (by decide) rfl ?_
  intro p e s m args below meth c s₁ B hml hv
  obtain ⟨rfl, hH, hK⟩ := hv
  have hx := B.exec
  have hb := B.bytes
  have hr := B.returns
  have hts := atoms_spec (ws := wsX10_pathsThatFit) B.pre
  have hown : s.vm.findClass RX10 = some m.cls := findClass_of_methodNamed B.named
  have hlocks := B.notSynchronized
  have h00 : b0 ≤ s.heap.size := hH.1
  have hS : va_S (th_A b0) s.heap s.heap [] := va_S.rf
  have hF : fr [12] E σ σ := fr.rf
  have inX10 : ∀ w ∈ wsX100, w ∈ wsX10_pathsThatFit := by decide +kernel
  have fl0 := hts (.fieldLink RX10 19 "NestQuery" "paths" "[LNestQuery$Path;") (by decide +kernel)
  have fl1 := hts (.fieldLink RX10 63 "NestQuery" "now" "LNestQuery$State;") (by decide +kernel)
  have fl2 := hts (.fieldLink RX10 96 "NestQuery" "answers" "[J") (by decide +kernel)
  have hl := lv_entry ([.ref a]) (n := 3) (Nat.le_of_ble_eq_true rfl)
  rw [lg_entry_eq]
  generalize (lg_sl ([.ref a]) ++ List.replicate (3 - (lg_sl ([.ref a])).length) Slot.unset).toArray = ls at hl ⊢
  have hl : lv_has ls 3 [(0, .ref a)] := hl
  obtain ⟨a10, ea10, ra10, la10, ua10⟩ := hO.gi h_a (by decide) k12_1
  obtain ⟨a20, ea20, ra20, la20, ua20⟩ := hO.gi h_a (by decide) k12_2
  obtain ⟨f_1, ef_2⟩ : ∃ f9, aF σ (ad E a 0) = f9 := ⟨_, rfl⟩
  have h0row := ef_2
  obtain ⟨f_3, eq_4⟩ : ∃ f9, aQ σ (ad E a 3) = f9 := ⟨_, rfl⟩
  have h0q := eq_4
  refine lv_aload_n hx hb dX10_pathsThatFit_0 rfl (lv_at hl 0 rfl) ?_
  obtain ⟨_, hc_5⟩ := hO.cell h_a (by decide) (ci := 10) rfl
  refine th_callv (va_runV (As := []) (rest := []) ⟨hx, hb, hml, hown, hts⟩ (q_findAnswers l G y b0 σ E hO a h_a) (cwV 0 hts gX10_pathsThatFit_X10_findAnswers rfl rfl rfl (by decide +kernel) ⟨Nat.le_of_ble_eq_true rfl, Nat.le_of_ble_eq_true rfl⟩) (th_PV hK hH rfl hc_5) rfl rfl hl.1 rfl (lv_room (Nat.le_of_ble_eq_true rfl)) dX10_pathsThatFit_1 ⟨Nat.le_of_ble_eq_true rfl, Nat.le_of_ble_eq_true rfl⟩) hS (fun σ_s_7 H locs hw_6 hH hS => ?_)
  obtain ⟨hO9, hF9, hw_6⟩ := hw_6
  replace hO := hO9
  replace hF := hF.tu hF9 (by decide)
  replace hw_6 : (gI σ_s_7 a 2 = gI σ a 2 ∧ gI σ_s_7 a 1 = gI σ a 1) ∧ aF σ_s_7 (ad E a 0) = aF σ (ad E a 0) ∧ aQ σ_s_7 (ad E a 3) = aQ σ (ad E a 3) := hw_6
  have ef_8 : aF σ_s_7 (ad E a 0) = f_1 := (hw_6.2.1).trans ef_2
  have eq_9 : aQ σ_s_7 (ad E a 3) = f_3 := (hw_6.2.2).trans eq_4
  obtain ⟨z_10, e_11, rz_10, lz_10, uz_10⟩ := hO.gi h_a (by decide) k12_2
  refine lv_iconst (v := I 0) hx hb dX10_pathsThatFit_4 (by decide) ?_
  refine lv_istore_n (lv' := [(1, .int (I 0)), (0, .ref a)]) hx hb dX10_pathsThatFit_5 rfl hl (by decide) rfl (fun ls hl => ?_)
  refine lv_iconst (v := I 0) hx hb dX10_pathsThatFit_6 (by decide) ?_
  refine lv_istore_n (lv' := [(2, .int (I 0)), (1, .int (I 0)), (0, .ref a)]) hx hb dX10_pathsThatFit_7 rfl hl (by decide) rfl (fun ls hl => ?_)
  refine th_loop (α := Int × Int) (pc := 8) (fun x9 => (4 - x9.2).toNat) (fun x9 σ9 H9 l9 ls9 => σ9 = σ_s_7 ∧ th_H G b0 σ9 H9 ∧ va_S (th_A b0) s.heap H9 l9 ∧ lv_has ls9 3 [(0, .ref a), (1, .int (I x9.1)), (2, .int (I x9.2))] ∧ rng x9.1 ∧ rng x9.2 ∧ (0 ≤ x9.2) ∧ (x9.2 ≤ 4)) ?_ (0, 0) σ_s_7 _ _ _ ⟨rfl, hH, hS, lv_sub hl [2, 1, 0] rfl, (show rng 0 from ⟨by decide, by decide⟩), (show rng 0 from ⟨by decide, by decide⟩), by first | omega | (dsimp only; omega), by first | omega | (dsimp only; omega)⟩
  intro x9 σ_J_29 H locs ls hI9 ihJ_29
  obtain ⟨v1q28, v2q28⟩ := x9
  obtain ⟨eJ_29, hH, hS, hl, rv1q28, rv2q28, J_29_0, J_29_1⟩ := hI9
  replace eJ_29 := eJ_29.symm
  subst eJ_29
  have hl : lv_has ls 3 [(0, .ref a), (1, .int (I v1q28)), (2, .int (I v2q28))] := hl
  have rv1q28 : rng v1q28 := rv1q28
  have rv2q28 : rng v2q28 := rv2q28
  replace J_29_0 : 0 ≤ v2q28 := J_29_0
  replace J_29_1 : v2q28 ≤ 4 := J_29_1
  refine lv_iload_n hx hb dX10_pathsThatFit_8 rfl (lv_at hl 2 rfl) ?_
  refine lv_iconst (v := I 4) hx hb dX10_pathsThatFit_9 (by decide) ?_
  refine lv_icmp_ge (tgt := 50) hx hb dX10_pathsThatFit_10 (by decide) (fun c_30 => ?_) (fun c_30 => ?_)
  · replace c_30 := (I_le (a := 4) (b := v2q28) (show rng 4 from ⟨by decide, by decide⟩) rv2q28).mp c_30
    refine lv_iload_n hx hb dX10_pathsThatFit_50 rfl (lv_at hl 1 rfl) ?_
    exact th_iret hx hb hr hlocks hH hS (z := v1q28) rv1q28 ⟨hO, hF, ⟨by omega, (ef_8.trans h0row.symm), (eq_9.trans h0q.symm)⟩⟩ dX10_pathsThatFit_51
  · replace c_30 := mt (I_le (a := 4) (b := v2q28) (show rng 4 from ⟨by decide, by decide⟩) rv2q28).mpr c_30
    refine lv_aload_n hx hb dX10_pathsThatFit_13 rfl (lv_at hl 0 rfl) ?_
    refine ok.getR hO h_a (by decide) k12_3 (by decide) (fun _ _ he hv kk => th_get (ci := 10) (C := RX10) (T := TX10) (N := 18) hx hb hts inX10 hown hK hH he rfl 3 (by decide) fl0 hv dX10_pathsThatFit_14 kk) ?_
    refine lv_iload_n hx hb dX10_pathsThatFit_17 rfl (lv_at hl 2 rfl) ?_
    refine ok_aaldw hx hb hK hH hO h_a (by decide) k12_3 (Or.inl rfl) rfl rv2q28 (by omega) (by omega) dX10_pathsThatFit_18 (fun x_31 hx_32 hq_33 => ?_)
    rw [eq_9] at hq_33
    cases x_31 with
    | none =>
      refine lv_ifnullN (tgt := 44) hx hb dX10_pathsThatFit_19 (by decide) ?_
      refine lv_iinc (v := I (v2q28 + 1)) (lv' := [(2, .int (I (v2q28 + 1))), (0, .ref a), (1, .int (I v1q28))]) hx hb dX10_pathsThatFit_44 hl (k := 2) rfl (I_add _ _) (by decide) rfl (fun ls hl => ?_)
      refine lv_goto (tgt := 8) hx hb dX10_pathsThatFit_47 (by decide) ?_
      exact ihJ_29 (v1q28, v2q28 + 1) σ_s_7 _ _ _ (by first | omega | (dsimp only; omega)) ⟨rfl, hH, hS, lv_sub hl [1, 2, 0] rfl, rv1q28, ⟨by first | omega | (dsimp only; omega), by first | omega | (dsimp only; omega)⟩, by first | omega | (dsimp only; omega), by first | omega | (dsimp only; omega)⟩
    | some b_34 =>
      have hb_35 : kd E b_34 = 4 := hx_32 b_34 rfl
      refine lv_ifnull hx hb dX10_pathsThatFit_19 ?_
      refine lv_aload_n hx hb dX10_pathsThatFit_22 rfl (lv_at hl 0 rfl) ?_
      have hp_36 : kd E (ad E a 9) = 5 := ok.pk hO h_a (by decide) k12_9 rfl
      refine ok.getR hO h_a (by decide) k12_9 (by decide) (fun _ _ he hv kk => th_get (ci := 10) (C := RX10) (T := TX10) (N := 18) hx hb hts inX10 hown hK hH he rfl 9 (by decide) fl1 hv dX10_pathsThatFit_23 kk) ?_
      refine lv_aload_n hx hb dX10_pathsThatFit_26 rfl (lv_at hl 0 rfl) ?_
      refine ok.getR hO h_a (by decide) k12_16 (by decide) (fun _ _ he hv kk => th_get (ci := 10) (C := RX10) (T := TX10) (N := 18) hx hb hts inX10 hown hK hH he rfl 16 (by decide) fl2 hv dX10_pathsThatFit_27 kk) ?_
      refine lv_iload_n hx hb dX10_pathsThatFit_30 rfl (lv_at hl 2 rfl) ?_
      refine ok_lald hx hb hK hH hO h_a (by decide) k12_16 rv2q28 (by omega) (by omega) dX10_pathsThatFit_31 (fun w_37 => ?_)
      obtain ⟨_, hc_38⟩ := hO.cell hp_36 (by decide) (ci := 6) rfl
      refine th_calli (va_runV (As := [.long w_37]) (rest := []) ⟨hx, hb, hml, hown, hts⟩ (e_notedFits l G y b0 σ_s_7 E hO (ad E a 9) hp_36 w_37) (cwV 1 hts gX10_pathsThatFit_X6_notedFits rfl rfl rfl (by decide +kernel) ⟨Nat.le_of_ble_eq_true rfl, Nat.le_of_ble_eq_true rfl⟩) (th_PV hK hH rfl hc_38) rfl rfl hl.1 rfl (lv_room (Nat.le_of_ble_eq_true rfl)) dX10_pathsThatFit_32 ⟨Nat.le_of_ble_eq_true rfl, Nat.le_of_ble_eq_true rfl⟩) hS (fun z_41 σ_s_40 H locs rz_41 hw_39 hH hS => ?_)
      obtain ⟨e9, bhw_39, hw_39⟩ := hw_39
      replace e9 := e9.symm
      subst e9
      refine lv_if_eq (tgt := 44) hx hb dX10_pathsThatFit_35 (by decide) (fun c_42 => ?_) (fun c_42 => ?_)
      · replace c_42 := (I_eq (a := z_41) (b := 0) rz_41 (show rng 0 from ⟨by decide, by decide⟩)).mp c_42
        refine lv_iinc (v := I (v2q28 + 1)) (lv' := [(2, .int (I (v2q28 + 1))), (0, .ref a), (1, .int (I v1q28))]) hx hb dX10_pathsThatFit_44 hl (k := 2) rfl (I_add _ _) (by decide) rfl (fun ls hl => ?_)
        refine lv_goto (tgt := 8) hx hb dX10_pathsThatFit_47 (by decide) ?_
        exact ihJ_29 (v1q28, v2q28 + 1) σ_s_7 _ _ _ (by first | omega | (dsimp only; omega)) ⟨rfl, hH, hS, lv_sub hl [1, 2, 0] rfl, rv1q28, ⟨by first | omega | (dsimp only; omega), by first | omega | (dsimp only; omega)⟩, by first | omega | (dsimp only; omega), by first | omega | (dsimp only; omega)⟩
      · replace c_42 := mt (I_eq (a := z_41) (b := 0) rz_41 (show rng 0 from ⟨by decide, by decide⟩)).mpr c_42
        refine lv_iload_n hx hb dX10_pathsThatFit_38 rfl (lv_at hl 1 rfl) ?_
        refine lv_iconst (v := I 1) hx hb dX10_pathsThatFit_39 (by decide) ?_
        refine lv_iload_n hx hb dX10_pathsThatFit_40 rfl (lv_at hl 2 rfl) ?_
        refine lv_ishl hx hb dX10_pathsThatFit_41 ?_
        refine th_topi (fun z_43 rz_43 => ?_)
        refine lv_ior hx hb dX10_pathsThatFit_42 ?_
        refine th_topi (fun z_44 rz_44 => ?_)
        refine lv_istore_n (lv' := [(1, .int (I z_44)), (0, .ref a), (2, .int (I v2q28))]) hx hb dX10_pathsThatFit_43 rfl hl (by decide) rfl (fun ls hl => ?_)
        refine lv_iinc (v := I (v2q28 + 1)) (lv' := [(2, .int (I (v2q28 + 1))), (1, .int (I z_44)), (0, .ref a)]) hx hb dX10_pathsThatFit_44 hl (k := 2) rfl (I_add _ _) (by decide) rfl (fun ls hl => ?_)
        refine lv_goto (tgt := 8) hx hb dX10_pathsThatFit_47 (by decide) ?_
        exact ihJ_29 (z_44, v2q28 + 1) σ_s_7 _ _ _ (by first | omega | (dsimp only; omega)) ⟨rfl, hH, hS, lv_sub hl [2, 1, 0] rfl, rz_44, ⟨by first | omega | (dsimp only; omega), by first | omega | (dsimp only; omega)⟩, by first | omega | (dsimp only; omega), by first | omega | (dsimp only; omega)⟩

set_option maxHeartbeats 1000000 in
set_option maxRecDepth 100000 in
theorem q_look (l : Launch) (G : va_G) (y : Nat → ClassId) (b0 : Nat) (σ : th_M) (E : th_E) (hO : ok y E σ) (a : Nat) (h_a : kd E a = 12) : Met l yX10_look wsX10_look ({ frames := 7, cells := 0, slots := 0, locals := 211 }) (th_P G y b0 σ [.ref a]) (th_Qi G b0 (fun r σ1 => ok y E σ1 ∧ fr [12] E σ σ1 ∧ ((gI σ1 a 2 = gI σ a 2 ∧ gI σ1 a 1 = gI σ a 1) ∧ aF σ1 (ad E a 0) = aF σ (ad E a 0) ∧ aQ σ1 (ad E a 3) = aQ σ (ad E a 3)))) 0 0 (th_A b0) := by
  refine Met.ofW (cc := cX10_look) (maxL := 8) (ret := (some .int)) (by decide) rfl ?_
  intro p e s m args below meth c s₁ B hml hv
  obtain ⟨rfl, hH, hK⟩ := hv
  have hx := B.exec
  have hb := B.bytes
  have hr := B.returns
  have hts := atoms_spec (ws := wsX10_look) B.pre
  have hown : s.vm.findClass RX10 = some m.cls := findClass_of_methodNamed B.named
  have hlocks := B.notSynchronized
  have h00 : b0 ≤ s.heap.size := hH.1
  have hS : va_S (th_A b0) s.heap s.heap [] := va_S.rf
  have hF : fr [12] E σ σ := fr.rf
  have inX10 : ∀ w ∈ wsX100, w ∈ wsX10_look := by decide +kernel
  have inX6 : ∀ w ∈ wsX60, w ∈ wsX10_look := by decide +kernel
  have inX9 : ∀ w ∈ wsX90, w ∈ wsX10_look := by decide +kernel
  have fl0 := hts (.fieldLink RX10 63 "NestQuery" "now" "LNestQuery$State;") (by decide +kernel)
  have fl1 := hts (.methodLink RX10 358 Lib.Math.min.name) (by decide +kernel)
  have fl2 := hts (.static Lib.Math.min.name) (by decide +kernel)
  have fl3 := hts (.initialized "java/lang/Math") (by decide +kernel)
  have fl4 := hts (.code Lib.Math.min.name Lib.Math.min.code 2 (some .int)) (by decide +kernel)
  have hl := lv_entry ([.ref a]) (n := 8) (Nat.le_of_ble_eq_true rfl)
  rw [lg_entry_eq]
  generalize (lg_sl ([.ref a]) ++ List.replicate (8 - (lg_sl ([.ref a])).length) Slot.unset).toArray = ls at hl ⊢
  have hl : lv_has ls 8 [(0, .ref a)] := hl
  obtain ⟨a10, ea10, ra10, la10, ua10⟩ := hO.gi h_a (by decide) k12_1
  obtain ⟨a20, ea20, ra20, la20, ua20⟩ := hO.gi h_a (by decide) k12_2
  obtain ⟨f_1, ef_2⟩ : ∃ f9, aF σ (ad E a 0) = f9 := ⟨_, rfl⟩
  have h0row := ef_2
  obtain ⟨f_3, eq_4⟩ : ∃ f9, aQ σ (ad E a 3) = f9 := ⟨_, rfl⟩
  have h0q := eq_4
  refine lv_aload_n hx hb dX10_look_0 rfl (lv_at hl 0 rfl) ?_
  obtain ⟨_, hc_5⟩ := hO.cell h_a (by decide) (ci := 10) rfl
  refine th_calli (va_runV (As := []) (rest := []) ⟨hx, hb, hml, hown, hts⟩ (q_thatFit l G y b0 σ E hO a h_a) (cwV 0 hts gX10_look_X10_pathsThatFit rfl rfl rfl (by decide +kernel) ⟨Nat.le_of_ble_eq_true rfl, Nat.le_of_ble_eq_true rfl⟩) (th_PV hK hH rfl hc_5) rfl rfl hl.1 rfl (lv_room (Nat.le_of_ble_eq_true rfl)) dX10_look_1 ⟨Nat.le_of_ble_eq_true rfl, Nat.le_of_ble_eq_true rfl⟩) hS (fun z_8 σ_s_7 H locs rz_8 hw_6 hH hS => ?_)
  obtain ⟨hO9, hF9, hw_6⟩ := hw_6
  replace hO := hO9
  replace hF := hF.tu hF9 (by decide)
  replace hw_6 : (gI σ_s_7 a 2 = gI σ a 2 ∧ gI σ_s_7 a 1 = gI σ a 1) ∧ aF σ_s_7 (ad E a 0) = aF σ (ad E a 0) ∧ aQ σ_s_7 (ad E a 3) = aQ σ (ad E a 3) := hw_6
  have ef_9 : aF σ_s_7 (ad E a 0) = f_1 := (hw_6.2.1).trans ef_2
  have eq_10 : aQ σ_s_7 (ad E a 3) = f_3 := (hw_6.2.2).trans eq_4
  obtain ⟨z_11, e_12, rz_11, lz_11, uz_11⟩ := hO.gi h_a (by decide) k12_2
  refine lv_istore_n (lv' := [(1, .int (I z_8)), (0, .ref a)]) hx hb dX10_look_4 rfl hl (by decide) rfl (fun ls hl => ?_)
  refine lv_iload_n hx hb dX10_look_5 rfl (lv_at hl 0 rfl) ?_
  refine th_calli (va_runS (As := [.int (I z_8)]) (rest := []) ⟨hx, hb, hml, hown, hts⟩ (j_bitCount l G y b0 σ_s_7 E hO z_8 (show rng z_8 from rz_8)) (va_cwS 1 hts gX10_look_J6_bitCount_0f7a4 rfl rfl rfl (by decide +kernel) ⟨Nat.le_of_ble_eq_true rfl, Nat.le_of_ble_eq_true rfl⟩) (th_PS hK hH) rfl rfl hl.1 rfl (lv_room (Nat.le_of_ble_eq_true rfl)) dX10_look_6 ⟨Nat.le_of_ble_eq_true rfl, Nat.le_of_ble_eq_true rfl⟩) hS (fun z_15 σ_s_14 H locs rz_15 hw_13 hH hS => ?_)
  obtain ⟨e9, hw_13⟩ := hw_13
  replace e9 := e9.symm
  subst e9
  refine lv_istore_n (lv' := [(2, .int (I z_15)), (1, .int (I z_8)), (0, .ref a)]) hx hb dX10_look_9 rfl hl (by decide) rfl (fun ls hl => ?_)
  refine lv_iconst (v := I (-1)) hx hb dX10_look_10 (by decide) ?_
  refine lv_istore_n (lv' := [(3, .int (I (-1))), (2, .int (I z_15)), (1, .int (I z_8)), (0, .ref a)]) hx hb dX10_look_11 rfl hl (by decide) rfl (fun ls hl => ?_)
  refine lv_iconst (v := I 0) hx hb dX10_look_12 (by decide) ?_
  refine lv_istore (lv' := [(4, .int (I 0)), (3, .int (I (-1))), (2, .int (I z_15)), (1, .int (I z_8)), (0, .ref a)]) hx hb dX10_look_13 hl (by decide) rfl (fun ls hl => ?_)
  refine lv_iconst (v := I 0) hx hb dX10_look_15 (by decide) ?_
  refine lv_istore (lv' := [(5, .int (I 0)), (4, .int (I 0)), (3, .int (I (-1))), (2, .int (I z_15)), (1, .int (I z_8)), (0, .ref a)]) hx hb dX10_look_16 hl (by decide) rfl (fun ls hl => ?_)
  refine th_loop (α := Int × Int × Int) (pc := 18) (fun x9 => (60 - x9.2.2).toNat) (fun x9 σ9 H9 l9 ls9 => σ9 = σ_s_7 ∧ th_H G b0 σ9 H9 ∧ va_S (th_A b0) s.heap H9 l9 ∧ lv_has ls9 8 [(0, .ref a), (1, .int (I z_8)), (2, .int (I z_15)), (3, .int (I x9.1)), (4, .int (I x9.2.1)), (5, .int (I x9.2.2))] ∧ rng x9.1 ∧ rng x9.2.1 ∧ rng x9.2.2 ∧ (0 ≤ x9.2.2) ∧ (x9.2.2 ≤ 60)) ?_ ((-1), 0, 0) σ_s_7 _ _ _ ⟨rfl, hH, hS, lv_sub hl [5, 4, 3, 2, 1, 0] rfl, (show rng (-1) from ⟨by decide, by decide⟩), (show rng 0 from ⟨by decide, by decide⟩), (show rng 0 from ⟨by decide, by decide⟩), by first | omega | (dsimp only; omega), by first | omega | (dsimp only; omega)⟩
  intro x9 σ_J_30 H locs ls hI9 ihJ_30
  obtain ⟨v3q29, v4q29, v5q29⟩ := x9
  obtain ⟨eJ_30, hH, hS, hl, rv3q29, rv4q29, rv5q29, J_30_0, J_30_1⟩ := hI9
  replace eJ_30 := eJ_30.symm
  subst eJ_30
  have hl : lv_has ls 8 [(0, .ref a), (1, .int (I z_8)), (2, .int (I z_15)), (3, .int (I v3q29)), (4, .int (I v4q29)), (5, .int (I v5q29))] := hl
  have rv3q29 : rng v3q29 := rv3q29
  have rv4q29 : rng v4q29 := rv4q29
  have rv5q29 : rng v5q29 := rv5q29
  replace J_30_0 : 0 ≤ v5q29 := J_30_0
  replace J_30_1 : v5q29 ≤ 60 := J_30_1
  refine lv_iload hx hb dX10_look_18 (lv_at hl 5 rfl) ?_
  refine lv_aload_n hx hb dX10_look_20 rfl (lv_at hl 0 rfl) ?_
  have hp_31 : kd E (ad E a 9) = 5 := ok.pk hO h_a (by decide) k12_9 rfl
  refine ok.getR hO h_a (by decide) k12_9 (by decide) (fun _ _ he hv kk => th_get (ci := 10) (C := RX10) (T := TX10) (N := 18) hx hb hts inX10 hown hK hH he rfl 9 (by decide) fl0 hv dX10_look_21 kk) ?_
  have hp_32 : kd E (ad E (ad E a 9) 0) = 1 := ok.pk hO hp_31 (by decide) k5_0 rfl
  refine ok.getR hO hp_31 (by decide) k5_0 (by decide) (fun _ _ he hv kk => th_getN (ci := 6) (C := RX6) (T := TX6) (N := 7) hx hb hts inX6 hown hK hH he rfl 0 (by decide) (nl_13 hK) hv dX10_look_24 kk) ?_
  refine ok.getI hO hp_32 (by decide) k1_4 (fun _ _ he hv kk => th_getN (ci := 9) (C := RX9) (T := TX9) (N := 5) hx hb hts inX9 hown hK hH he rfl 4 (by decide) (nl_11 hK) hv dX10_look_27 kk) (fun z_33 e_34 rz_33 lz_33 uz_33 => ?_)
  refine lv_icmp_ge (tgt := 73) hx hb dX10_look_30 (by decide) (fun c_35 => ?_) (fun c_35 => ?_)
  · replace c_35 := (I_le (a := z_33) (b := v5q29) rz_33 rv5q29).mp c_35
    refine lv_iload_n hx hb dX10_look_73 rfl (lv_at hl 3 rfl) ?_
    exact th_iret hx hb hr hlocks hH hS (z := v3q29) rv3q29 ⟨hO, hF, ⟨by omega, (ef_9.trans h0row.symm), (eq_10.trans h0q.symm)⟩⟩ dX10_look_74
  · replace c_35 := mt (I_le (a := z_33) (b := v5q29) rz_33 rv5q29).mpr c_35
    refine lv_aload_n hx hb dX10_look_33 rfl (lv_at hl 0 rfl) ?_
    refine lv_iload hx hb dX10_look_34 (lv_at hl 5 rfl) ?_
    refine lv_iload_n hx hb dX10_look_36 rfl (lv_at hl 1 rfl) ?_
    obtain ⟨_, hc_36⟩ := hO.cell h_a (by decide) (ci := 10) rfl
    refine th_calli (va_runV (As := [.int (I v5q29), .int (I z_8)]) (rest := []) ⟨hx, hb, hml, hown, hts⟩ (q_foundAmong l G y b0 σ_s_7 E hO a h_a v5q29 (show rng v5q29 from rv5q29) z_8 (show rng z_8 from rz_8)) (cwV 2 hts gX10_look_X10_foundAmong rfl rfl rfl (by decide +kernel) ⟨Nat.le_of_ble_eq_true rfl, Nat.le_of_ble_eq_true rfl⟩) (th_PV hK hH rfl hc_36) rfl rfl hl.1 rfl (lv_room (Nat.le_of_ble_eq_true rfl)) dX10_look_37 ⟨Nat.le_of_ble_eq_true rfl, Nat.le_of_ble_eq_true rfl⟩) hS (fun z_39 σ_s_38 H locs rz_39 hw_37 hH hS => ?_)
    obtain ⟨e9, hw_37⟩ := hw_37
    replace e9 := e9.symm
    subst e9
    refine lv_istore (lv' := [(6, .int (I z_39)), (0, .ref a), (1, .int (I z_8)), (2, .int (I z_15)), (3, .int (I v3q29)), (4, .int (I v4q29)), (5, .int (I v5q29))]) hx hb dX10_look_40 hl (by decide) rfl (fun ls hl => ?_)
    refine lv_iload hx hb dX10_look_42 (lv_at hl 0 rfl) ?_
    refine lv_iload_n hx hb dX10_look_44 rfl (lv_at hl 3 rfl) ?_
    refine lv_iload hx hb dX10_look_45 (lv_at hl 0 rfl) ?_
    refine lv_isub hx hb dX10_look_47 ?_
    refine th_subo (fun z_40 rz_40 hz_40 => ?_)
    refine va_mmin hx hb (by rw [hml]; exact hl.1.symm) hown fl1 fl2 fl3 fl4 (Nat.le_of_ble_eq_true rfl) (Nat.le_of_ble_eq_true rfl) (Nat.zero_le _) (Nat.zero_le _) dX10_look_48 ?_
    refine th_mmin rz_39 rz_40 (fun z_41 rz_41 hz_41 => ?_)
    refine lv_istore (lv' := [(7, .int (I z_41)), (6, .int (I z_39)), (0, .ref a), (1, .int (I z_8)), (2, .int (I z_15)), (3, .int (I v3q29)), (4, .int (I v4q29)), (5, .int (I v5q29))]) hx hb dX10_look_51 hl (by decide) rfl (fun ls hl => ?_)
    refine lv_iload hx hb dX10_look_53 (lv_at hl 0 rfl) ?_
    refine lv_iload hx hb dX10_look_55 (lv_at hl 6 rfl) ?_
    refine lv_icmp_le (tgt := 67) hx hb dX10_look_57 (by decide) (fun c_42 => ?_) (fun c_42 => ?_)
    · replace c_42 := (I_le (a := z_41) (b := v4q29) rz_41 rv4q29).mp c_42
      refine lv_iinc (v := I (v5q29 + 1)) (lv' := [(5, .int (I (v5q29 + 1))), (7, .int (I z_41)), (6, .int (I z_39)), (0, .ref a), (1, .int (I z_8)), (2, .int (I z_15)), (3, .int (I v3q29)), (4, .int (I v4q29))]) hx hb dX10_look_67 hl (k := 7) rfl (I_add _ _) (by decide) rfl (fun ls hl => ?_)
      refine lv_goto (tgt := 18) hx hb dX10_look_70 (by decide) ?_
      replace hl : lv_has ls 8 [(5, .int (I (v5q29 + 1))), (0, .ref a), (1, .int (I z_8)), (2, .int (I z_15)), (3, .int (I v3q29)), (4, .int (I v4q29))] := lv_sub hl [0, 3, 4, 5, 6, 7] rfl
      exact ihJ_30 (v3q29, v4q29, v5q29 + 1) σ_s_7 _ _ _ (by first | omega | (dsimp only; omega)) ⟨rfl, hH, hS, lv_sub hl [1, 2, 3, 4, 5, 0] rfl, rv3q29, rv4q29, ⟨by first | omega | (dsimp only; omega), by first | omega | (dsimp only; omega)⟩, by first | omega | (dsimp only; omega), by first | omega | (dsimp only; omega)⟩
    · replace c_42 := mt (I_le (a := z_41) (b := v4q29) rz_41 rv4q29).mpr c_42
      refine lv_iload hx hb dX10_look_60 (lv_at hl 0 rfl) ?_
      refine lv_istore (lv' := [(4, .int (I z_41)), (7, .int (I z_41)), (6, .int (I z_39)), (0, .ref a), (1, .int (I z_8)), (2, .int (I z_15)), (3, .int (I v3q29)), (5, .int (I v5q29))]) hx hb dX10_look_62 hl (by decide) rfl (fun ls hl => ?_)
      refine lv_iload hx hb dX10_look_64 (lv_at hl 7 rfl) ?_
      refine lv_istore_n (lv' := [(3, .int (I v5q29)), (4, .int (I z_41)), (7, .int (I z_41)), (6, .int (I z_39)), (0, .ref a), (1, .int (I z_8)), (2, .int (I z_15)), (5, .int (I v5q29))]) hx hb dX10_look_66 rfl hl (by decide) rfl (fun ls hl => ?_)
      refine lv_iinc (v := I (v5q29 + 1)) (lv' := [(5, .int (I (v5q29 + 1))), (3, .int (I v5q29)), (4, .int (I z_41)), (7, .int (I z_41)), (6, .int (I z_39)), (0, .ref a), (1, .int (I z_8)), (2, .int (I z_15))]) hx hb dX10_look_67 hl (k := 7) rfl (I_add _ _) (by decide) rfl (fun ls hl => ?_)
      refine lv_goto (tgt := 18) hx hb dX10_look_70 (by decide) ?_
      replace hl : lv_has ls 8 [(5, .int (I (v5q29 + 1))), (3, .int (I v5q29)), (4, .int (I z_41)), (0, .ref a), (1, .int (I z_8)), (2, .int (I z_15))] := lv_sub hl [0, 1, 2, 5, 6, 7] rfl
      exact ihJ_30 (v5q29, z_41, v5q29 + 1) σ_s_7 _ _ _ (by first | omega | (dsimp only; omega)) ⟨rfl, hH, hS, lv_sub hl [3, 4, 5, 1, 2, 0] rfl, rv5q29, rz_41, ⟨by first | omega | (dsimp only; omega), by first | omega | (dsimp only; omega)⟩, by first | omega | (dsimp only; omega), by first | omega | (dsimp only; omega)⟩

