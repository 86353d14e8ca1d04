theorem m_things (l : Launch) (G : va_G) (y : Nat → ClassId) (b0 : Nat) (σ : th_M) (E : th_E) (hO : ok y E σ) (a : Nat) (h_a : kd E a = 13) (f1 : Nat → Int32) (ef1 : aF σ (ad E a 1) = f1) : Met l yX11_things wsX11_things ({ frames := 0, cells := 0, slots := 0, locals := 0 }) (th_P G y b0 σ [.ref a]) (th_Qi G b0 (fun r σ1 => σ1 = σ ∧ (r = mS f1 0))) 0 0 (th_A b0) := by
  sorry
