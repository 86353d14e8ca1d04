theorem t1_deepest (l : Launch) (G : va_G) (y : Nat → ClassId) (b0 : Nat) (σ : th_M) (E : th_E) (hO : ok y E σ) (a : Nat) (h_a : kd E a = 1) : Met l yX9_deepest wsX9_deepest ({ frames := 1, cells := 0, slots := 0, locals := 40 }) (th_P G y b0 σ [.ref a]) (th_Qi G b0 (fun r σ1 => σ1 = σ ∧ (0 ≤ r))) 0 0 (th_A b0) := by
  sorry
theorem t2_deepest (l : Launch) (G : va_G) (y : Nat → ClassId) (b0 : Nat) (σ : th_M) (E : th_E) (hO : ok y E σ) (a : Nat) (h_a : kd E a = 2) : Met l yX9_deepest wsX9_deepest ({ frames := 1, cells := 0, slots := 0, locals := 40 }) (th_P G y b0 σ [.ref a]) (th_Qi G b0 (fun r σ1 => σ1 = σ ∧ (0 ≤ r ∧ (∀ q : Nat, (q : Int) < gI σ a 4 → (aF σ (ad E a 3) q).toInt ≤ r)))) 0 0 (th_A b0) := by
  sorry
theorem t12_become (l : Launch) (G : va_G) (y : Nat → ClassId) (b0 : Nat) (σ : th_M) (E : th_E) (hO : ok y E σ) (a : Nat) (h_a : kd E a = 1) (b : Nat) (h_b : kd E b = 2) (hy0 : ∀ q : Nat, (q : Int) < gI σ b 4 → (aF σ (ad E b 3) q).toInt ≤ 7) : Met l yX9_become wsX9_become ({ frames := 1, cells := 0, slots := 0, locals := 60 }) (th_P G y b0 σ [.ref a, .ref b]) (th_Qv G b0 (fun σ1 => ok y E σ1 ∧ fr [1] E σ σ1 ∧ (True))) 0 0 (th_A b0) := by
  sorry
theorem e_remember (l : Launch) (G : va_G) (y : Nat → ClassId) (b0 : Nat) (σ : th_M) (E : th_E) (hO : ok y E σ) (a : Nat) (h_a : kd E a = 5) : Met l yX6_remember wsX6_remember ({ frames := 2, cells := 5, slots := 245, locals := 86 }) (th_P G y b0 σ [.ref a]) (th_Qv G b0 (fun σ1 => ∃ E1, ext E E1 ∧ ok y E1 σ1 ∧ fr [5, 1] E σ σ1 ∧ (True))) 5 245 (th_A b0) := by
  sorry
theorem e_takeBefore0 (l : Launch) (G : va_G) (y : Nat → ClassId) (b0 : Nat) (σ : th_M) (E : th_E) (hO : ok y E σ) (a : Nat) (h_a : kd E a = 5) (i : Int) (ri : rng i) : Met l yX6_takeBefore wsX6_takeBefore ({ frames := 0, cells := 0, slots := 0, locals := 0 }) (th_P G y b0 σ [.ref a, .int (I i), .null]) (th_Qv G b0 (fun σ1 => ∃ E1, ext E E1 ∧ ok y E1 σ1 ∧ fr [5, 1] E σ σ1 ∧ (True))) 0 0 (th_A b0) := by
  sorry
theorem e_takeBefore (l : Launch) (G : va_G) (y : Nat → ClassId) (b0 : Nat) (σ : th_M) (E : th_E) (hO : ok y E σ) (a : Nat) (h_a : kd E a = 5) (i : Int) (ri : rng i) (b : Nat) (h_b : kd E b = 1) : Met l yX6_takeBefore wsX6_takeBefore ({ frames := 2, cells := 5, slots := 245, locals := 86 }) (th_P G y b0 σ [.ref a, .int (I i), .ref b]) (th_Qv G b0 (fun σ1 => ∃ E1, ext E E1 ∧ ok y E1 σ1 ∧ fr [5, 1] E σ σ1 ∧ (True))) 5 245 (th_A b0) := by
  sorry
theorem e_takeAll (l : Launch) (G : va_G) (y : Nat → ClassId) (b0 : Nat) (σ : th_M) (E : th_E) (hO : ok y E σ) (a : Nat) (h_a : kd E a = 5) (b : Nat) (h_b : kd E b = 5) : Met l yX6_takeAll wsX6_takeAll ({ frames := 3, cells := 200, slots := 9800, locals := 113 }) (th_P G y b0 σ [.ref a, .ref b]) (th_Qv G b0 (fun σ1 => ∃ E1, ext E E1 ∧ ok y E1 σ1 ∧ fr [5, 1] E σ σ1 ∧ (True))) 200 9800 (th_A b0) := by
  sorry
theorem c_commit (l : Launch) (G : va_G) (y : Nat → ClassId) (b0 : Nat) (σ : th_M) (E : th_E) (hO : ok y E σ) (a : Nat) (h_a : kd E a = 6) : Met l yX0_commit wsX0_commit ({ frames := 3, cells := 5, slots := 245, locals := 111 }) (th_P G y b0 σ [.ref a]) (th_Qi G b0 (fun r σ1 => ∃ E1, ext E E1 ∧ ok y E1 σ1 ∧ fr [5, 1] E σ σ1 ∧ (0 ≤ r ∧ r ≤ 1) ∧ (True))) 5 245 (th_A b0) := by
  sorry
theorem c_putAll (l : Launch) (G : va_G) (y : Nat → ClassId) (b0 : Nat) (σ : th_M) (E : th_E) (hO : ok y E σ) (a : Nat) (h_a : kd E a = 6) (w : Int64) (b : Nat) (h_b : kd E b = 1) : Met l yX0_putAll wsX0_putAll ({ frames := 4, cells := 5, slots := 245, locals := 149 }) (th_P G y b0 σ [.ref a, .long w, .ref b]) (th_Qi G b0 (fun r σ1 => ∃ E1, ext E E1 ∧ ok y E1 σ1 ∧ fr [5, 1, 2] E σ σ1 ∧ (True))) 5 245 (th_A b0) := by
  sorry
theorem c_appendAll (l : Launch) (G : va_G) (y : Nat → ClassId) (b0 : Nat) (σ : th_M) (E : th_E) (hO : ok y E σ) (a : Nat) (h_a : kd E a = 6) (w : Int64) (b : Nat) (h_b : kd E b = 1) : Met l yX0_appendAll wsX0_appendAll ({ frames := 4, cells := 5, slots := 245, locals := 148 }) (th_P G y b0 σ [.ref a, .long w, .ref b]) (th_Qi G b0 (fun r σ1 => ∃ E1, ext E E1 ∧ ok y E1 σ1 ∧ fr [5, 1, 2] E σ σ1 ∧ (True))) 5 245 (th_A b0) := by
  sorry
theorem c_keyAll (l : Launch) (G : va_G) (y : Nat → ClassId) (b0 : Nat) (σ : th_M) (E : th_E) (hO : ok y E σ) (a : Nat) (h_a : kd E a = 6) (w : Int64) (ky : Int) (rky : rng ky) (b : Nat) (h_b : kd E b = 1) : Met l yX0_keyAll wsX0_keyAll ({ frames := 5, cells := 5, slots := 245, locals := 177 }) (th_P G y b0 σ [.ref a, .long w, .int (I ky), .ref b]) (th_Qi G b0 (fun r σ1 => ∃ E1, ext E E1 ∧ ok y E1 σ1 ∧ fr [5, 1, 2] E σ σ1 ∧ (True))) 5 245 (th_A b0) := by
  sorry
theorem c_addAll (l : Launch) (G : va_G) (y : Nat → ClassId) (b0 : Nat) (σ : th_M) (E : th_E) (hO : ok y E σ) (a : Nat) (h_a : kd E a = 6) (w : Int64) (v : Int) (rv : rng v) (l_v : -999 ≤ v) (u_v : v ≤ 999) : Met l yX0_addAll wsX0_addAll ({ frames := 4, cells := 5, slots := 245, locals := 135 }) (th_P G y b0 σ [.ref a, .long w, .int (I v)]) (th_Qi G b0 (fun r σ1 => ∃ E1, ext E E1 ∧ ok y E1 σ1 ∧ fr [5, 1, 2] E σ σ1 ∧ (True))) 5 245 (th_A b0) := by
  sorry
theorem c_rearrangeAll (l : Launch) (G : va_G) (y : Nat → ClassId) (b0 : Nat) (σ : th_M) (E : th_E) (hO : ok y E σ) (a : Nat) (h_a : kd E a = 6) (w : Int64) (w2 : Int) (rw2 : rng w2) (l_w2 : 0 ≤ w2) (u_w2 : w2 ≤ 1) : Met l yX0_rearrangeAll wsX0_rearrangeAll ({ frames := 4, cells := 5, slots := 245, locals := 149 }) (th_P G y b0 σ [.ref a, .long w, .int (I w2)]) (th_Qi G b0 (fun r σ1 => ∃ E1, ext E E1 ∧ ok y E1 σ1 ∧ fr [5, 1, 2, 6] E σ σ1 ∧ (True))) 5 245 (th_A b0) := by
  sorry
theorem c_dropAll (l : Launch) (G : va_G) (y : Nat → ClassId) (b0 : Nat) (σ : th_M) (E : th_E) (hO : ok y E σ) (a : Nat) (h_a : kd E a = 6) (w : Int64) : Met l yX0_dropAll wsX0_dropAll ({ frames := 4, cells := 5, slots := 245, locals := 135 }) (th_P G y b0 σ [.ref a, .long w]) (th_Qi G b0 (fun r σ1 => ∃ E1, ext E E1 ∧ ok y E1 σ1 ∧ fr [5, 1, 2] E σ σ1 ∧ (True))) 5 245 (th_A b0) := by
  sorry
theorem c_moveThing (l : Launch) (G : va_G) (y : Nat → ClassId) (b0 : Nat) (σ : th_M) (E : th_E) (hO : ok y E σ) (a : Nat) (h_a : kd E a = 6) (i : Int) (ri : rng i) (j : Int) (rj : rng j) (ky : Int) (rky : rng ky) : Met l yX0_moveThing wsX0_moveThing ({ frames := 4, cells := 5, slots := 245, locals := 148 }) (th_P G y b0 σ [.ref a, .int (I i), .int (I j), .int (I ky)]) (th_Qi G b0 (fun r σ1 => ∃ E1, ext E E1 ∧ ok y E1 σ1 ∧ fr [5, 1, 2] E σ σ1 ∧ (True))) 5 245 (th_A b0) := by
  sorry
theorem c_layOn (l : Launch) (G : va_G) (y : Nat → ClassId) (b0 : Nat) (σ : th_M) (E : th_E) (hO : ok y E σ) (a : Nat) (h_a : kd E a = 6) (b : Nat) (h_b : kd E b = 7) (w : Int) (rw : rng w) (l_w : 0 ≤ w) (u_w : w ≤ 1) : Met l yX0_layOn wsX0_layOn ({ frames := 63, cells := 5, slots := 245, locals := 1371 }) (th_P G y b0 σ [.ref a, .ref b, .int (I w)]) (th_Qi G b0 (fun r σ1 => ∃ E1, ext E E1 ∧ ok y E1 σ1 ∧ fr [5, 1, 2] E σ σ1 ∧ (True))) 5 245 (th_A b0) := by
  sorry
theorem q_adding (l : Launch) (G : va_G) (y : Nat → ClassId) (b0 : Nat) (σ : th_M) (E : th_E) (hO : ok y E σ) (a : Nat) (h_a : kd E a = 12) (i : Int) (ri : rng i) (v : Int) (rv : rng v) : Met l yX10_adding wsX10_adding ({ frames := 5, cells := 5, slots := 245, locals := 166 }) (th_P G y b0 σ [.ref a, .int (I i), .int (I v)]) (th_Qi G b0 (fun r σ1 => ∃ E1, ext E E1 ∧ ok y E1 σ1 ∧ fr [1, 2, 5, 6] E σ σ1 ∧ (True))) 5 245 (th_A b0) := by
  sorry
theorem q_changing (l : Launch) (G : va_G) (y : Nat → ClassId) (b0 : Nat) (σ : th_M) (E : th_E) (hO : ok y E σ) (a : Nat) (h_a : kd E a = 12) (i : Int) (ri : rng i) (v : Int) (rv : rng v) : Met l yX10_changing wsX10_changing ({ frames := 5, cells := 5, slots := 245, locals := 181 }) (th_P G y b0 σ [.ref a, .int (I i), .int (I v)]) (th_Qi G b0 (fun r σ1 => ∃ E1, ext E E1 ∧ ok y E1 σ1 ∧ fr [1, 2, 5, 6] E σ σ1 ∧ (True))) 5 245 (th_A b0) := by
  sorry
theorem q_oneYear (l : Launch) (G : va_G) (y : Nat → ClassId) (b0 : Nat) (σ : th_M) (E : th_E) (hO : ok y E σ) (a : Nat) (h_a : kd E a = 12) : Met l yX10_oneYear wsX10_oneYear ({ frames := 6, cells := 5, slots := 245, locals := 210 }) (th_P G y b0 σ [.ref a]) (th_Qi G b0 (fun r σ1 => ∃ E1, ext E E1 ∧ ok y E1 σ1 ∧ fr [1, 2, 5, 6, 9] E σ σ1 ∧ (True))) 5 245 (th_A b0) := by
  sorry
theorem q_add (l : Launch) (G : va_G) (y : Nat → ClassId) (b0 : Nat) (σ : th_M) (E : th_E) (hO : ok y E σ) (a : Nat) (h_a : kd E a = 12) (i : Int) (ri : rng i) (v : Int) (rv : rng v) : Met l yX10_add wsX10_add ({ frames := 6, cells := 5, slots := 245, locals := 193 }) (th_P G y b0 σ [.ref a, .int (I i), .int (I v)]) (th_Qi G b0 (fun r σ1 => ∃ E1, ext E E1 ∧ ok y E1 σ1 ∧ fr [1, 2, 5, 6] E σ σ1 ∧ (True))) 5 245 (th_A b0) := by
  sorry
theorem q_change (l : Launch) (G : va_G) (y : Nat → ClassId) (b0 : Nat) (σ : th_M) (E : th_E) (hO : ok y E σ) (a : Nat) (h_a : kd E a = 12) (i : Int) (ri : rng i) (v : Int) (rv : rng v) : Met l yX10_change wsX10_change ({ frames := 6, cells := 5, slots := 245, locals := 210 }) (th_P G y b0 σ [.ref a, .int (I i), .int (I v)]) (th_Qi G b0 (fun r σ1 => ∃ E1, ext E E1 ∧ ok y E1 σ1 ∧ fr [1, 2, 5, 6] E σ σ1 ∧ (True))) 5 245 (th_A b0) := by
  sorry
theorem q_move (l : Launch) (G : va_G) (y : Nat → ClassId) (b0 : Nat) (σ : th_M) (E : th_E) (hO : ok y E σ) (a : Nat) (h_a : kd E a = 12) (i : Int) (ri : rng i) (j : Int) (rj : rng j) (ky : Int) (rky : rng ky) : Met l yX10_move wsX10_move ({ frames := 5, cells := 5, slots := 245, locals := 179 }) (th_P G y b0 σ [.ref a, .int (I i), .int (I j), .int (I ky)]) (th_Qi G b0 (fun r σ1 => ∃ E1, ext E E1 ∧ ok y E1 σ1 ∧ fr [1, 2, 5, 6] E σ σ1 ∧ (True))) 5 245 (th_A b0) := by
  sorry
theorem q_apply (l : Launch) (G : va_G) (y : Nat → ClassId) (b0 : Nat) (σ : th_M) (E : th_E) (hO : ok y E σ) (a : Nat) (h_a : kd E a = 12) (w : Int) (rw : rng w) (l_w : 0 ≤ w) (u_w : w ≤ 1) : Met l yX10_apply wsX10_apply ({ frames := 64, cells := 5, slots := 245, locals := 1397 }) (th_P G y b0 σ [.ref a, .int (I w)]) (th_Qi G b0 (fun r σ1 => ∃ E1, ext E E1 ∧ ok y E1 σ1 ∧ fr [1, 2, 5, 6] E σ σ1 ∧ (True))) 5 245 (th_A b0) := by
  sorry
set_option maxHeartbeats 1000000 in
set_option maxRecDepth 100000 in
theorem q_image (l : Launch) (G : va_G) (y : Nat → ClassId) (b0 : Nat) (σ : th_M) (E : th_E) (hO : ok y E σ) (a : Nat) (h_a : kd E a = 12) : Met l yX10_image wsX10_image ({ frames := 4, cells := 200, slots := 9800, locals := 139 }) (th_P G y b0 σ [.ref a]) (th_Qv G b0 (fun σ1 => ∃ E1, ext E E1 ∧ ok y E1 σ1 ∧ fr [1, 5, 12] E σ σ1 ∧ ((gI σ1 a 2 = gI σ a 2 ∧ gI σ1 a 1 = gI σ a 1) ∧ aF σ1 (ad E a 0) = aF σ (ad E a 0) ∧ aQ σ1 (ad E a 3) = aQ σ (ad E a 3)))) 200 9800 (th_A b0) := by
  refine Met.ofW (cc := cX10_image) (maxL := 1) (ret := none) (by decide) rfl ?_
  intro p e s m args below meth c s₁ B hml hv
  obtain ⟨rfl, hH, hK⟩ := hv
  have hx := B.exec
  have hb := B.bytes
  have hr := B.returns
  have hts := atoms_spec (ws := wsX10_image) B.pre
  have hown : s.vm.findClass RX10 = some m.cls := findClass_of_methodNamed B.named
  have hlocks := B.notSynchronized
  have h00 : b0 ≤ s.heap.size := hH.1
  have hS : va_S (th_A b0) s.heap s.heap [] := va_S.rf
  have hF : fr [1, 5, 12] E σ σ := fr.rf
  have hX : ext E E := ext.rf
  have inX10 : ∀ w ∈ wsX100, w ∈ wsX10_image := by decide +kernel
  have fl0 := hts (.fieldLink RX10 67 "NestQuery" "imaged" "LNestQuery$State;") (by decide +kernel)
  have fl1 := hts (.fieldLink RX10 63 "NestQuery" "now" "LNestQuery$State;") (by decide +kernel)
  have fl2 := hts (.fieldLink RX10 145 "NestQuery" "imageThere" "Z") (by decide +kernel)
  have hl := lv_entry ([.ref a]) (n := 1) (Nat.le_of_ble_eq_true rfl)
  rw [lg_entry_eq]
  generalize (lg_sl ([.ref a]) ++ List.replicate (1 - (lg_sl ([.ref a])).length) Slot.unset).toArray = ls at hl ⊢
  have hl : lv_has ls 1 [(0, .ref a)] := hl
  obtain ⟨a10, ea10, ra10, la10, ua10⟩ := hO.gi h_a (by decide) k12_1
  obtain ⟨a20, ea20, ra20, la20, ua20⟩ := hO.gi h_a (by decide) k12_2
  obtain ⟨f_1, ef_2⟩ : ∃ f9, aF σ (ad E a 0) = f9 := ⟨_, rfl⟩
  have h0row := ef_2
  obtain ⟨f_3, eq_4⟩ : ∃ f9, aQ σ (ad E a 3) = f9 := ⟨_, rfl⟩
  have h0q := eq_4
  refine lv_aload_n hx hb dX10_image_0 rfl (lv_at hl 0 rfl) ?_
  have hp_5 : kd E (ad E a 10) = 5 := ok.pk hO h_a (by decide) k12_10 rfl
  refine ok.getR hO h_a (by decide) k12_10 (by decide) (fun _ _ he hv kk => th_get (ci := 10) (C := RX10) (T := TX10) (N := 18) hx hb hts inX10 hown hK hH he rfl 10 (by decide) fl0 hv dX10_image_1 kk) ?_
  refine lv_aload_n hx hb dX10_image_4 rfl (lv_at hl 0 rfl) ?_
  have hp_6 : kd E (ad E a 9) = 5 := ok.pk hO h_a (by decide) k12_9 rfl
  refine ok.getR hO h_a (by decide) k12_9 (by decide) (fun _ _ he hv kk => th_get (ci := 10) (C := RX10) (T := TX10) (N := 18) hx hb hts inX10 hown hK hH he rfl 9 (by decide) fl1 hv dX10_image_5 kk) ?_
  obtain ⟨_, hc_7⟩ := hO.cell hp_5 (by decide) (ci := 6) rfl
  refine th_callv (va_runV (As := [.ref (ad E a 9)]) (rest := []) ⟨hx, hb, hml, hown, hts⟩ (e_takeAll l G y b0 σ E hO (ad E a 10) hp_5 (ad E a 9) hp_6) (cwV 1 hts gX10_image_X6_takeAll rfl rfl rfl (by decide +kernel) ⟨Nat.le_of_ble_eq_true rfl, Nat.le_of_ble_eq_true rfl⟩) (th_PV hK hH rfl hc_7) rfl rfl hl.1 rfl (lv_room (Nat.le_of_ble_eq_true rfl)) dX10_image_8 ⟨Nat.le_of_ble_eq_true rfl, Nat.le_of_ble_eq_true rfl⟩) hS (fun σ_s_9 H locs hw_8 hH hS => ?_)
  obtain ⟨E_10, hX9, hO9, hF9, hw_8⟩ := hw_8
  have e_11 : gI σ_s_9 a 1 = a10 := (fr.ki hO hF9 h_a (by decide) (by decide) _).trans ea10
  have e_12 : gI σ_s_9 a 2 = a20 := (fr.ki hO hF9 h_a (by decide) (by decide) _).trans ea20
  have ef_13 : aF σ_s_9 (ad E a 0) = f_1 := (fr.af hO hF9 h_a (by decide) (by decide) k12_0 isA1).trans ef_2
  have eq_14 : aQ σ_s_9 (ad E a 3) = f_3 := (fr.aq hO hF9 h_a (by decide) (by decide) k12_3).trans eq_4
  replace hO := hO9
  replace hF := hF.ex hX hF9 (by decide)
  replace hX := hX.tr hX9
  have hp_15 : kd E_10 a = 12 := hX9.kd2 h_a (by decide)
  have ef_16 : aF σ_s_9 (ad E_10 a 0) = f_1 := by rw [hX9.ad2 h_a (by decide) 0]; exact ef_13
  have ef_17 : aQ σ_s_9 (ad E_10 a 3) = f_3 := by rw [hX9.ad2 h_a (by decide) 3]; exact eq_14
  refine lv_aload_n hx hb dX10_image_11 rfl (lv_at hl 0 rfl) ?_
  refine lv_iconst (v := I 1) hx hb dX10_image_12 (by decide) ?_
  refine ok.putIw hO hp_15 (by decide) k12_11 (show rng 1 from ⟨by decide, by decide⟩) (by omega) (by omega) (fun _ he hl9 kk => th_put (ci := 10) (v := .int (I 1)) (ty := .boolean) (C := RX10) (T := TX10) (N := 18) hx hb hts inX10 tyX10 tyX10_ok nmX10 hown hK hH hS h00 he rfl 11 (by decide) fl2 rfl (by decide +kernel) (nar_z (by omega)) rfl hl9 dX10_image_13 kk) (fun σ_s_18 H locs hO hF9 hg9 hi9 ha9 hu9 hH hS => ?_)
  replace hF := hF.ex hX hF9 (by decide)
  have e_19 : gI σ_s_18 a 1 = a10 := (hi9 _ _ (Or.inr (by decide))).trans e_11
  have e_20 : gI σ_s_18 a 2 = a20 := (hi9 _ _ (Or.inr (by decide))).trans e_12
  have ef_21 : aF σ_s_18 (ad E_10 a 0) = f_1 := (ha9 _).trans ef_16
  have eq_22 : aQ σ_s_18 (ad E_10 a 3) = f_3 := (hu9.q (ok.qo hO hp_15 (by decide) k12_3 (by decide))).trans ef_17
  have e_23 := hg9
  exact th_vret hx hb hr hlocks hH hS ⟨E_10, hX, hO, hF, ⟨by omega, ((congrArg (aF σ_s_18) (hX.ad2 h_a (by decide) 0)).symm.trans (ef_21.trans h0row.symm)), ((congrArg (aQ σ_s_18) (hX.ad2 h_a (by decide) 3)).symm.trans (eq_22.trans h0q.symm))⟩⟩ dX10_image_16

theorem q_restore (l : Launch) (G : va_G) (y : Nat → ClassId) (b0 : Nat) (σ : th_M) (E : th_E) (hO : ok y E σ) (a : Nat) (h_a : kd E a = 12) : Met l yX10_restore wsX10_restore ({ frames := 4, cells := 200, slots := 9800, locals := 139 }) (th_P G y b0 σ [.ref a]) (th_Qi G b0 (fun r σ1 => ∃ E1, ext E E1 ∧ ok y E1 σ1 ∧ fr [1, 5] E σ σ1 ∧ (0 ≤ r ∧ r ≤ 1) ∧ (True))) 200 9800 (th_A b0) := by
  sorry
