set_option maxHeartbeats 4000000 in
set_option maxRecDepth 100000 in
theorem m_things (l : Launch) (G : va_G) (y : Nat → ClassId) (b0 : Nat) (σ : th_M) (E : th_E) (hO : ok y E σ) (a : Nat) (h_a : kd E a = 13) (f1 : Nat → Int32) (ef1 : aF σ (ad E a 1) = f1) : Met l yX11_things wsX11_things ({ frames := 0, cells := 0, slots := 0, locals := 0 }) (th_P G y b0 σ [.ref a]) (th_Qi G b0 (fun r σ1 => σ1 = σ ∧ (r = mS f1 0))) 0 0 (th_A b0) := by
  refine Met.ofW (cc := cX11_things) (maxL := 1) (ret := (some .int)) (by decide) rfl ?_
  intro p e s m args below meth c s₁ B hml hv
  obtain ⟨rfl, hH, hK⟩ := hv
  have hx := B.exec
  have hb := B.bytes
  have hr := B.returns
  have hts := atoms_spec (ws := wsX11_things) B.pre
  have hown : s.vm.findClass RX11 = some m.cls := findClass_of_methodNamed B.named
  have hlocks := B.notSynchronized
  have h00 : b0 ≤ s.heap.size := hH.1
  have hS : va_S (th_A b0) s.heap s.heap [] := va_S.rf
  have inX11 : ∀ w ∈ wsX110, w ∈ wsX11_things := by decide +kernel
  have fl0 := hts (.fieldLink RX11 9 "NestQueryModel" "tree" "[I") (by decide +kernel)
  have hl := lv_entry ([.ref a]) (n := 1) (Nat.le_of_ble_eq_true rfl)
  rw [lg_entry_eq]
  generalize (lg_sl ([.ref a]) ++ List.replicate (1 - (lg_sl ([.ref a])).length) Slot.unset).toArray = ls at hl ⊢
  have hl : lv_has ls 1 [(0, .ref a)] := hl
  refine lv_aload_n hx hb dX11_things_0 rfl (lv_at hl 0 rfl) ?_
  refine ok.getR hO h_a (by decide) k13_1 (by decide) (fun _ _ he hv kk => th_get (ci := 11) (C := RX11) (T := TX11) (N := 66) hx hb hts inX11 hown hK hH he rfl 1 (by decide) fl0 hv dX11_things_1 kk) ?_
  refine lv_iconst (v := I 3) hx hb dX11_things_4 (by decide) ?_
  refine m_iald hx hb hK hH hO h_a k13_1 isA1 ef1 (show rng 3 from ⟨by decide, by decide⟩) (by omega) (by omega) dX11_things_5 (fun z_1 ez_1 rz_1 elx9 => ?_)
  exact th_iret hx hb hr hlocks hH hS (z := z_1) rz_1 ⟨rfl, (show mS f1 0 = z_1 from ez_1).symm⟩ dX11_things_6

