section LAST9
variable {p : Program} {l : Launch} {e : Env} {R : Room} {s : State} {m : MethodId} {args : Array Value} {below : List Frame} {meth : Method} {c : Code} {H H0 : Heap} {locs : List Loc} {cells slots : Nat} {Q : State → Prop} {G : va_G} {y : Nat → ClassId} {b0 : Nat} {σ : th_M} {rest : List Value} {a pc κ k ci : Nat} {n hi : Int} {ls : Array Slot} {cc : ByteArray} {E : th_E}
/-- a row of longs is written: the others stay -/
theorem ok_last9 (hexec : p.tables.exec = Jvm.exec) (hb : c.code = cc) (hK : nq_K G y s) (hH : th_H G b0 σ H) (hS : va_S (th_A b0) H0 H locs) (h00 : b0 ≤ H0.size) (hO : ok y E σ) (ha : kd E a = κ) (hk0 : κ ≠ 0) (hq : kfl κ k = some (ci, 3, n, hi)) {i : Int} {x : Int64} (hr : rng i) (h0 : 0 ≤ i) (hn : i < n) (hdg : decode cc pc = .ok (.lastore, 1))
    (kk : ∀ (σ1 : th_M) (H1 : Heap) (locs1 : List Loc), ok y E σ1 → fr [κ] E σ σ1 → (∀ b j, gI σ1 b j = gI σ b j) → (∀ b, b ≠ ad E a k → aF σ1 b = aF σ b) → th_H G b0 σ1 H1 → va_S (th_A b0) H0 H1 locs1 → W p l e R s m args below meth c H1 locs1 cells slots Q (F0 m (pc + 1) ls rest)) : W p l e R s m args below meth c H locs cells slots Q (F0 m pc ls (.long x :: .int (I i) :: .ref (ad E a k) :: rest)) := by
  obtain ⟨o, f, c1⟩ := hO.arl ha hk0 hq
  obtain ⟨q0, hq0⟩ := hH.pos c1
  refine va_last hexec hb hK.1 hH.P hH.D hS q0 1 hq0 rfl (I_in hr h0 (by omega)) hdg (fun H1 locs1 hP1 _ hS1 => ?_)
  obtain ⟨p1, p2, p3⟩ := hO.putL ha hk0 hq (f := _)
  exact kk _ H1 locs1 p1 p2 p3 (fun b hb9 => aF_up hb9) (hH.set hq0 hP1 (Nat.le_trans h00 hS1.1)) hS1
theorem ok.adl {k2 ci2 cd2 : Nat} {n2 hi2 : Int} (h : ok y E σ) (ha : kd E a = κ) (h0 : κ ≠ 0) (hq : kfl κ k = some (ci, 3, n, hi)) (hq2 : kfl κ k2 = some (ci2, cd2, n2, hi2)) (hd2 : isA cd2) (hn : k2 ≠ k) : ad E a k2 ≠ ad E a k := by
  intro e
  have h1 := (h.arl ha h0 hq).1
  rw [← e, (h.arr ha h0 hq2 hd2).1] at h1
  exact hn (congrArg Prod.snd h1)
end LAST9
