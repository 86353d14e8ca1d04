/-! THE LAW'S METHODS: ou is a row of one long that is the reference's (98) -/
def fx (S : List Nat) (E : th_E) (σ σ1 : th_M) (ou : Nat) : Prop := ∀ x, x ≠ ou → kd E (ow E x).1 ≠ 0 → kd E (ow E x).1 ∉ S → σ1 x = σ x
section OU
variable {y : Nat → ClassId} {E E1 : th_E} {σ σ1 : th_M} {a κ m0 ou : Nat} {S : List Nat}
theorem ow_k (h : ow E ou = (m0, 98)) (hm : kd E m0 = 13) : kd E (ow E ou).1 = 13 := by rw [h]; exact hm
theorem ok.upou (h : ok y E σ) (ho : ow E ou = (m0, 98)) (e : va_E) : ok y E (th_up σ ou e) := by
  intro b hb
  obtain ⟨w, dm, fs, q1, q2, q3⟩ := h b hb
  refine ⟨w, fun x hx => th_up_is (dm x hx), fs, (th_up_ne _ _ (fun e9 => ?_)).trans q1, q2, fun k c v hc hv => (q3 k c v hc hv).kept (fun o => th_up_ne _ _ (fun e9 => ?_))⟩
  · rw [e9, ho] at w
    exact absurd (show (98 : Nat) = 99 from congrArg Prod.snd w) (by decide)
  · rw [e9, ho] at o
    have h1 : 98 = k := congrArg Prod.snd o
    have h2 := (List.getElem?_eq_some_iff.mp hc).1
    have h3 := kt_len (kd E b)
    omega
theorem ok.neou (h : ok y E σ) (ha : kd E a = κ) (h0 : κ ≠ 0) (ho : ow E ou = (m0, 98)) : a ≠ ou := by
  intro e
  have h1 := h.ow0 ha h0
  rw [e, ho] at h1
  exact absurd (show (98 : Nat) = 99 from congrArg Prod.snd h1) (by decide)
theorem ou_ext (hX : ext E E1) (ho : ow E ou = (m0, 98)) (hm : kd E m0 = 13) : ow E1 ou = (m0, 98) := (hX.2 ou (by rw [ow_k ho hm]; decide)).trans ho
end OU
section LOU
variable {p : Program} {l : Launch} {e : Env} {R : Room} {s : State} {m : MethodId} {args : Array Value} {below : List Frame} {meth : Method} {c : Code} {H H0 : Heap} {locs : List Loc} {cells slots : Nat} {Q : State → Prop} {G : va_G} {y : Nat → ClassId} {b0 : Nat} {σ : th_M} {rest : List Value} {pc ou : Nat} {ls : Array Slot} {cc : ByteArray}
theorem th_lou (hexec : p.tables.exec = Jvm.exec) (hb : c.code = cc) (hK : nq_K G y s) (hH : th_H G b0 σ H) (hS : va_S (th_A b0) H0 H locs) (h00 : b0 ≤ H0.size) {f : Nat → Int64} (c1 : σ ou = some (.inl (y 1, 1, .inr (.inl f)))) {x : Int64} (hdg : decode cc pc = .ok (.lastore, 1))
    (kk : ∀ (f1 : Nat → Int64) (H1 : Heap) (locs1 : List Loc), th_H G b0 (th_up σ ou (.inl (y 1, 1, .inr (.inl f1)))) H1 → va_S (th_A b0) H0 H1 locs1 → W p l e R s m args below meth c H1 locs1 cells slots Q (F0 m (pc + 1) ls rest)) : W p l e R s m args below meth c H locs cells slots Q (F0 m pc ls (.long x :: .int (I 0) :: .ref ou :: rest)) := by
  obtain ⟨q0, hq0⟩ := hH.pos c1
  refine va_last hexec hb hK.1 hH.P hH.D hS q0 1 hq0 rfl (I_in (show rng 0 from ⟨by decide, by decide⟩) (by omega) (by omega)) hdg (fun H1 locs1 hP1 _ hS1 => ?_)
  exact kk _ H1 locs1 (hH.set hq0 hP1 (Nat.le_trans h00 hS1.1)) hS1
theorem th_lou9 (hexec : p.tables.exec = Jvm.exec) (hb : c.code = cc) (hK : nq_K G y s) (hH : th_H G b0 σ H) (hS : va_S (th_A b0) H0 H locs) (h00 : b0 ≤ H0.size) {f : Nat → Int64} (c1 : σ ou = some (.inl (y 1, 1, .inr (.inl f)))) {x : Int64} (hdg : decode cc pc = .ok (.lastore, 1))
    (kk : ∀ (f1 : Nat → Int64) (H1 : Heap) (locs1 : List Loc), f1 0 = x → th_H G b0 (th_up σ ou (.inl (y 1, 1, .inr (.inl f1)))) H1 → va_S (th_A b0) H0 H1 locs1 → W p l e R s m args below meth c H1 locs1 cells slots Q (F0 m (pc + 1) ls rest)) : W p l e R s m args below meth c H locs cells slots Q (F0 m pc ls (.long x :: .int (I 0) :: .ref ou :: rest)) := by
  obtain ⟨q0, hq0⟩ := hH.pos c1
  refine va_last hexec hb hK.1 hH.P hH.D hS q0 1 hq0 rfl (I_in (show rng 0 from ⟨by decide, by decide⟩) (by omega) (by omega)) hdg (fun H1 locs1 hP1 _ hS1 => ?_)
  exact kk _ H1 locs1 (by show vp_updL f (I 0).toNatClampNeg x 0 = x; rfl) (hH.set hq0 hP1 (Nat.le_trans h00 hS1.1)) hS1
end LOU
/-- what a call that may read a text leaves: P it has the bytes, S it reads them, G what it finds -/
def rd9 (P S : Prop) (G : tkT → Int → Int → Prop) (f0 f1 : Nat → Int32) (n c0 c1 q0 q1 : Int) (Q0 Q1 : Nat → Option Nat) : Prop := (P → c1 = 0 ∧ (S → ∃ T v p, tkSt (byf f0 n) T ∧ G T v p ∧ q1 = p) ∧ (¬ S → q1 = q0 ∧ Q1 = Q0)) ∧ (¬ P → c1 = c0 ∧ q1 = q0 ∧ f1 = f0 ∧ Q1 = Q0)
/-- what is left of the tape's row: nothing, or the row -/
def rq (f g : Nat → Int32) (c c1 : Int) : Prop := c1 = 0 ∨ (g = f ∧ c1 ≤ c)
section RD9
variable {P S : Prop} {G : tkT → Int → Int → Prop} {f0 f1 : Nat → Int32} {n c0 c1 q0 q1 : Int} {Q0 Q1 : Nat → Option Nat}
theorem rd9.rq (h : rd9 P S G f0 f1 n c0 c1 q0 q1 Q0 Q1) : rq f0 f1 c0 c1 := by
  rcases Classical.em P with h9 | h9
  · exact Or.inl (h.1 h9).1
  · have h8 := h.2 h9
    exact Or.inr ⟨h8.2.2.1, by have h7 := h8.1; omega⟩
theorem rd9.road (h : rd9 P S G f0 f1 n c0 c1 q0 q1 Q0 Q1) : ((P ∧ S) ∧ ∃ T v p, tkSt (byf f0 n) T ∧ G T v p ∧ q1 = p) ∨ (¬ (P ∧ S) ∧ q1 = q0 ∧ Q1 = Q0) := by
  rcases Classical.em P with h9 | h9
  · rcases Classical.em S with h8 | h8
    · exact Or.inl ⟨⟨h9, h8⟩, (h.1 h9).2.1 h8⟩
    · exact Or.inr ⟨fun h7 => h8 h7.2, (h.1 h9).2.2 h8⟩
  · have h8 := h.2 h9
    exact Or.inr ⟨fun h7 => h9 h7.1, h8.2.1, h8.2.2.2⟩
theorem rd9.c (h : rd9 P S G f0 f1 n c0 c1 q0 q1 Q0 Q1) : (P → c1 = 0) ∧ (¬ P → c1 = c0) := ⟨fun h9 => (h.1 h9).1, fun h9 => (h.2 h9).1⟩
end RD9
section NEOR
variable {y : Nat → ClassId} {E : th_E} {σ : th_M} {a κ m0 ou k ci cd : Nat} {n hi lo : Int}
theorem ok.neor (h : ok y E σ) (ha : kd E a = κ) (h0 : κ ≠ 0) (hq : kfl κ k = some (ci, cd, n, hi)) (hd : isA cd) (ho : ow E ou = (m0, 98)) (hk : k ≠ 98) : ad E a k ≠ ou := fun e => by
  have h1 := (h.arr ha h0 hq hd).1
  rw [e, ho] at h1
  exact hk (show (98 : Nat) = k from congrArg Prod.snd h1).symm
theorem ok.neoq (h : ok y E σ) (ha : kd E a = κ) (h0 : κ ≠ 0) (hq : kfl κ k = some (ci, 5, lo, hi)) (ho : ow E ou = (m0, 98)) (hk : k ≠ 98) : ad E a k ≠ ou := fun e => by
  obtain ⟨h1, -⟩ := h.arq ha h0 hq
  rw [e, ho] at h1
  exact hk (show (98 : Nat) = k from congrArg Prod.snd h1).symm
end NEOR
set_option maxHeartbeats 400000 in
set_option maxRecDepth 100000 in
theorem w_tree (l : Launch) (hl0 : l.stackTraces = false) (G : va_G) (y : Nat → ClassId) (b0 : Nat) (σ : th_M) (E : th_E) (hO : ok y E σ) (a : Nat) (h_a : kd E a = 12) (m0 : Nat) (h_m : kd E m0 = 13) (ou : Nat) (h_o : ow E ou = (m0, 98)) (fo : Nat → Int64) (h_f : σ ou = some (.inl (y 1, 1, .inr (.inl fo)))) (n : Int) (rn : rng n) (hy0 : ∀ k : Int, 0 ≤ k → k < gI σ a 1 → 0 ≤ (aF σ (ad E a 0) k.toNat).toInt ∧ (aF σ (ad E a 0) k.toNat).toInt ≤ 255) (hy1 : ad E (ad E a 6) 0 = ad E a 5) : Met l yL_tree wsL_tree ({ frames := 48, cells := 1, slots := 6, locals := 1786 }) (th_PX G y b0 σ [.ref a, .int (I n), .ref ou]) (th_Qi G b0 (fun r σ1 => ∃ E1, ext E E1 ∧ ok y E1 σ1 ∧ fx [12, 5, 3, 1] E σ σ1 ou ∧ (∃ f1 : Nat → Int64, σ1 ou = some (.inl (y 1, 1, .inr (.inl f1)))) ∧ (rd9 (0 ≤ n ∧ n ≤ gI σ a 1) True (fun T v p => TopR T v p ∧ (aQ σ1 (ad E1 a 3)) = (aQ σ (ad E a 3))) (aF σ (ad E a 0)) (aF σ1 (ad E1 a 0)) n (gI σ a 1) (gI σ1 a 1) (gI σ a 2) (gI σ1 a 2) (aQ σ (ad E a 3)) (aQ σ1 (ad E1 a 3))))) 1 6 (th_A b0) := by
  refine va_MetW (cc := cL_tree) (maxL := 4) (ret := (some .int)) (hh := [(0, 9, 12, 13)]) (by decide) rfl ?_
  intro p e s m args below meth c s₁ B hml hv
  obtain ⟨rfl, hH, hK, hXs⟩ := hv
  have hx := B.exec
  have hb := B.bytes
  have hr := B.returns
  have hts := atoms_spec (ws := wsL_tree) B.pre
  have hown : s.vm.findClass RL = some m.cls := findClass_of_methodNamed B.named
  have hlocks := B.notSynchronized
  have htb := vx_table (x := objectInit) (hh := [(0, 9, 12, 13)]) B (hts _ List.mem_cons_self)
  have h00 : b0 ≤ s.heap.size := hH.1
  have hS : va_S (th_A b0) s.heap s.heap [] := va_S.rf
  have hna : a ≠ ou := hO.neou h_a (by decide) h_o
  have hk3 := ow_k h_o h_m
  obtain ⟨_, hc⟩ := hO.cell h_a (by decide) (ci := 10) rfl
  have hl := lv_entry ([.ref a, .int (I n), .ref ou]) (n := 4) (Nat.le_of_ble_eq_true rfl)
  rw [lg_entry_eq]
  generalize (lg_sl ([.ref a, .int (I n), .ref ou]) ++ List.replicate (4 - (lg_sl ([.ref a, .int (I n), .ref ou])).length) Slot.unset).toArray = ls at hl ⊢
  have hl : lv_has ls 4 [(0, .ref a), (1, .int (I n)), (2, .ref ou)] := hl
  refine lv_aload_n hx hb dL_tree_0 rfl (lv_at hl 2 rfl) ?_
  refine lv_iconst (v := I 0) hx hb dL_tree_1 (by decide) ?_
  refine lv_aload_n hx hb dL_tree_2 rfl (lv_at hl 0 rfl) ?_
  refine lv_iload_n hx hb dL_tree_3 rfl (lv_at hl 1 rfl) ?_
  refine th_xcalli (vx_runV (As := [.int (I n)]) (rest := [.int (I 0), .ref ou]) ⟨hx, hb, hml, hown, hts⟩ (x8_tree l hl0 G y b0 σ E hO a h_a n rn hy0 hy1) (cwV 1 hts gL_tree_X10_tree rfl rfl rfl (by decide +kernel) ⟨Nat.le_of_ble_eq_true rfl, Nat.le_of_ble_eq_true rfl⟩) (th_PXV hK hXs hS hH rfl hc) rfl rfl hl.1 rfl (lv_room (Nat.le_of_ble_eq_true rfl)) dL_tree_4 ⟨Nat.le_of_ble_eq_true rfl, Nat.le_of_ble_eq_true rfl⟩) hS (fun X9 ce9 q9 σ1 H locs hx9 hH hS h1 h2 h3 => ?_) (fun z σ1 H locs rz hw hH hS => ?_)
  · obtain ⟨hO1, hF1, hX9, hx9⟩ := hx9
    obtain ⟨E1, hX1, hO1⟩ : ∃ E1, ext E E1 ∧ ok y E1 σ1 := ⟨E, ext.rf, hO1⟩
    have hou : σ1 ou = some (.inl (y 1, 1, .inr (.inl fo))) := (hF1 ou (by rw [hk3]; decide) (by rw [hk3]; decide)).trans h_f
    subst hX9
    refine vx_catch (name := nq_IAE) hown [] (⟨0, 9, 12, 13⟩ : ExceptionTableEntry) [] htb (fun z hz => absurd hz (by simp)) (by decide) (by decide) (hts (.classLink RL 13 nq_IAE) (by decide +kernel)) (hXs.2.2.2.2.1.use) h1 h2 h3 ?_
    refine lv_astore_n (lv' := [(3, .ref q9), (0, .ref a), (1, .int (I n)), (2, .ref ou)]) hx hb dL_tree_12 rfl hl (by decide) rfl (fun ls hl => ?_)
    refine lv_iconst (v := I 1) hx hb dL_tree_13 (by decide) ?_
    refine W.widen (k := 1) (n := 6) (Nat.le_of_ble_eq_true rfl) (Nat.le_of_ble_eq_true rfl) ?_
    exact th_iret hx hb hr hlocks hH hS (z := 1) ⟨by decide, by decide⟩ ⟨E1, hX1, hO1, (fun x _ h0 hs9 => hF1 x h0 hs9), ⟨fo, hou⟩, ⟨fun h9 => absurd h9 hx9.1, fun _ => ⟨hx9.2.1, hx9.2.2.1, (by rw [hX1.ad2 h_a (by decide) 0]; exact hx9.2.2.2.1), (by rw [hX1.ad2 h_a (by decide) 3]; exact hx9.2.2.2.2)⟩⟩⟩ dL_tree_14
  · obtain ⟨hO1, hF1, hw⟩ := hw
    obtain ⟨E1, hX1, hO1⟩ : ∃ E1, ext E E1 ∧ ok y E1 σ1 := ⟨E, ext.rf, hO1⟩
    have hou : σ1 ou = some (.inl (y 1, 1, .inr (.inl fo))) := (hF1 ou (by rw [hk3]; decide) (by rw [hk3]; decide)).trans h_f
    refine lv_i2l (v := _) hx hb dL_tree_7 rfl ?_
    refine th_lou9 hx hb hK hH hS h00 hou dL_tree_8 (fun f1 H locs hf19 hH hS => ?_)
    refine lv_goto (tgt := 15) hx hb dL_tree_9 (by decide) ?_
    refine lv_iconst (v := I 0) hx hb dL_tree_15 (by decide) ?_
    have e1 : gI (th_up σ1 ou (.inl (y 1, 1, .inr (.inl f1)))) a 1 = gI σ1 a 1 := gI_eq (gV_up hna)
    have e2 : gI (th_up σ1 ou (.inl (y 1, 1, .inr (.inl f1)))) a 2 = gI σ1 a 2 := gI_eq (gV_up hna)
    have er : aF (th_up σ1 ou (.inl (y 1, 1, .inr (.inl f1)))) (ad E1 a 0) = aF σ1 (ad E a 0) := by rw [hX1.ad2 h_a (by decide) 0, aF_up (hO.neor h_a (by decide) k12_0 isA1 h_o (by decide))]
    have eq : aQ (th_up σ1 ou (.inl (y 1, 1, .inr (.inl f1)))) (ad E1 a 3) = aQ σ1 (ad E a 3) := by rw [hX1.ad2 h_a (by decide) 3, aQ_up (hO.neoq h_a (by decide) k12_3 h_o (by decide))]
    refine W.widen (k := 1) (n := 6) (Nat.le_of_ble_eq_true rfl) (Nat.le_of_ble_eq_true rfl) ?_
    exact th_iret hx hb hr hlocks hH hS (z := 0) ⟨by decide, by decide⟩ ⟨E1, hX1, hO1.upou (ou_ext hX1 h_o h_m) _, (fun x hne h0 hs9 => (th_up_ne _ _ hne).trans (hF1 x h0 hs9)), ⟨f1, th_up_at _ _ _⟩, ⟨fun _ => ⟨e1.trans hw.1.2, fun _ => (by obtain ⟨T, p, h7, h8, h9⟩ := hw.2.2; exact ⟨T, z, p, h7, ⟨h8, eq.trans hw.2.1⟩, e2.trans h9⟩), fun h9 => absurd trivial h9⟩, fun h9 => absurd hw.1.1 h9⟩⟩ dL_tree_16

set_option maxHeartbeats 400000 in
set_option maxRecDepth 100000 in
theorem w_path (l : Launch) (hl0 : l.stackTraces = false) (G : va_G) (y : Nat → ClassId) (b0 : Nat) (σ : th_M) (E : th_E) (hO : ok y E σ) (a : Nat) (h_a : kd E a = 12) (m0 : Nat) (h_m : kd E m0 = 13) (ou : Nat) (h_o : ow E ou = (m0, 98)) (fo : Nat → Int64) (h_f : σ ou = some (.inl (y 1, 1, .inr (.inl fo)))) (i : Int) (ri : rng i) (n : Int) (rn : rng n) (hy0 : ∀ k : Int, 0 ≤ k → k < gI σ a 1 → 0 ≤ (aF σ (ad E a 0) k.toNat).toInt ∧ (aF σ (ad E a 0) k.toNat).toInt ≤ 255) (hy1 : ad E (ad E a 7) 0 = ad E a 5) : Met l yL_path wsL_path ({ frames := 53, cells := 11, slots := 614, locals := 2035 }) (th_PX G y b0 σ [.ref a, .int (I i), .int (I n), .ref ou]) (th_Qi G b0 (fun r σ1 => ∃ E1, ext E E1 ∧ ok y E1 σ1 ∧ fx [12, 5, 3, 4] E σ σ1 ou ∧ (∃ f1 : Nat → Int64, σ1 ou = some (.inl (y 1, 1, .inr (.inl f1)))) ∧ (rd9 ((0 ≤ i ∧ i ≤ 3) ∧ 0 ≤ n ∧ n ≤ gI σ a 1) True (fun T v p => PthR T v p ∧ (v ≠ 0 → (aQ σ1 (ad E1 a 3)) = (aQ σ (ad E a 3))) ∧ (v = 0 → ∃ u, (aQ σ1 (ad E1 a 3)) = va_up (aQ σ (ad E a 3)) i.toNat (some u))) (aF σ (ad E a 0)) (aF σ1 (ad E1 a 0)) n (gI σ a 1) (gI σ1 a 1) (gI σ a 2) (gI σ1 a 2) (aQ σ (ad E a 3)) (aQ σ1 (ad E1 a 3))))) 11 614 (th_A b0) := by
  refine va_MetW (cc := cL_path) (maxL := 5) (ret := (some .int)) (hh := [(0, 10, 13, 19), (0, 10, 17, 13)]) (by decide) rfl ?_
  intro p e s m args below meth c s₁ B hml hv
  obtain ⟨rfl, hH, hK, hXs⟩ := hv
  have hx := B.exec
  have hb := B.bytes
  have hr := B.returns
  have hts := atoms_spec (ws := wsL_path) B.pre
  have hown : s.vm.findClass RL = some m.cls := findClass_of_methodNamed B.named
  have hlocks := B.notSynchronized
  have htb := vx_table (x := objectInit) (hh := [(0, 10, 13, 19), (0, 10, 17, 13)]) B (hts _ List.mem_cons_self)
  have h00 : b0 ≤ s.heap.size := hH.1
  have hS : va_S (th_A b0) s.heap s.heap [] := va_S.rf
  have hna : a ≠ ou := hO.neou h_a (by decide) h_o
  have hk3 := ow_k h_o h_m
  obtain ⟨_, hc⟩ := hO.cell h_a (by decide) (ci := 10) rfl
  have hl := lv_entry ([.ref a, .int (I i), .int (I n), .ref ou]) (n := 5) (Nat.le_of_ble_eq_true rfl)
  rw [lg_entry_eq]
  generalize (lg_sl ([.ref a, .int (I i), .int (I n), .ref ou]) ++ List.replicate (5 - (lg_sl ([.ref a, .int (I i), .int (I n), .ref ou])).length) Slot.unset).toArray = ls at hl ⊢
  have hl : lv_has ls 5 [(0, .ref a), (1, .int (I i)), (2, .int (I n)), (3, .ref ou)] := hl
  refine lv_aload_n hx hb dL_path_0 rfl (lv_at hl 3 rfl) ?_
  refine lv_iconst (v := I 0) hx hb dL_path_1 (by decide) ?_
  refine lv_aload_n hx hb dL_path_2 rfl (lv_at hl 0 rfl) ?_
  refine lv_iload_n hx hb dL_path_3 rfl (lv_at hl 1 rfl) ?_
  refine lv_iload_n hx hb dL_path_4 rfl (lv_at hl 2 rfl) ?_
  refine th_xcalli (vx_runV (As := [.int (I i), .int (I n)]) (rest := [.int (I 0), .ref ou]) ⟨hx, hb, hml, hown, hts⟩ (x8_path l hl0 G y b0 σ E hO a h_a i ri n rn hy0 hy1) (cwV 2 hts gL_path_X10_path rfl rfl rfl (by decide +kernel) ⟨Nat.le_of_ble_eq_true rfl, Nat.le_of_ble_eq_true rfl⟩) (th_PXV hK hXs hS hH rfl hc) rfl rfl hl.1 rfl (lv_room (Nat.le_of_ble_eq_true rfl)) dL_path_5 ⟨Nat.le_of_ble_eq_true rfl, Nat.le_of_ble_eq_true rfl⟩) hS (fun X9 ce9 q9 σ1 H locs hx9 hH hS h1 h2 h3 => ?_) (fun z σ1 H locs rz hw hH hS => ?_)
  · obtain ⟨E1, hX1, hO1, hF1, hX9, hx9⟩ := hx9
    have hou : σ1 ou = some (.inl (y 1, 1, .inr (.inl fo))) := (hF1 ou (by rw [hk3]; decide) (by rw [hk3]; decide)).trans h_f
    rcases hX9 with ⟨hX9, hx6⟩ | ⟨hX9, hx6⟩
    · subst hX9
      refine vx_catch (name := nq_NSE) hown [] (⟨0, 10, 13, 19⟩ : ExceptionTableEntry) [(⟨0, 10, 17, 13⟩ : ExceptionTableEntry)] htb (fun z hz => absurd hz (by simp)) (by decide) (by decide) (hts (.classLink RL 19 nq_NSE) (by decide +kernel)) (hXs.2.2.2.1.use) h1 h2 h3 ?_
      refine lv_astore (lv' := [(4, .ref q9), (0, .ref a), (1, .int (I i)), (2, .int (I n)), (3, .ref ou)]) hx hb dL_path_13 hl (by decide) rfl (fun ls hl => ?_)
      refine lv_iconst (v := I 1) hx hb dL_path_15 (by decide) ?_
      refine W.widen (k := 11) (n := 614) (Nat.le_of_ble_eq_true rfl) (Nat.le_of_ble_eq_true rfl) ?_
      exact th_iret hx hb hr hlocks hH hS (z := 1) ⟨by decide, by decide⟩ ⟨E1, hX1, hO1, (fun x _ h0 hs9 => hF1 x h0 hs9), ⟨fo, hou⟩, ⟨fun h9 => absurd h9.1 hx6, fun _ => ⟨hx9.1, hx9.2.1, (by rw [hX1.ad2 h_a (by decide) 0]; exact hx9.2.2.1), (by rw [hX1.ad2 h_a (by decide) 3]; exact hx9.2.2.2)⟩⟩⟩ dL_path_16
    · subst hX9
      refine vx_catch (name := nq_IAE) hown [(⟨0, 10, 13, 19⟩ : ExceptionTableEntry)] (⟨0, 10, 17, 13⟩ : ExceptionTableEntry) [] htb (fun z hz => by rw [List.mem_singleton.mp hz]; exact Or.inr ⟨by decide, nq_NSE, hts (.classLink RL 19 nq_NSE) (by decide +kernel), hXs.2.2.2.2.2.1⟩) (by decide) (by decide) (hts (.classLink RL 13 nq_IAE) (by decide +kernel)) (hXs.2.2.2.2.1.use) h1 h2 h3 ?_
      refine lv_astore (lv' := [(4, .ref q9), (0, .ref a), (1, .int (I i)), (2, .int (I n)), (3, .ref ou)]) hx hb dL_path_17 hl (by decide) rfl (fun ls hl => ?_)
      refine lv_iconst (v := I 2) hx hb dL_path_19 (by decide) ?_
      refine W.widen (k := 11) (n := 614) (Nat.le_of_ble_eq_true rfl) (Nat.le_of_ble_eq_true rfl) ?_
      exact th_iret hx hb hr hlocks hH hS (z := 2) ⟨by decide, by decide⟩ ⟨E1, hX1, hO1, (fun x _ h0 hs9 => hF1 x h0 hs9), ⟨fo, hou⟩, ⟨fun h9 => absurd h9.2 hx6.2, fun _ => ⟨hx9.1, hx9.2.1, (by rw [hX1.ad2 h_a (by decide) 0]; exact hx9.2.2.1), (by rw [hX1.ad2 h_a (by decide) 3]; exact hx9.2.2.2)⟩⟩⟩ dL_path_20
  · obtain ⟨E1, hX1, hO1, hF1, hw⟩ := hw
    have hou : σ1 ou = some (.inl (y 1, 1, .inr (.inl fo))) := (hF1 ou (by rw [hk3]; decide) (by rw [hk3]; decide)).trans h_f
    refine lv_i2l (v := _) hx hb dL_path_8 rfl ?_
    refine th_lou9 hx hb hK hH hS h00 hou dL_path_9 (fun f1 H locs hf19 hH hS => ?_)
    refine lv_goto (tgt := 21) hx hb dL_path_10 (by decide) ?_
    refine lv_iconst (v := I 0) hx hb dL_path_21 (by decide) ?_
    have e1 : gI (th_up σ1 ou (.inl (y 1, 1, .inr (.inl f1)))) a 1 = gI σ1 a 1 := gI_eq (gV_up hna)
    have e2 : gI (th_up σ1 ou (.inl (y 1, 1, .inr (.inl f1)))) a 2 = gI σ1 a 2 := gI_eq (gV_up hna)
    have er : aF (th_up σ1 ou (.inl (y 1, 1, .inr (.inl f1)))) (ad E1 a 0) = aF σ1 (ad E a 0) := by rw [hX1.ad2 h_a (by decide) 0, aF_up (hO.neor h_a (by decide) k12_0 isA1 h_o (by decide))]
    have eq : aQ (th_up σ1 ou (.inl (y 1, 1, .inr (.inl f1)))) (ad E1 a 3) = aQ σ1 (ad E a 3) := by rw [hX1.ad2 h_a (by decide) 3, aQ_up (hO.neoq h_a (by decide) k12_3 h_o (by decide))]
    refine W.widen (k := 11) (n := 614) (Nat.le_of_ble_eq_true rfl) (Nat.le_of_ble_eq_true rfl) ?_
    exact th_iret hx hb hr hlocks hH hS (z := 0) ⟨by decide, by decide⟩ ⟨E1, hX1, hO1.upou (ou_ext hX1 h_o h_m) _, (fun x hne h0 hs9 => (th_up_ne _ _ hne).trans (hF1 x h0 hs9)), ⟨f1, th_up_at _ _ _⟩, ⟨fun _ => ⟨e1.trans hw.1.2, fun _ => (by obtain ⟨T, p, h7, h8, h9⟩ := hw.2.2.2; exact ⟨T, z, p, h7, ⟨h8, fun h6 => eq.trans (hw.2.1 h6), fun h6 => (by obtain ⟨u, h5⟩ := hw.2.2.1 h6; exact ⟨u, eq.trans h5⟩)⟩, e2.trans h9⟩), fun h9 => absurd trivial h9⟩, fun h9 => absurd hw.1.1 h9⟩⟩ dL_path_22

set_option maxHeartbeats 400000 in
set_option maxRecDepth 100000 in
theorem w_count (l : Launch) (hl0 : l.stackTraces = false) (G : va_G) (y : Nat → ClassId) (b0 : Nat) (σ : th_M) (E : th_E) (hO : ok y E σ) (a : Nat) (h_a : kd E a = 12) (m0 : Nat) (h_m : kd E m0 = 13) (ou : Nat) (h_o : ow E ou = (m0, 98)) (fo : Nat → Int64) (h_f : σ ou = some (.inl (y 1, 1, .inr (.inl fo)))) (i : Int) (ri : rng i) : Met l yL_count wsL_count ({ frames := 145, cells := 1, slots := 6, locals := 4239 }) (th_PX G y b0 σ [.ref a, .int (I i), .ref ou]) (th_Qi G b0 (fun r σ1 => ∃ E1, ext E E1 ∧ ok y E1 σ1 ∧ fx [12, 7, 1] E σ σ1 ou ∧ (∃ f1 : Nat → Int64, σ1 ou = some (.inl (y 1, 1, .inr (.inl f1)))) ∧ ((gI σ1 a 1 = gI σ a 1 ∧ gI σ1 a 2 = gI σ a 2) ∧ aF σ1 (ad E1 a 0) = aF σ (ad E a 0) ∧ (aQ σ1 (ad E1 a 3)) = (aQ σ (ad E a 3))))) 1 6 (th_A b0) := by
  refine va_MetW (cc := cL_count) (maxL := 4) (ret := (some .int)) (hh := [(0, 9, 12, 19)]) (by decide) rfl ?_
  intro p e s m args below meth c s₁ B hml hv
  obtain ⟨rfl, hH, hK, hXs⟩ := hv
  have hx := B.exec
  have hb := B.bytes
  have hr := B.returns
  have hts := atoms_spec (ws := wsL_count) B.pre
  have hown : s.vm.findClass RL = some m.cls := findClass_of_methodNamed B.named
  have hlocks := B.notSynchronized
  have htb := vx_table (x := objectInit) (hh := [(0, 9, 12, 19)]) B (hts _ List.mem_cons_self)
  have h00 : b0 ≤ s.heap.size := hH.1
  have hS : va_S (th_A b0) s.heap s.heap [] := va_S.rf
  have hna : a ≠ ou := hO.neou h_a (by decide) h_o
  have hk3 := ow_k h_o h_m
  obtain ⟨_, hc⟩ := hO.cell h_a (by decide) (ci := 10) rfl
  have hl := lv_entry ([.ref a, .int (I i), .ref ou]) (n := 4) (Nat.le_of_ble_eq_true rfl)
  rw [lg_entry_eq]
  generalize (lg_sl ([.ref a, .int (I i), .ref ou]) ++ List.replicate (4 - (lg_sl ([.ref a, .int (I i), .ref ou])).length) Slot.unset).toArray = ls at hl ⊢
  have hl : lv_has ls 4 [(0, .ref a), (1, .int (I i)), (2, .ref ou)] := hl
  refine lv_aload_n hx hb dL_count_0 rfl (lv_at hl 2 rfl) ?_
  refine lv_iconst (v := I 0) hx hb dL_count_1 (by decide) ?_
  refine lv_aload_n hx hb dL_count_2 rfl (lv_at hl 0 rfl) ?_
  refine lv_iload_n hx hb dL_count_3 rfl (lv_at hl 1 rfl) ?_
  refine th_xcalli (vx_runV (As := [.int (I i)]) (rest := [.int (I 0), .ref ou]) ⟨hx, hb, hml, hown, hts⟩ (x_count l hl0 G y b0 σ E hO a h_a i ri) (cwV 1 hts gL_count_X10_count rfl rfl rfl (by decide +kernel) ⟨Nat.le_of_ble_eq_true rfl, Nat.le_of_ble_eq_true rfl⟩) (th_PXV hK hXs hS hH rfl hc) rfl rfl hl.1 rfl (lv_room (Nat.le_of_ble_eq_true rfl)) dL_count_4 ⟨Nat.le_of_ble_eq_true rfl, Nat.le_of_ble_eq_true rfl⟩) hS (fun X9 ce9 q9 σ1 H locs hx9 hH hS h1 h2 h3 => ?_) (fun z σ1 H locs rz hw hH hS => ?_)
  · obtain ⟨hO1, hF1, ⟨hX9, hx8⟩, kr, kq⟩ := hx9
    obtain ⟨E1, hX1, hO1⟩ : ∃ E1, ext E E1 ∧ ok y E1 σ1 := ⟨E, ext.rf, hO1⟩
    have hou : σ1 ou = some (.inl (y 1, 1, .inr (.inl fo))) := (hF1 ou (by rw [hk3]; decide) (by rw [hk3]; decide)).trans h_f
    subst hX9
    refine vx_catch (name := nq_NSE) hown [] (⟨0, 9, 12, 19⟩ : ExceptionTableEntry) [] htb (fun z hz => absurd hz (by simp)) (by decide) (by decide) (hts (.classLink RL 19 nq_NSE) (by decide +kernel)) (hXs.2.2.2.1.use) h1 h2 h3 ?_
    refine lv_astore_n (lv' := [(3, .ref q9), (0, .ref a), (1, .int (I i)), (2, .ref ou)]) hx hb dL_count_12 rfl hl (by decide) rfl (fun ls hl => ?_)
    refine lv_iconst (v := I 1) hx hb dL_count_13 (by decide) ?_
    refine W.widen (k := 1) (n := 6) (Nat.le_of_ble_eq_true rfl) (Nat.le_of_ble_eq_true rfl) ?_
    exact th_iret hx hb hr hlocks hH hS (z := 1) ⟨by decide, by decide⟩ ⟨E1, hX1, hO1, (fun x _ h0 hs9 => hF1 x h0 hs9), ⟨fo, hou⟩, ⟨⟨by omega, by omega⟩, (by rw [hX1.ad2 h_a (by decide) 0]; exact kr), (by rw [hX1.ad2 h_a (by decide) 3]; exact kq)⟩⟩ dL_count_14
  · obtain ⟨hO1, hF1, hw, kr, kq⟩ := hw
    obtain ⟨E1, hX1, hO1⟩ : ∃ E1, ext E E1 ∧ ok y E1 σ1 := ⟨E, ext.rf, hO1⟩
    have hou : σ1 ou = some (.inl (y 1, 1, .inr (.inl fo))) := (hF1 ou (by rw [hk3]; decide) (by rw [hk3]; decide)).trans h_f
    refine lv_i2l (v := _) hx hb dL_count_7 rfl ?_
    refine th_lou9 hx hb hK hH hS h00 hou dL_count_8 (fun f1 H locs hf19 hH hS => ?_)
    refine lv_goto (tgt := 15) hx hb dL_count_9 (by decide) ?_
    refine lv_iconst (v := I 0) hx hb dL_count_15 (by decide) ?_
    have e1 : gI (th_up σ1 ou (.inl (y 1, 1, .inr (.inl f1)))) a 1 = gI σ1 a 1 := gI_eq (gV_up hna)
    have e2 : gI (th_up σ1 ou (.inl (y 1, 1, .inr (.inl f1)))) a 2 = gI σ1 a 2 := gI_eq (gV_up hna)
    have er : aF (th_up σ1 ou (.inl (y 1, 1, .inr (.inl f1)))) (ad E1 a 0) = aF σ1 (ad E a 0) := by rw [hX1.ad2 h_a (by decide) 0, aF_up (hO.neor h_a (by decide) k12_0 isA1 h_o (by decide))]
    have eq : aQ (th_up σ1 ou (.inl (y 1, 1, .inr (.inl f1)))) (ad E1 a 3) = aQ σ1 (ad E a 3) := by rw [hX1.ad2 h_a (by decide) 3, aQ_up (hO.neoq h_a (by decide) k12_3 h_o (by decide))]
    refine W.widen (k := 1) (n := 6) (Nat.le_of_ble_eq_true rfl) (Nat.le_of_ble_eq_true rfl) ?_
    exact th_iret hx hb hr hlocks hH hS (z := 0) ⟨by decide, by decide⟩ ⟨E1, hX1, hO1.upou (ou_ext hX1 h_o h_m) _, (fun x hne h0 hs9 => (th_up_ne _ _ hne).trans (hF1 x h0 hs9)), ⟨f1, th_up_at _ _ _⟩, ⟨⟨by omega, by omega⟩, er.trans kr, eq.trans kq⟩⟩ dL_count_16

set_option maxHeartbeats 400000 in
set_option maxRecDepth 100000 in
theorem w_thing (l : Launch) (hl0 : l.stackTraces = false) (G : va_G) (y : Nat → ClassId) (b0 : Nat) (σ : th_M) (E : th_E) (hO : ok y E σ) (a : Nat) (h_a : kd E a = 12) (m0 : Nat) (h_m : kd E m0 = 13) (ou : Nat) (h_o : ow E ou = (m0, 98)) (fo : Nat → Int64) (h_f : σ ou = some (.inl (y 1, 1, .inr (.inl fo)))) (i : Int) (ri : rng i) (j : Int) (rj : rng j) : Met l yL_thing wsL_thing ({ frames := 63, cells := 2, slots := 12, locals := 1367 }) (th_PX G y b0 σ [.ref a, .int (I i), .int (I j), .ref ou]) (th_Qi G b0 (fun r σ1 => ∃ E1, ext E E1 ∧ ok y E1 σ1 ∧ fx [12] E σ σ1 ou ∧ (∃ f1 : Nat → Int64, σ1 ou = some (.inl (y 1, 1, .inr (.inl f1)))) ∧ ((gI σ1 a 1 = gI σ a 1 ∧ gI σ1 a 2 = gI σ a 2) ∧ aF σ1 (ad E1 a 0) = aF σ (ad E a 0) ∧ (aQ σ1 (ad E1 a 3)) = (aQ σ (ad E a 3))))) 2 12 (th_A b0) := by
  refine va_MetW (cc := cL_thing) (maxL := 5) (ret := (some .int)) (hh := [(0, 10, 13, 19)]) (by decide) rfl ?_
  intro p e s m args below meth c s₁ B hml hv
  obtain ⟨rfl, hH, hK, hXs⟩ := hv
  have hx := B.exec
  have hb := B.bytes
  have hr := B.returns
  have hts := atoms_spec (ws := wsL_thing) B.pre
  have hown : s.vm.findClass RL = some m.cls := findClass_of_methodNamed B.named
  have hlocks := B.notSynchronized
  have htb := vx_table (x := objectInit) (hh := [(0, 10, 13, 19)]) B (hts _ List.mem_cons_self)
  have h00 : b0 ≤ s.heap.size := hH.1
  have hS : va_S (th_A b0) s.heap s.heap [] := va_S.rf
  have hna : a ≠ ou := hO.neou h_a (by decide) h_o
  have hk3 := ow_k h_o h_m
  obtain ⟨_, hc⟩ := hO.cell h_a (by decide) (ci := 10) rfl
  have hl := lv_entry ([.ref a, .int (I i), .int (I j), .ref ou]) (n := 5) (Nat.le_of_ble_eq_true rfl)
  rw [lg_entry_eq]
  generalize (lg_sl ([.ref a, .int (I i), .int (I j), .ref ou]) ++ List.replicate (5 - (lg_sl ([.ref a, .int (I i), .int (I j), .ref ou])).length) Slot.unset).toArray = ls at hl ⊢
  have hl : lv_has ls 5 [(0, .ref a), (1, .int (I i)), (2, .int (I j)), (3, .ref ou)] := hl
  refine lv_aload_n hx hb dL_thing_0 rfl (lv_at hl 3 rfl) ?_
  refine lv_iconst (v := I 0) hx hb dL_thing_1 (by decide) ?_
  refine lv_aload_n hx hb dL_thing_2 rfl (lv_at hl 0 rfl) ?_
  refine lv_iload_n hx hb dL_thing_3 rfl (lv_at hl 1 rfl) ?_
  refine lv_iload_n hx hb dL_thing_4 rfl (lv_at hl 2 rfl) ?_
  refine th_xcalli (vx_runV (As := [.int (I i), .int (I j)]) (rest := [.int (I 0), .ref ou]) ⟨hx, hb, hml, hown, hts⟩ (x_thing l hl0 G y b0 σ E hO a h_a i ri j rj) (cwV 2 hts gL_thing_X10_thing rfl rfl rfl (by decide +kernel) ⟨Nat.le_of_ble_eq_true rfl, Nat.le_of_ble_eq_true rfl⟩) (th_PXV hK hXs hS hH rfl hc) rfl rfl hl.1 rfl (lv_room (Nat.le_of_ble_eq_true rfl)) dL_thing_5 ⟨Nat.le_of_ble_eq_true rfl, Nat.le_of_ble_eq_true rfl⟩) hS (fun X9 ce9 q9 σ1 H locs hx9 hH hS h1 h2 h3 => ?_) (fun z σ1 H locs rz hw hH hS => ?_)
  · obtain ⟨hO1, hF1, ⟨hX9, hx8⟩, kr, kq⟩ := hx9
    obtain ⟨E1, hX1, hO1⟩ : ∃ E1, ext E E1 ∧ ok y E1 σ1 := ⟨E, ext.rf, hO1⟩
    have hou : σ1 ou = some (.inl (y 1, 1, .inr (.inl fo))) := (hF1 ou (by rw [hk3]; decide) (by rw [hk3]; decide)).trans h_f
    subst hX9
    refine vx_catch (name := nq_NSE) hown [] (⟨0, 10, 13, 19⟩ : ExceptionTableEntry) [] htb (fun z hz => absurd hz (by simp)) (by decide) (by decide) (hts (.classLink RL 19 nq_NSE) (by decide +kernel)) (hXs.2.2.2.1.use) h1 h2 h3 ?_
    refine lv_astore (lv' := [(4, .ref q9), (0, .ref a), (1, .int (I i)), (2, .int (I j)), (3, .ref ou)]) hx hb dL_thing_13 hl (by decide) rfl (fun ls hl => ?_)
    refine lv_iconst (v := I 1) hx hb dL_thing_15 (by decide) ?_
    refine W.widen (k := 2) (n := 12) (Nat.le_of_ble_eq_true rfl) (Nat.le_of_ble_eq_true rfl) ?_
    exact th_iret hx hb hr hlocks hH hS (z := 1) ⟨by decide, by decide⟩ ⟨E1, hX1, hO1, (fun x _ h0 hs9 => hF1 x h0 hs9), ⟨fo, hou⟩, ⟨⟨by omega, by omega⟩, (by rw [hX1.ad2 h_a (by decide) 0]; exact kr), (by rw [hX1.ad2 h_a (by decide) 3]; exact kq)⟩⟩ dL_thing_16
  · obtain ⟨hO1, hF1, hw, kr, kq⟩ := hw
    obtain ⟨E1, hX1, hO1⟩ : ∃ E1, ext E E1 ∧ ok y E1 σ1 := ⟨E, ext.rf, hO1⟩
    have hou : σ1 ou = some (.inl (y 1, 1, .inr (.inl fo))) := (hF1 ou (by rw [hk3]; decide) (by rw [hk3]; decide)).trans h_f
    refine lv_i2l (v := _) hx hb dL_thing_8 rfl ?_
    refine th_lou9 hx hb hK hH hS h00 hou dL_thing_9 (fun f1 H locs hf19 hH hS => ?_)
    refine lv_goto (tgt := 17) hx hb dL_thing_10 (by decide) ?_
    refine lv_iconst (v := I 0) hx hb dL_thing_17 (by decide) ?_
    have e1 : gI (th_up σ1 ou (.inl (y 1, 1, .inr (.inl f1)))) a 1 = gI σ1 a 1 := gI_eq (gV_up hna)
    have e2 : gI (th_up σ1 ou (.inl (y 1, 1, .inr (.inl f1)))) a 2 = gI σ1 a 2 := gI_eq (gV_up hna)
    have er : aF (th_up σ1 ou (.inl (y 1, 1, .inr (.inl f1)))) (ad E1 a 0) = aF σ1 (ad E a 0) := by rw [hX1.ad2 h_a (by decide) 0, aF_up (hO.neor h_a (by decide) k12_0 isA1 h_o (by decide))]
    have eq : aQ (th_up σ1 ou (.inl (y 1, 1, .inr (.inl f1)))) (ad E1 a 3) = aQ σ1 (ad E a 3) := by rw [hX1.ad2 h_a (by decide) 3, aQ_up (hO.neoq h_a (by decide) k12_3 h_o (by decide))]
    refine W.widen (k := 2) (n := 12) (Nat.le_of_ble_eq_true rfl) (Nat.le_of_ble_eq_true rfl) ?_
    exact th_iret hx hb hr hlocks hH hS (z := 0) ⟨by decide, by decide⟩ ⟨E1, hX1, hO1.upou (ou_ext hX1 h_o h_m) _, (fun x hne h0 hs9 => (th_up_ne _ _ hne).trans (hF1 x h0 hs9)), ⟨f1, th_up_at _ _ _⟩, ⟨⟨by omega, by omega⟩, er.trans kr, eq.trans kq⟩⟩ dL_thing_18

set_option maxHeartbeats 400000 in
set_option maxRecDepth 100000 in
theorem w_within (l : Launch) (hl0 : l.stackTraces = false) (G : va_G) (y : Nat → ClassId) (b0 : Nat) (σ : th_M) (E : th_E) (hO : ok y E σ) (a : Nat) (h_a : kd E a = 12) (m0 : Nat) (h_m : kd E m0 = 13) (ou : Nat) (h_o : ow E ou = (m0, 98)) (fo : Nat → Int64) (h_f : σ ou = some (.inl (y 1, 1, .inr (.inl fo)))) (i : Int) (ri : rng i) (j : Int) (rj : rng j) : Met l yL_within wsL_within ({ frames := 8, cells := 2, slots := 12, locals := 152 }) (th_PX G y b0 σ [.ref a, .int (I i), .int (I j), .ref ou]) (th_Qi G b0 (fun r σ1 => ∃ E1, ext E E1 ∧ ok y E1 σ1 ∧ fx [] E σ σ1 ou ∧ (∃ f1 : Nat → Int64, σ1 ou = some (.inl (y 1, 1, .inr (.inl f1)))) ∧ ((gI σ1 a 1 = gI σ a 1 ∧ gI σ1 a 2 = gI σ a 2) ∧ aF σ1 (ad E1 a 0) = aF σ (ad E a 0) ∧ (aQ σ1 (ad E1 a 3)) = (aQ σ (ad E a 3))))) 2 12 (th_A b0) := by
  refine va_MetW (cc := cL_within) (maxL := 5) (ret := (some .int)) (hh := [(0, 10, 13, 19)]) (by decide) rfl ?_
  intro p e s m args below meth c s₁ B hml hv
  obtain ⟨rfl, hH, hK, hXs⟩ := hv
  have hx := B.exec
  have hb := B.bytes
  have hr := B.returns
  have hts := atoms_spec (ws := wsL_within) B.pre
  have hown : s.vm.findClass RL = some m.cls := findClass_of_methodNamed B.named
  have hlocks := B.notSynchronized
  have htb := vx_table (x := objectInit) (hh := [(0, 10, 13, 19)]) B (hts _ List.mem_cons_self)
  have h00 : b0 ≤ s.heap.size := hH.1
  have hS : va_S (th_A b0) s.heap s.heap [] := va_S.rf
  have hna : a ≠ ou := hO.neou h_a (by decide) h_o
  have hk3 := ow_k h_o h_m
  obtain ⟨_, hc⟩ := hO.cell h_a (by decide) (ci := 10) rfl
  have hl := lv_entry ([.ref a, .int (I i), .int (I j), .ref ou]) (n := 5) (Nat.le_of_ble_eq_true rfl)
  rw [lg_entry_eq]
  generalize (lg_sl ([.ref a, .int (I i), .int (I j), .ref ou]) ++ List.replicate (5 - (lg_sl ([.ref a, .int (I i), .int (I j), .ref ou])).length) Slot.unset).toArray = ls at hl ⊢
  have hl : lv_has ls 5 [(0, .ref a), (1, .int (I i)), (2, .int (I j)), (3, .ref ou)] := hl
  refine lv_aload_n hx hb dL_within_0 rfl (lv_at hl 3 rfl) ?_
  refine lv_iconst (v := I 0) hx hb dL_within_1 (by decide) ?_
  refine lv_aload_n hx hb dL_within_2 rfl (lv_at hl 0 rfl) ?_
  refine lv_iload_n hx hb dL_within_3 rfl (lv_at hl 1 rfl) ?_
  refine lv_iload_n hx hb dL_within_4 rfl (lv_at hl 2 rfl) ?_
  refine th_xcalli (vx_runV (As := [.int (I i), .int (I j)]) (rest := [.int (I 0), .ref ou]) ⟨hx, hb, hml, hown, hts⟩ (x_within l hl0 G y b0 σ E hO a h_a i ri j rj) (cwV 2 hts gL_within_X10_within rfl rfl rfl (by decide +kernel) ⟨Nat.le_of_ble_eq_true rfl, Nat.le_of_ble_eq_true rfl⟩) (th_PXV hK hXs hS hH rfl hc) rfl rfl hl.1 rfl (lv_room (Nat.le_of_ble_eq_true rfl)) dL_within_5 ⟨Nat.le_of_ble_eq_true rfl, Nat.le_of_ble_eq_true rfl⟩) hS (fun X9 ce9 q9 σ1 H locs hx9 hH hS h1 h2 h3 => ?_) (fun z σ1 H locs rz hw hH hS => ?_)
  · obtain ⟨hO1, hF1, hX9, hx8⟩ := hx9
    obtain ⟨E1, hX1, hO1⟩ : ∃ E1, ext E E1 ∧ ok y E1 σ1 := ⟨E, ext.rf, hO1⟩
    have hou : σ1 ou = some (.inl (y 1, 1, .inr (.inl fo))) := (hF1 ou (by rw [hk3]; decide) (by rw [hk3]; decide)).trans h_f
    have k2 := fr.ki hO hF1 h_a (by decide) (by decide) 2
    have kr := fr.af hO hF1 h_a (by decide) (by decide) k12_0 isA1
    have kq := fr.aq hO hF1 h_a (by decide) (by decide) k12_3
    subst hX9
    refine vx_catch (name := nq_NSE) hown [] (⟨0, 10, 13, 19⟩ : ExceptionTableEntry) [] htb (fun z hz => absurd hz (by simp)) (by decide) (by decide) (hts (.classLink RL 19 nq_NSE) (by decide +kernel)) (hXs.2.2.2.1.use) h1 h2 h3 ?_
    refine lv_astore (lv' := [(4, .ref q9), (0, .ref a), (1, .int (I i)), (2, .int (I j)), (3, .ref ou)]) hx hb dL_within_13 hl (by decide) rfl (fun ls hl => ?_)
    refine lv_iconst (v := I 1) hx hb dL_within_15 (by decide) ?_
    refine W.widen (k := 2) (n := 12) (Nat.le_of_ble_eq_true rfl) (Nat.le_of_ble_eq_true rfl) ?_
    exact th_iret hx hb hr hlocks hH hS (z := 1) ⟨by decide, by decide⟩ ⟨E1, hX1, hO1, (fun x _ h0 hs9 => hF1 x h0 hs9), ⟨fo, hou⟩, ⟨⟨by omega, by omega⟩, (by rw [hX1.ad2 h_a (by decide) 0]; exact kr), (by rw [hX1.ad2 h_a (by decide) 3]; exact kq)⟩⟩ dL_within_16
  · obtain ⟨hO1, hF1, hw⟩ := hw
    obtain ⟨E1, hX1, hO1⟩ : ∃ E1, ext E E1 ∧ ok y E1 σ1 := ⟨E, ext.rf, hO1⟩
    have hou : σ1 ou = some (.inl (y 1, 1, .inr (.inl fo))) := (hF1 ou (by rw [hk3]; decide) (by rw [hk3]; decide)).trans h_f
    have k2 := fr.ki hO hF1 h_a (by decide) (by decide) 2
    have kr := fr.af hO hF1 h_a (by decide) (by decide) k12_0 isA1
    have kq := fr.aq hO hF1 h_a (by decide) (by decide) k12_3
    refine lv_i2l (v := _) hx hb dL_within_8 rfl ?_
    refine th_lou9 hx hb hK hH hS h00 hou dL_within_9 (fun f1 H locs hf19 hH hS => ?_)
    refine lv_goto (tgt := 17) hx hb dL_within_10 (by decide) ?_
    refine lv_iconst (v := I 0) hx hb dL_within_17 (by decide) ?_
    have e1 : gI (th_up σ1 ou (.inl (y 1, 1, .inr (.inl f1)))) a 1 = gI σ1 a 1 := gI_eq (gV_up hna)
    have e2 : gI (th_up σ1 ou (.inl (y 1, 1, .inr (.inl f1)))) a 2 = gI σ1 a 2 := gI_eq (gV_up hna)
    have er : aF (th_up σ1 ou (.inl (y 1, 1, .inr (.inl f1)))) (ad E1 a 0) = aF σ1 (ad E a 0) := by rw [hX1.ad2 h_a (by decide) 0, aF_up (hO.neor h_a (by decide) k12_0 isA1 h_o (by decide))]
    have eq : aQ (th_up σ1 ou (.inl (y 1, 1, .inr (.inl f1)))) (ad E1 a 3) = aQ σ1 (ad E a 3) := by rw [hX1.ad2 h_a (by decide) 3, aQ_up (hO.neoq h_a (by decide) k12_3 h_o (by decide))]
    refine W.widen (k := 2) (n := 12) (Nat.le_of_ble_eq_true rfl) (Nat.le_of_ble_eq_true rfl) ?_
    exact th_iret hx hb hr hlocks hH hS (z := 0) ⟨by decide, by decide⟩ ⟨E1, hX1, hO1.upou (ou_ext hX1 h_o h_m) _, (fun x hne h0 hs9 => (th_up_ne _ _ hne).trans (hF1 x h0 hs9)), ⟨f1, th_up_at _ _ _⟩, ⟨⟨by omega, by omega⟩, er.trans kr, eq.trans kq⟩⟩ dL_within_18

set_option maxHeartbeats 400000 in
set_option maxRecDepth 100000 in
theorem w_told (l : Launch) (hl0 : l.stackTraces = false) (G : va_G) (y : Nat → ClassId) (b0 : Nat) (σ : th_M) (E : th_E) (hO : ok y E σ) (a : Nat) (h_a : kd E a = 12) (m0 : Nat) (h_m : kd E m0 = 13) (ou : Nat) (h_o : ow E ou = (m0, 98)) (fo : Nat → Int64) (h_f : σ ou = some (.inl (y 1, 1, .inr (.inl fo)))) (i : Int) (ri : rng i) (w : Int) (rw : rng w) (l_w : 0 ≤ w) (u_w : w ≤ 1) (j : Int) (rj : rng j) : Met l yL_told wsL_told ({ frames := 82, cells := 2, slots := 12, locals := 2455 }) (th_PX G y b0 σ [.ref a, .int (I i), .int (I w), .int (I j), .ref ou]) (th_Qi G b0 (fun r σ1 => ∃ E1, ext E E1 ∧ ok y E1 σ1 ∧ fx [8] E σ σ1 ou ∧ (∃ f1 : Nat → Int64, σ1 ou = some (.inl (y 1, 1, .inr (.inl f1)))) ∧ ((gI σ1 a 1 = gI σ a 1 ∧ gI σ1 a 2 = gI σ a 2) ∧ aF σ1 (ad E1 a 0) = aF σ (ad E a 0) ∧ (aQ σ1 (ad E1 a 3)) = (aQ σ (ad E a 3))))) 2 12 (th_A b0) := by
  refine va_MetW (cc := cL_told) (maxL := 6) (ret := (some .int)) (hh := [(0, 12, 15, 19)]) (by decide) rfl ?_
  intro p e s m args below meth c s₁ B hml hv
  obtain ⟨rfl, hH, hK, hXs⟩ := hv
  have hx := B.exec
  have hb := B.bytes
  have hr := B.returns
  have hts := atoms_spec (ws := wsL_told) B.pre
  have hown : s.vm.findClass RL = some m.cls := findClass_of_methodNamed B.named
  have hlocks := B.notSynchronized
  have htb := vx_table (x := objectInit) (hh := [(0, 12, 15, 19)]) B (hts _ List.mem_cons_self)
  have h00 : b0 ≤ s.heap.size := hH.1
  have hS : va_S (th_A b0) s.heap s.heap [] := va_S.rf
  have hna : a ≠ ou := hO.neou h_a (by decide) h_o
  have hk3 := ow_k h_o h_m
  obtain ⟨_, hc⟩ := hO.cell h_a (by decide) (ci := 10) rfl
  have hl := lv_entry ([.ref a, .int (I i), .int (I w), .int (I j), .ref ou]) (n := 6) (Nat.le_of_ble_eq_true rfl)
  rw [lg_entry_eq]
  generalize (lg_sl ([.ref a, .int (I i), .int (I w), .int (I j), .ref ou]) ++ List.replicate (6 - (lg_sl ([.ref a, .int (I i), .int (I w), .int (I j), .ref ou])).length) Slot.unset).toArray = ls at hl ⊢
  have hl : lv_has ls 6 [(0, .ref a), (1, .int (I i)), (2, .int (I w)), (3, .int (I j)), (4, .ref ou)] := hl
  refine lv_aload hx hb dL_told_0 (lv_at hl 4 rfl) ?_
  refine lv_iconst (v := I 0) hx hb dL_told_2 (by decide) ?_
  refine lv_aload_n hx hb dL_told_3 rfl (lv_at hl 0 rfl) ?_
  refine lv_iload_n hx hb dL_told_4 rfl (lv_at hl 1 rfl) ?_
  refine lv_iload_n hx hb dL_told_5 rfl (lv_at hl 2 rfl) ?_
  refine lv_iload_n hx hb dL_told_6 rfl (lv_at hl 3 rfl) ?_
  refine th_xcalli (vx_runV (As := [.int (I i), .int (I w), .int (I j)]) (rest := [.int (I 0), .ref ou]) ⟨hx, hb, hml, hown, hts⟩ (x_told l hl0 G y b0 σ E hO a h_a i ri w rw l_w u_w j rj) (cwV 3 hts gL_told_X10_told rfl rfl rfl (by decide +kernel) ⟨Nat.le_of_ble_eq_true rfl, Nat.le_of_ble_eq_true rfl⟩) (th_PXV hK hXs hS hH rfl hc) rfl rfl hl.1 rfl (lv_room (Nat.le_of_ble_eq_true rfl)) dL_told_7 ⟨Nat.le_of_ble_eq_true rfl, Nat.le_of_ble_eq_true rfl⟩) hS (fun X9 ce9 q9 σ1 H locs hx9 hH hS h1 h2 h3 => ?_) (fun z σ1 H locs rz hw hH hS => ?_)
  · obtain ⟨hO1, hF1, hX9, hx8⟩ := hx9
    obtain ⟨E1, hX1, hO1⟩ : ∃ E1, ext E E1 ∧ ok y E1 σ1 := ⟨E, ext.rf, hO1⟩
    have hou : σ1 ou = some (.inl (y 1, 1, .inr (.inl fo))) := (hF1 ou (by rw [hk3]; decide) (by rw [hk3]; decide)).trans h_f
    have k2 := fr.ki hO hF1 h_a (by decide) (by decide) 2
    have kr := fr.af hO hF1 h_a (by decide) (by decide) k12_0 isA1
    have kq := fr.aq hO hF1 h_a (by decide) (by decide) k12_3
    subst hX9
    refine vx_catch (name := nq_NSE) hown [] (⟨0, 12, 15, 19⟩ : ExceptionTableEntry) [] htb (fun z hz => absurd hz (by simp)) (by decide) (by decide) (hts (.classLink RL 19 nq_NSE) (by decide +kernel)) (hXs.2.2.2.1.use) h1 h2 h3 ?_
    refine lv_astore (lv' := [(5, .ref q9), (0, .ref a), (1, .int (I i)), (2, .int (I w)), (3, .int (I j)), (4, .ref ou)]) hx hb dL_told_15 hl (by decide) rfl (fun ls hl => ?_)
    refine lv_iconst (v := I 1) hx hb dL_told_17 (by decide) ?_
    refine W.widen (k := 2) (n := 12) (Nat.le_of_ble_eq_true rfl) (Nat.le_of_ble_eq_true rfl) ?_
    exact th_iret hx hb hr hlocks hH hS (z := 1) ⟨by decide, by decide⟩ ⟨E1, hX1, hO1, (fun x _ h0 hs9 => hF1 x h0 hs9), ⟨fo, hou⟩, ⟨⟨by omega, by omega⟩, (by rw [hX1.ad2 h_a (by decide) 0]; exact kr), (by rw [hX1.ad2 h_a (by decide) 3]; exact kq)⟩⟩ dL_told_18
  · obtain ⟨hO1, hF1, hw⟩ := hw
    obtain ⟨E1, hX1, hO1⟩ : ∃ E1, ext E E1 ∧ ok y E1 σ1 := ⟨E, ext.rf, hO1⟩
    have hou : σ1 ou = some (.inl (y 1, 1, .inr (.inl fo))) := (hF1 ou (by rw [hk3]; decide) (by rw [hk3]; decide)).trans h_f
    have k2 := fr.ki hO hF1 h_a (by decide) (by decide) 2
    have kr := fr.af hO hF1 h_a (by decide) (by decide) k12_0 isA1
    have kq := fr.aq hO hF1 h_a (by decide) (by decide) k12_3
    refine lv_i2l (v := _) hx hb dL_told_10 rfl ?_
    refine th_lou9 hx hb hK hH hS h00 hou dL_told_11 (fun f1 H locs hf19 hH hS => ?_)
    refine lv_goto (tgt := 19) hx hb dL_told_12 (by decide) ?_
    refine lv_iconst (v := I 0) hx hb dL_told_19 (by decide) ?_
    have e1 : gI (th_up σ1 ou (.inl (y 1, 1, .inr (.inl f1)))) a 1 = gI σ1 a 1 := gI_eq (gV_up hna)
    have e2 : gI (th_up σ1 ou (.inl (y 1, 1, .inr (.inl f1)))) a 2 = gI σ1 a 2 := gI_eq (gV_up hna)
    have er : aF (th_up σ1 ou (.inl (y 1, 1, .inr (.inl f1)))) (ad E1 a 0) = aF σ1 (ad E a 0) := by rw [hX1.ad2 h_a (by decide) 0, aF_up (hO.neor h_a (by decide) k12_0 isA1 h_o (by decide))]
    have eq : aQ (th_up σ1 ou (.inl (y 1, 1, .inr (.inl f1)))) (ad E1 a 3) = aQ σ1 (ad E a 3) := by rw [hX1.ad2 h_a (by decide) 3, aQ_up (hO.neoq h_a (by decide) k12_3 h_o (by decide))]
    refine W.widen (k := 2) (n := 12) (Nat.le_of_ble_eq_true rfl) (Nat.le_of_ble_eq_true rfl) ?_
    exact th_iret hx hb hr hlocks hH hS (z := 0) ⟨by decide, by decide⟩ ⟨E1, hX1, hO1.upou (ou_ext hX1 h_o h_m) _, (fun x hne h0 hs9 => (th_up_ne _ _ hne).trans (hF1 x h0 hs9)), ⟨f1, th_up_at _ _ _⟩, ⟨⟨by omega, by omega⟩, er.trans kr, eq.trans kq⟩⟩ dL_told_20

set_option maxHeartbeats 400000 in
set_option maxRecDepth 100000 in
theorem w_alike (l : Launch) (hl0 : l.stackTraces = false) (G : va_G) (y : Nat → ClassId) (b0 : Nat) (σ : th_M) (E : th_E) (hO : ok y E σ) (a : Nat) (h_a : kd E a = 12) (m0 : Nat) (h_m : kd E m0 = 13) (ou : Nat) (h_o : ow E ou = (m0, 98)) (fo : Nat → Int64) (h_f : σ ou = some (.inl (y 1, 1, .inr (.inl fo)))) (i : Int) (ri : rng i) (j : Int) (rj : rng j) : Met l yL_alike wsL_alike ({ frames := 62, cells := 2, slots := 12, locals := 1340 }) (th_PX G y b0 σ [.ref a, .int (I i), .int (I j), .ref ou]) (th_Qi G b0 (fun r σ1 => ∃ E1, ext E E1 ∧ ok y E1 σ1 ∧ fx [] E σ σ1 ou ∧ (∃ f1 : Nat → Int64, σ1 ou = some (.inl (y 1, 1, .inr (.inl f1)))) ∧ ((gI σ1 a 1 = gI σ a 1 ∧ gI σ1 a 2 = gI σ a 2) ∧ aF σ1 (ad E1 a 0) = aF σ (ad E a 0) ∧ (aQ σ1 (ad E1 a 3)) = (aQ σ (ad E a 3))))) 2 12 (th_A b0) := by
  refine va_MetW (cc := cL_alike) (maxL := 5) (ret := (some .int)) (hh := [(0, 10, 13, 19)]) (by decide) rfl ?_
  intro p e s m args below meth c s₁ B hml hv
  obtain ⟨rfl, hH, hK, hXs⟩ := hv
  have hx := B.exec
  have hb := B.bytes
  have hr := B.returns
  have hts := atoms_spec (ws := wsL_alike) B.pre
  have hown : s.vm.findClass RL = some m.cls := findClass_of_methodNamed B.named
  have hlocks := B.notSynchronized
  have htb := vx_table (x := objectInit) (hh := [(0, 10, 13, 19)]) B (hts _ List.mem_cons_self)
  have h00 : b0 ≤ s.heap.size := hH.1
  have hS : va_S (th_A b0) s.heap s.heap [] := va_S.rf
  have hna : a ≠ ou := hO.neou h_a (by decide) h_o
  have hk3 := ow_k h_o h_m
  obtain ⟨_, hc⟩ := hO.cell h_a (by decide) (ci := 10) rfl
  have hl := lv_entry ([.ref a, .int (I i), .int (I j), .ref ou]) (n := 5) (Nat.le_of_ble_eq_true rfl)
  rw [lg_entry_eq]
  generalize (lg_sl ([.ref a, .int (I i), .int (I j), .ref ou]) ++ List.replicate (5 - (lg_sl ([.ref a, .int (I i), .int (I j), .ref ou])).length) Slot.unset).toArray = ls at hl ⊢
  have hl : lv_has ls 5 [(0, .ref a), (1, .int (I i)), (2, .int (I j)), (3, .ref ou)] := hl
  refine lv_aload_n hx hb dL_alike_0 rfl (lv_at hl 3 rfl) ?_
  refine lv_iconst (v := I 0) hx hb dL_alike_1 (by decide) ?_
  refine lv_aload_n hx hb dL_alike_2 rfl (lv_at hl 0 rfl) ?_
  refine lv_iload_n hx hb dL_alike_3 rfl (lv_at hl 1 rfl) ?_
  refine lv_iload_n hx hb dL_alike_4 rfl (lv_at hl 2 rfl) ?_
  refine th_xcalli (vx_runV (As := [.int (I i), .int (I j)]) (rest := [.int (I 0), .ref ou]) ⟨hx, hb, hml, hown, hts⟩ (x_alike l hl0 G y b0 σ E hO a h_a i ri j rj) (cwV 2 hts gL_alike_X10_alike rfl rfl rfl (by decide +kernel) ⟨Nat.le_of_ble_eq_true rfl, Nat.le_of_ble_eq_true rfl⟩) (th_PXV hK hXs hS hH rfl hc) rfl rfl hl.1 rfl (lv_room (Nat.le_of_ble_eq_true rfl)) dL_alike_5 ⟨Nat.le_of_ble_eq_true rfl, Nat.le_of_ble_eq_true rfl⟩) hS (fun X9 ce9 q9 σ1 H locs hx9 hH hS h1 h2 h3 => ?_) (fun z σ1 H locs rz hw hH hS => ?_)
  · obtain ⟨hO1, hF1, hX9, hx8⟩ := hx9
    obtain ⟨E1, hX1, hO1⟩ : ∃ E1, ext E E1 ∧ ok y E1 σ1 := ⟨E, ext.rf, hO1⟩
    have hou : σ1 ou = some (.inl (y 1, 1, .inr (.inl fo))) := (hF1 ou (by rw [hk3]; decide) (by rw [hk3]; decide)).trans h_f
    have k2 := fr.ki hO hF1 h_a (by decide) (by decide) 2
    have kr := fr.af hO hF1 h_a (by decide) (by decide) k12_0 isA1
    have kq := fr.aq hO hF1 h_a (by decide) (by decide) k12_3
    subst hX9
    refine vx_catch (name := nq_NSE) hown [] (⟨0, 10, 13, 19⟩ : ExceptionTableEntry) [] htb (fun z hz => absurd hz (by simp)) (by decide) (by decide) (hts (.classLink RL 19 nq_NSE) (by decide +kernel)) (hXs.2.2.2.1.use) h1 h2 h3 ?_
    refine lv_astore (lv' := [(4, .ref q9), (0, .ref a), (1, .int (I i)), (2, .int (I j)), (3, .ref ou)]) hx hb dL_alike_13 hl (by decide) rfl (fun ls hl => ?_)
    refine lv_iconst (v := I 1) hx hb dL_alike_15 (by decide) ?_
    refine W.widen (k := 2) (n := 12) (Nat.le_of_ble_eq_true rfl) (Nat.le_of_ble_eq_true rfl) ?_
    exact th_iret hx hb hr hlocks hH hS (z := 1) ⟨by decide, by decide⟩ ⟨E1, hX1, hO1, (fun x _ h0 hs9 => hF1 x h0 hs9), ⟨fo, hou⟩, ⟨⟨by omega, by omega⟩, (by rw [hX1.ad2 h_a (by decide) 0]; exact kr), (by rw [hX1.ad2 h_a (by decide) 3]; exact kq)⟩⟩ dL_alike_16
  · obtain ⟨hO1, hF1, hw⟩ := hw
    obtain ⟨E1, hX1, hO1⟩ : ∃ E1, ext E E1 ∧ ok y E1 σ1 := ⟨E, ext.rf, hO1⟩
    have hou : σ1 ou = some (.inl (y 1, 1, .inr (.inl fo))) := (hF1 ou (by rw [hk3]; decide) (by rw [hk3]; decide)).trans h_f
    have k2 := fr.ki hO hF1 h_a (by decide) (by decide) 2
    have kr := fr.af hO hF1 h_a (by decide) (by decide) k12_0 isA1
    have kq := fr.aq hO hF1 h_a (by decide) (by decide) k12_3
    refine lv_i2l (v := _) hx hb dL_alike_8 rfl ?_
    refine th_lou9 hx hb hK hH hS h00 hou dL_alike_9 (fun f1 H locs hf19 hH hS => ?_)
    refine lv_goto (tgt := 17) hx hb dL_alike_10 (by decide) ?_
    refine lv_iconst (v := I 0) hx hb dL_alike_17 (by decide) ?_
    have e1 : gI (th_up σ1 ou (.inl (y 1, 1, .inr (.inl f1)))) a 1 = gI σ1 a 1 := gI_eq (gV_up hna)
    have e2 : gI (th_up σ1 ou (.inl (y 1, 1, .inr (.inl f1)))) a 2 = gI σ1 a 2 := gI_eq (gV_up hna)
    have er : aF (th_up σ1 ou (.inl (y 1, 1, .inr (.inl f1)))) (ad E1 a 0) = aF σ1 (ad E a 0) := by rw [hX1.ad2 h_a (by decide) 0, aF_up (hO.neor h_a (by decide) k12_0 isA1 h_o (by decide))]
    have eq : aQ (th_up σ1 ou (.inl (y 1, 1, .inr (.inl f1)))) (ad E1 a 3) = aQ σ1 (ad E a 3) := by rw [hX1.ad2 h_a (by decide) 3, aQ_up (hO.neoq h_a (by decide) k12_3 h_o (by decide))]
    refine W.widen (k := 2) (n := 12) (Nat.le_of_ble_eq_true rfl) (Nat.le_of_ble_eq_true rfl) ?_
    exact th_iret hx hb hr hlocks hH hS (z := 0) ⟨by decide, by decide⟩ ⟨E1, hX1, hO1.upou (ou_ext hX1 h_o h_m) _, (fun x hne h0 hs9 => (th_up_ne _ _ hne).trans (hF1 x h0 hs9)), ⟨f1, th_up_at _ _ _⟩, ⟨⟨by omega, by omega⟩, er.trans kr, eq.trans kq⟩⟩ dL_alike_18

set_option maxHeartbeats 400000 in
set_option maxRecDepth 100000 in
theorem w_answer (l : Launch) (hl0 : l.stackTraces = false) (G : va_G) (y : Nat → ClassId) (b0 : Nat) (σ : th_M) (E : th_E) (hO : ok y E σ) (a : Nat) (h_a : kd E a = 12) (m0 : Nat) (h_m : kd E m0 = 13) (ou : Nat) (h_o : ow E ou = (m0, 98)) (fo : Nat → Int64) (h_f : σ ou = some (.inl (y 1, 1, .inr (.inl fo)))) (i : Int) (ri : rng i) (j : Int) (rj : rng j) : Met l yL_answer wsL_answer ({ frames := 7, cells := 1, slots := 6, locals := 189 }) (th_PX G y b0 σ [.ref a, .int (I i), .int (I j), .ref ou]) (th_Qi G b0 (fun r σ1 => ∃ E1, ext E E1 ∧ ok y E1 σ1 ∧ fx [] E σ σ1 ou ∧ (∃ f1 : Nat → Int64, σ1 ou = some (.inl (y 1, 1, .inr (.inl f1)))) ∧ ((gI σ1 a 1 = gI σ a 1 ∧ gI σ1 a 2 = gI σ a 2) ∧ aF σ1 (ad E1 a 0) = aF σ (ad E a 0) ∧ (aQ σ1 (ad E1 a 3)) = (aQ σ (ad E a 3))))) 1 6 (th_A b0) := by
  refine va_MetW (cc := cL_answer) (maxL := 5) (ret := (some .int)) (hh := [(0, 10, 13, 19)]) (by decide) rfl ?_
  intro p e s m args below meth c s₁ B hml hv
  obtain ⟨rfl, hH, hK, hXs⟩ := hv
  have hx := B.exec
  have hb := B.bytes
  have hr := B.returns
  have hts := atoms_spec (ws := wsL_answer) B.pre
  have hown : s.vm.findClass RL = some m.cls := findClass_of_methodNamed B.named
  have hlocks := B.notSynchronized
  have htb := vx_table (x := objectInit) (hh := [(0, 10, 13, 19)]) B (hts _ List.mem_cons_self)
  have h00 : b0 ≤ s.heap.size := hH.1
  have hS : va_S (th_A b0) s.heap s.heap [] := va_S.rf
  have hna : a ≠ ou := hO.neou h_a (by decide) h_o
  have hk3 := ow_k h_o h_m
  obtain ⟨_, hc⟩ := hO.cell h_a (by decide) (ci := 10) rfl
  have hl := lv_entry ([.ref a, .int (I i), .int (I j), .ref ou]) (n := 5) (Nat.le_of_ble_eq_true rfl)
  rw [lg_entry_eq]
  generalize (lg_sl ([.ref a, .int (I i), .int (I j), .ref ou]) ++ List.replicate (5 - (lg_sl ([.ref a, .int (I i), .int (I j), .ref ou])).length) Slot.unset).toArray = ls at hl ⊢
  have hl : lv_has ls 5 [(0, .ref a), (1, .int (I i)), (2, .int (I j)), (3, .ref ou)] := hl
  refine lv_aload_n hx hb dL_answer_0 rfl (lv_at hl 3 rfl) ?_
  refine lv_iconst (v := I 0) hx hb dL_answer_1 (by decide) ?_
  refine lv_aload_n hx hb dL_answer_2 rfl (lv_at hl 0 rfl) ?_
  refine lv_iload_n hx hb dL_answer_3 rfl (lv_at hl 1 rfl) ?_
  refine lv_iload_n hx hb dL_answer_4 rfl (lv_at hl 2 rfl) ?_
  refine th_xcalli (vx_runV (As := [.int (I i), .int (I j)]) (rest := [.int (I 0), .ref ou]) ⟨hx, hb, hml, hown, hts⟩ (x_answer l hl0 G y b0 σ E hO a h_a i ri j rj) (cwV 2 hts gL_answer_X10_answer rfl rfl rfl (by decide +kernel) ⟨Nat.le_of_ble_eq_true rfl, Nat.le_of_ble_eq_true rfl⟩) (th_PXV hK hXs hS hH rfl hc) rfl rfl hl.1 rfl (lv_room (Nat.le_of_ble_eq_true rfl)) dL_answer_5 ⟨Nat.le_of_ble_eq_true rfl, Nat.le_of_ble_eq_true rfl⟩) hS (fun X9 ce9 q9 σ1 H locs hx9 hH hS h1 h2 h3 => ?_) (fun z σ1 H locs rz hw hH hS => ?_)
  · obtain ⟨hO1, hF1, hX9, hx8⟩ := hx9
    obtain ⟨E1, hX1, hO1⟩ : ∃ E1, ext E E1 ∧ ok y E1 σ1 := ⟨E, ext.rf, hO1⟩
    have hou : σ1 ou = some (.inl (y 1, 1, .inr (.inl fo))) := (hF1 ou (by rw [hk3]; decide) (by rw [hk3]; decide)).trans h_f
    have k2 := fr.ki hO hF1 h_a (by decide) (by decide) 2
    have kr := fr.af hO hF1 h_a (by decide) (by decide) k12_0 isA1
    have kq := fr.aq hO hF1 h_a (by decide) (by decide) k12_3
    subst hX9
    refine vx_catch (name := nq_NSE) hown [] (⟨0, 10, 13, 19⟩ : ExceptionTableEntry) [] htb (fun z hz => absurd hz (by simp)) (by decide) (by decide) (hts (.classLink RL 19 nq_NSE) (by decide +kernel)) (hXs.2.2.2.1.use) h1 h2 h3 ?_
    refine lv_astore (lv' := [(4, .ref q9), (0, .ref a), (1, .int (I i)), (2, .int (I j)), (3, .ref ou)]) hx hb dL_answer_13 hl (by decide) rfl (fun ls hl => ?_)
    refine lv_iconst (v := I 1) hx hb dL_answer_15 (by decide) ?_
    refine W.widen (k := 1) (n := 6) (Nat.le_of_ble_eq_true rfl) (Nat.le_of_ble_eq_true rfl) ?_
    exact th_iret hx hb hr hlocks hH hS (z := 1) ⟨by decide, by decide⟩ ⟨E1, hX1, hO1, (fun x _ h0 hs9 => hF1 x h0 hs9), ⟨fo, hou⟩, ⟨⟨by omega, by omega⟩, (by rw [hX1.ad2 h_a (by decide) 0]; exact kr), (by rw [hX1.ad2 h_a (by decide) 3]; exact kq)⟩⟩ dL_answer_16
  · obtain ⟨hO1, hF1, hw⟩ := hw
    obtain ⟨E1, hX1, hO1⟩ : ∃ E1, ext E E1 ∧ ok y E1 σ1 := ⟨E, ext.rf, hO1⟩
    have hou : σ1 ou = some (.inl (y 1, 1, .inr (.inl fo))) := (hF1 ou (by rw [hk3]; decide) (by rw [hk3]; decide)).trans h_f
    have k2 := fr.ki hO hF1 h_a (by decide) (by decide) 2
    have kr := fr.af hO hF1 h_a (by decide) (by decide) k12_0 isA1
    have kq := fr.aq hO hF1 h_a (by decide) (by decide) k12_3
    refine lv_i2l (v := _) hx hb dL_answer_8 rfl ?_
    refine th_lou9 hx hb hK hH hS h00 hou dL_answer_9 (fun f1 H locs hf19 hH hS => ?_)
    refine lv_goto (tgt := 17) hx hb dL_answer_10 (by decide) ?_
    refine lv_iconst (v := I 0) hx hb dL_answer_17 (by decide) ?_
    have e1 : gI (th_up σ1 ou (.inl (y 1, 1, .inr (.inl f1)))) a 1 = gI σ1 a 1 := gI_eq (gV_up hna)
    have e2 : gI (th_up σ1 ou (.inl (y 1, 1, .inr (.inl f1)))) a 2 = gI σ1 a 2 := gI_eq (gV_up hna)
    have er : aF (th_up σ1 ou (.inl (y 1, 1, .inr (.inl f1)))) (ad E1 a 0) = aF σ1 (ad E a 0) := by rw [hX1.ad2 h_a (by decide) 0, aF_up (hO.neor h_a (by decide) k12_0 isA1 h_o (by decide))]
    have eq : aQ (th_up σ1 ou (.inl (y 1, 1, .inr (.inl f1)))) (ad E1 a 3) = aQ σ1 (ad E a 3) := by rw [hX1.ad2 h_a (by decide) 3, aQ_up (hO.neoq h_a (by decide) k12_3 h_o (by decide))]
    refine W.widen (k := 1) (n := 6) (Nat.le_of_ble_eq_true rfl) (Nat.le_of_ble_eq_true rfl) ?_
    exact th_iret hx hb hr hlocks hH hS (z := 0) ⟨by decide, by decide⟩ ⟨E1, hX1, hO1.upou (ou_ext hX1 h_o h_m) _, (fun x hne h0 hs9 => (th_up_ne _ _ hne).trans (hF1 x h0 hs9)), ⟨f1, th_up_at _ _ _⟩, ⟨⟨by omega, by omega⟩, er.trans kr, eq.trans kq⟩⟩ dL_answer_18

set_option maxHeartbeats 400000 in
set_option maxRecDepth 100000 in
theorem w_steps (l : Launch) (hl0 : l.stackTraces = false) (G : va_G) (y : Nat → ClassId) (b0 : Nat) (σ : th_M) (E : th_E) (hO : ok y E σ) (a : Nat) (h_a : kd E a = 12) (m0 : Nat) (h_m : kd E m0 = 13) (ou : Nat) (h_o : ow E ou = (m0, 98)) (fo : Nat → Int64) (h_f : σ ou = some (.inl (y 1, 1, .inr (.inl fo)))) (i : Int) (ri : rng i) (j : Int) (rj : rng j) : Met l yL_steps wsL_steps ({ frames := 7, cells := 1, slots := 6, locals := 186 }) (th_PX G y b0 σ [.ref a, .int (I i), .int (I j), .ref ou]) (th_Qi G b0 (fun r σ1 => ∃ E1, ext E E1 ∧ ok y E1 σ1 ∧ fx [] E σ σ1 ou ∧ (∃ f1 : Nat → Int64, σ1 ou = some (.inl (y 1, 1, .inr (.inl f1)))) ∧ ((gI σ1 a 1 = gI σ a 1 ∧ gI σ1 a 2 = gI σ a 2) ∧ aF σ1 (ad E1 a 0) = aF σ (ad E a 0) ∧ (aQ σ1 (ad E1 a 3)) = (aQ σ (ad E a 3))))) 1 6 (th_A b0) := by
  refine va_MetW (cc := cL_steps) (maxL := 5) (ret := (some .int)) (hh := [(0, 10, 13, 19)]) (by decide) rfl ?_
  intro p e s m args below meth c s₁ B hml hv
  obtain ⟨rfl, hH, hK, hXs⟩ := hv
  have hx := B.exec
  have hb := B.bytes
  have hr := B.returns
  have hts := atoms_spec (ws := wsL_steps) B.pre
  have hown : s.vm.findClass RL = some m.cls := findClass_of_methodNamed B.named
  have hlocks := B.notSynchronized
  have htb := vx_table (x := objectInit) (hh := [(0, 10, 13, 19)]) B (hts _ List.mem_cons_self)
  have h00 : b0 ≤ s.heap.size := hH.1
  have hS : va_S (th_A b0) s.heap s.heap [] := va_S.rf
  have hna : a ≠ ou := hO.neou h_a (by decide) h_o
  have hk3 := ow_k h_o h_m
  obtain ⟨_, hc⟩ := hO.cell h_a (by decide) (ci := 10) rfl
  have hl := lv_entry ([.ref a, .int (I i), .int (I j), .ref ou]) (n := 5) (Nat.le_of_ble_eq_true rfl)
  rw [lg_entry_eq]
  generalize (lg_sl ([.ref a, .int (I i), .int (I j), .ref ou]) ++ List.replicate (5 - (lg_sl ([.ref a, .int (I i), .int (I j), .ref ou])).length) Slot.unset).toArray = ls at hl ⊢
  have hl : lv_has ls 5 [(0, .ref a), (1, .int (I i)), (2, .int (I j)), (3, .ref ou)] := hl
  refine lv_aload_n hx hb dL_steps_0 rfl (lv_at hl 3 rfl) ?_
  refine lv_iconst (v := I 0) hx hb dL_steps_1 (by decide) ?_
  refine lv_aload_n hx hb dL_steps_2 rfl (lv_at hl 0 rfl) ?_
  refine lv_iload_n hx hb dL_steps_3 rfl (lv_at hl 1 rfl) ?_
  refine lv_iload_n hx hb dL_steps_4 rfl (lv_at hl 2 rfl) ?_
  refine th_xcalli (vx_runV (As := [.int (I i), .int (I j)]) (rest := [.int (I 0), .ref ou]) ⟨hx, hb, hml, hown, hts⟩ (x_steps l hl0 G y b0 σ E hO a h_a i ri j rj) (cwV 2 hts gL_steps_X10_steps rfl rfl rfl (by decide +kernel) ⟨Nat.le_of_ble_eq_true rfl, Nat.le_of_ble_eq_true rfl⟩) (th_PXV hK hXs hS hH rfl hc) rfl rfl hl.1 rfl (lv_room (Nat.le_of_ble_eq_true rfl)) dL_steps_5 ⟨Nat.le_of_ble_eq_true rfl, Nat.le_of_ble_eq_true rfl⟩) hS (fun X9 ce9 q9 σ1 H locs hx9 hH hS h1 h2 h3 => ?_) (fun z σ1 H locs rz hw hH hS => ?_)
  · obtain ⟨hO1, hF1, hX9, hx8⟩ := hx9
    obtain ⟨E1, hX1, hO1⟩ : ∃ E1, ext E E1 ∧ ok y E1 σ1 := ⟨E, ext.rf, hO1⟩
    have hou : σ1 ou = some (.inl (y 1, 1, .inr (.inl fo))) := (hF1 ou (by rw [hk3]; decide) (by rw [hk3]; decide)).trans h_f
    have k2 := fr.ki hO hF1 h_a (by decide) (by decide) 2
    have kr := fr.af hO hF1 h_a (by decide) (by decide) k12_0 isA1
    have kq := fr.aq hO hF1 h_a (by decide) (by decide) k12_3
    subst hX9
    refine vx_catch (name := nq_NSE) hown [] (⟨0, 10, 13, 19⟩ : ExceptionTableEntry) [] htb (fun z hz => absurd hz (by simp)) (by decide) (by decide) (hts (.classLink RL 19 nq_NSE) (by decide +kernel)) (hXs.2.2.2.1.use) h1 h2 h3 ?_
    refine lv_astore (lv' := [(4, .ref q9), (0, .ref a), (1, .int (I i)), (2, .int (I j)), (3, .ref ou)]) hx hb dL_steps_13 hl (by decide) rfl (fun ls hl => ?_)
    refine lv_iconst (v := I 1) hx hb dL_steps_15 (by decide) ?_
    refine W.widen (k := 1) (n := 6) (Nat.le_of_ble_eq_true rfl) (Nat.le_of_ble_eq_true rfl) ?_
    exact th_iret hx hb hr hlocks hH hS (z := 1) ⟨by decide, by decide⟩ ⟨E1, hX1, hO1, (fun x _ h0 hs9 => hF1 x h0 hs9), ⟨fo, hou⟩, ⟨⟨by omega, by omega⟩, (by rw [hX1.ad2 h_a (by decide) 0]; exact kr), (by rw [hX1.ad2 h_a (by decide) 3]; exact kq)⟩⟩ dL_steps_16
  · obtain ⟨hO1, hF1, hw⟩ := hw
    obtain ⟨E1, hX1, hO1⟩ : ∃ E1, ext E E1 ∧ ok y E1 σ1 := ⟨E, ext.rf, hO1⟩
    have hou : σ1 ou = some (.inl (y 1, 1, .inr (.inl fo))) := (hF1 ou (by rw [hk3]; decide) (by rw [hk3]; decide)).trans h_f
    have k2 := fr.ki hO hF1 h_a (by decide) (by decide) 2
    have kr := fr.af hO hF1 h_a (by decide) (by decide) k12_0 isA1
    have kq := fr.aq hO hF1 h_a (by decide) (by decide) k12_3
    refine lv_i2l (v := _) hx hb dL_steps_8 rfl ?_
    refine th_lou9 hx hb hK hH hS h00 hou dL_steps_9 (fun f1 H locs hf19 hH hS => ?_)
    refine lv_goto (tgt := 17) hx hb dL_steps_10 (by decide) ?_
    refine lv_iconst (v := I 0) hx hb dL_steps_17 (by decide) ?_
    have e1 : gI (th_up σ1 ou (.inl (y 1, 1, .inr (.inl f1)))) a 1 = gI σ1 a 1 := gI_eq (gV_up hna)
    have e2 : gI (th_up σ1 ou (.inl (y 1, 1, .inr (.inl f1)))) a 2 = gI σ1 a 2 := gI_eq (gV_up hna)
    have er : aF (th_up σ1 ou (.inl (y 1, 1, .inr (.inl f1)))) (ad E1 a 0) = aF σ1 (ad E a 0) := by rw [hX1.ad2 h_a (by decide) 0, aF_up (hO.neor h_a (by decide) k12_0 isA1 h_o (by decide))]
    have eq : aQ (th_up σ1 ou (.inl (y 1, 1, .inr (.inl f1)))) (ad E1 a 3) = aQ σ1 (ad E a 3) := by rw [hX1.ad2 h_a (by decide) 3, aQ_up (hO.neoq h_a (by decide) k12_3 h_o (by decide))]
    refine W.widen (k := 1) (n := 6) (Nat.le_of_ble_eq_true rfl) (Nat.le_of_ble_eq_true rfl) ?_
    exact th_iret hx hb hr hlocks hH hS (z := 0) ⟨by decide, by decide⟩ ⟨E1, hX1, hO1.upou (ou_ext hX1 h_o h_m) _, (fun x hne h0 hs9 => (th_up_ne _ _ hne).trans (hF1 x h0 hs9)), ⟨f1, th_up_at _ _ _⟩, ⟨⟨by omega, by omega⟩, er.trans kr, eq.trans kq⟩⟩ dL_steps_18

set_option maxHeartbeats 400000 in
set_option maxRecDepth 100000 in
theorem w_row (l : Launch) (hl0 : l.stackTraces = false) (G : va_G) (y : Nat → ClassId) (b0 : Nat) (σ : th_M) (E : th_E) (hO : ok y E σ) (a : Nat) (h_a : kd E a = 12) (m0 : Nat) (h_m : kd E m0 = 13) (ou : Nat) (h_o : ow E ou = (m0, 98)) (fo : Nat → Int64) (h_f : σ ou = some (.inl (y 1, 1, .inr (.inl fo)))) (i : Int) (ri : rng i) (j : Int) (rj : rng j) : Met l yL_row wsL_row ({ frames := 7, cells := 1, slots := 6, locals := 126 }) (th_PX G y b0 σ [.ref a, .int (I i), .int (I j), .ref ou]) (th_Qi G b0 (fun r σ1 => ∃ E1, ext E E1 ∧ ok y E1 σ1 ∧ fx [] E σ σ1 ou ∧ (∃ f1 : Nat → Int64, σ1 ou = some (.inl (y 1, 1, .inr (.inl f1)))) ∧ ((gI σ1 a 1 = gI σ a 1 ∧ gI σ1 a 2 = gI σ a 2) ∧ aF σ1 (ad E1 a 0) = aF σ (ad E a 0) ∧ (aQ σ1 (ad E1 a 3)) = (aQ σ (ad E a 3))))) 1 6 (th_A b0) := by
  refine va_MetW (cc := cL_row) (maxL := 5) (ret := (some .int)) (hh := [(0, 10, 13, 19)]) (by decide) rfl ?_
  intro p e s m args below meth c s₁ B hml hv
  obtain ⟨rfl, hH, hK, hXs⟩ := hv
  have hx := B.exec
  have hb := B.bytes
  have hr := B.returns
  have hts := atoms_spec (ws := wsL_row) B.pre
  have hown : s.vm.findClass RL = some m.cls := findClass_of_methodNamed B.named
  have hlocks := B.notSynchronized
  have htb := vx_table (x := objectInit) (hh := [(0, 10, 13, 19)]) B (hts _ List.mem_cons_self)
  have h00 : b0 ≤ s.heap.size := hH.1
  have hS : va_S (th_A b0) s.heap s.heap [] := va_S.rf
  have hna : a ≠ ou := hO.neou h_a (by decide) h_o
  have hk3 := ow_k h_o h_m
  obtain ⟨_, hc⟩ := hO.cell h_a (by decide) (ci := 10) rfl
  have hl := lv_entry ([.ref a, .int (I i), .int (I j), .ref ou]) (n := 5) (Nat.le_of_ble_eq_true rfl)
  rw [lg_entry_eq]
  generalize (lg_sl ([.ref a, .int (I i), .int (I j), .ref ou]) ++ List.replicate (5 - (lg_sl ([.ref a, .int (I i), .int (I j), .ref ou])).length) Slot.unset).toArray = ls at hl ⊢
  have hl : lv_has ls 5 [(0, .ref a), (1, .int (I i)), (2, .int (I j)), (3, .ref ou)] := hl
  refine lv_aload_n hx hb dL_row_0 rfl (lv_at hl 3 rfl) ?_
  refine lv_iconst (v := I 0) hx hb dL_row_1 (by decide) ?_
  refine lv_aload_n hx hb dL_row_2 rfl (lv_at hl 0 rfl) ?_
  refine lv_iload_n hx hb dL_row_3 rfl (lv_at hl 1 rfl) ?_
  refine lv_iload_n hx hb dL_row_4 rfl (lv_at hl 2 rfl) ?_
  refine th_xcalli (vx_runV (As := [.int (I i), .int (I j)]) (rest := [.int (I 0), .ref ou]) ⟨hx, hb, hml, hown, hts⟩ (x_row l hl0 G y b0 σ E hO a h_a i ri j rj) (cwV 2 hts gL_row_X10_row rfl rfl rfl (by decide +kernel) ⟨Nat.le_of_ble_eq_true rfl, Nat.le_of_ble_eq_true rfl⟩) (th_PXV hK hXs hS hH rfl hc) rfl rfl hl.1 rfl (lv_room (Nat.le_of_ble_eq_true rfl)) dL_row_5 ⟨Nat.le_of_ble_eq_true rfl, Nat.le_of_ble_eq_true rfl⟩) hS (fun X9 ce9 q9 σ1 H locs hx9 hH hS h1 h2 h3 => ?_) (fun z σ1 H locs rz hw hH hS => ?_)
  · obtain ⟨hO1, hF1, hX9, hx8⟩ := hx9
    obtain ⟨E1, hX1, hO1⟩ : ∃ E1, ext E E1 ∧ ok y E1 σ1 := ⟨E, ext.rf, hO1⟩
    have hou : σ1 ou = some (.inl (y 1, 1, .inr (.inl fo))) := (hF1 ou (by rw [hk3]; decide) (by rw [hk3]; decide)).trans h_f
    have k2 := fr.ki hO hF1 h_a (by decide) (by decide) 2
    have kr := fr.af hO hF1 h_a (by decide) (by decide) k12_0 isA1
    have kq := fr.aq hO hF1 h_a (by decide) (by decide) k12_3
    subst hX9
    refine vx_catch (name := nq_NSE) hown [] (⟨0, 10, 13, 19⟩ : ExceptionTableEntry) [] htb (fun z hz => absurd hz (by simp)) (by decide) (by decide) (hts (.classLink RL 19 nq_NSE) (by decide +kernel)) (hXs.2.2.2.1.use) h1 h2 h3 ?_
    refine lv_astore (lv' := [(4, .ref q9), (0, .ref a), (1, .int (I i)), (2, .int (I j)), (3, .ref ou)]) hx hb dL_row_13 hl (by decide) rfl (fun ls hl => ?_)
    refine lv_iconst (v := I 1) hx hb dL_row_15 (by decide) ?_
    refine W.widen (k := 1) (n := 6) (Nat.le_of_ble_eq_true rfl) (Nat.le_of_ble_eq_true rfl) ?_
    exact th_iret hx hb hr hlocks hH hS (z := 1) ⟨by decide, by decide⟩ ⟨E1, hX1, hO1, (fun x _ h0 hs9 => hF1 x h0 hs9), ⟨fo, hou⟩, ⟨⟨by omega, by omega⟩, (by rw [hX1.ad2 h_a (by decide) 0]; exact kr), (by rw [hX1.ad2 h_a (by decide) 3]; exact kq)⟩⟩ dL_row_16
  · obtain ⟨hO1, hF1, hw⟩ := hw
    obtain ⟨E1, hX1, hO1⟩ : ∃ E1, ext E E1 ∧ ok y E1 σ1 := ⟨E, ext.rf, hO1⟩
    have hou : σ1 ou = some (.inl (y 1, 1, .inr (.inl fo))) := (hF1 ou (by rw [hk3]; decide) (by rw [hk3]; decide)).trans h_f
    have k2 := fr.ki hO hF1 h_a (by decide) (by decide) 2
    have kr := fr.af hO hF1 h_a (by decide) (by decide) k12_0 isA1
    have kq := fr.aq hO hF1 h_a (by decide) (by decide) k12_3
    refine lv_i2l (v := _) hx hb dL_row_8 rfl ?_
    refine th_lou9 hx hb hK hH hS h00 hou dL_row_9 (fun f1 H locs hf19 hH hS => ?_)
    refine lv_goto (tgt := 17) hx hb dL_row_10 (by decide) ?_
    refine lv_iconst (v := I 0) hx hb dL_row_17 (by decide) ?_
    have e1 : gI (th_up σ1 ou (.inl (y 1, 1, .inr (.inl f1)))) a 1 = gI σ1 a 1 := gI_eq (gV_up hna)
    have e2 : gI (th_up σ1 ou (.inl (y 1, 1, .inr (.inl f1)))) a 2 = gI σ1 a 2 := gI_eq (gV_up hna)
    have er : aF (th_up σ1 ou (.inl (y 1, 1, .inr (.inl f1)))) (ad E1 a 0) = aF σ1 (ad E a 0) := by rw [hX1.ad2 h_a (by decide) 0, aF_up (hO.neor h_a (by decide) k12_0 isA1 h_o (by decide))]
    have eq : aQ (th_up σ1 ou (.inl (y 1, 1, .inr (.inl f1)))) (ad E1 a 3) = aQ σ1 (ad E a 3) := by rw [hX1.ad2 h_a (by decide) 3, aQ_up (hO.neoq h_a (by decide) k12_3 h_o (by decide))]
    refine W.widen (k := 1) (n := 6) (Nat.le_of_ble_eq_true rfl) (Nat.le_of_ble_eq_true rfl) ?_
    exact th_iret hx hb hr hlocks hH hS (z := 0) ⟨by decide, by decide⟩ ⟨E1, hX1, hO1.upou (ou_ext hX1 h_o h_m) _, (fun x hne h0 hs9 => (th_up_ne _ _ hne).trans (hF1 x h0 hs9)), ⟨f1, th_up_at _ _ _⟩, ⟨⟨by omega, by omega⟩, er.trans kr, eq.trans kq⟩⟩ dL_row_18

set_option maxHeartbeats 400000 in
set_option maxRecDepth 100000 in
theorem w_rowText (l : Launch) (hl0 : l.stackTraces = false) (G : va_G) (y : Nat → ClassId) (b0 : Nat) (σ : th_M) (E : th_E) (hO : ok y E σ) (a : Nat) (h_a : kd E a = 12) (m0 : Nat) (h_m : kd E m0 = 13) (ou : Nat) (h_o : ow E ou = (m0, 98)) (fo : Nat → Int64) (h_f : σ ou = some (.inl (y 1, 1, .inr (.inl fo)))) (i : Int) (ri : rng i) (j : Int) (rj : rng j) : Met l yL_rowText wsL_rowText ({ frames := 83, cells := 1, slots := 6, locals := 2481 }) (th_PX G y b0 σ [.ref a, .int (I i), .int (I j), .ref ou]) (th_Qi G b0 (fun r σ1 => ∃ E1, ext E E1 ∧ ok y E1 σ1 ∧ fx [8] E σ σ1 ou ∧ (∃ f1 : Nat → Int64, σ1 ou = some (.inl (y 1, 1, .inr (.inl f1)))) ∧ ((gI σ1 a 1 = gI σ a 1 ∧ gI σ1 a 2 = gI σ a 2) ∧ aF σ1 (ad E1 a 0) = aF σ (ad E a 0) ∧ (aQ σ1 (ad E1 a 3)) = (aQ σ (ad E a 3))))) 1 6 (th_A b0) := by
  refine va_MetW (cc := cL_rowText) (maxL := 5) (ret := (some .int)) (hh := [(0, 10, 13, 19)]) (by decide) rfl ?_
  intro p e s m args below meth c s₁ B hml hv
  obtain ⟨rfl, hH, hK, hXs⟩ := hv
  have hx := B.exec
  have hb := B.bytes
  have hr := B.returns
  have hts := atoms_spec (ws := wsL_rowText) B.pre
  have hown : s.vm.findClass RL = some m.cls := findClass_of_methodNamed B.named
  have hlocks := B.notSynchronized
  have htb := vx_table (x := objectInit) (hh := [(0, 10, 13, 19)]) B (hts _ List.mem_cons_self)
  have h00 : b0 ≤ s.heap.size := hH.1
  have hS : va_S (th_A b0) s.heap s.heap [] := va_S.rf
  have hna : a ≠ ou := hO.neou h_a (by decide) h_o
  have hk3 := ow_k h_o h_m
  obtain ⟨_, hc⟩ := hO.cell h_a (by decide) (ci := 10) rfl
  have hl := lv_entry ([.ref a, .int (I i), .int (I j), .ref ou]) (n := 5) (Nat.le_of_ble_eq_true rfl)
  rw [lg_entry_eq]
  generalize (lg_sl ([.ref a, .int (I i), .int (I j), .ref ou]) ++ List.replicate (5 - (lg_sl ([.ref a, .int (I i), .int (I j), .ref ou])).length) Slot.unset).toArray = ls at hl ⊢
  have hl : lv_has ls 5 [(0, .ref a), (1, .int (I i)), (2, .int (I j)), (3, .ref ou)] := hl
  refine lv_aload_n hx hb dL_rowText_0 rfl (lv_at hl 3 rfl) ?_
  refine lv_iconst (v := I 0) hx hb dL_rowText_1 (by decide) ?_
  refine lv_aload_n hx hb dL_rowText_2 rfl (lv_at hl 0 rfl) ?_
  refine lv_iload_n hx hb dL_rowText_3 rfl (lv_at hl 1 rfl) ?_
  refine lv_iload_n hx hb dL_rowText_4 rfl (lv_at hl 2 rfl) ?_
  refine th_xcalli (vx_runV (As := [.int (I i), .int (I j)]) (rest := [.int (I 0), .ref ou]) ⟨hx, hb, hml, hown, hts⟩ (x_rowText l hl0 G y b0 σ E hO a h_a i ri j rj) (cwV 2 hts gL_rowText_X10_rowText rfl rfl rfl (by decide +kernel) ⟨Nat.le_of_ble_eq_true rfl, Nat.le_of_ble_eq_true rfl⟩) (th_PXV hK hXs hS hH rfl hc) rfl rfl hl.1 rfl (lv_room (Nat.le_of_ble_eq_true rfl)) dL_rowText_5 ⟨Nat.le_of_ble_eq_true rfl, Nat.le_of_ble_eq_true rfl⟩) hS (fun X9 ce9 q9 σ1 H locs hx9 hH hS h1 h2 h3 => ?_) (fun z σ1 H locs rz hw hH hS => ?_)
  · obtain ⟨hO1, hF1, hX9, hx8⟩ := hx9
    obtain ⟨E1, hX1, hO1⟩ : ∃ E1, ext E E1 ∧ ok y E1 σ1 := ⟨E, ext.rf, hO1⟩
    have hou : σ1 ou = some (.inl (y 1, 1, .inr (.inl fo))) := (hF1 ou (by rw [hk3]; decide) (by rw [hk3]; decide)).trans h_f
    have k2 := fr.ki hO hF1 h_a (by decide) (by decide) 2
    have kr := fr.af hO hF1 h_a (by decide) (by decide) k12_0 isA1
    have kq := fr.aq hO hF1 h_a (by decide) (by decide) k12_3
    subst hX9
    refine vx_catch (name := nq_NSE) hown [] (⟨0, 10, 13, 19⟩ : ExceptionTableEntry) [] htb (fun z hz => absurd hz (by simp)) (by decide) (by decide) (hts (.classLink RL 19 nq_NSE) (by decide +kernel)) (hXs.2.2.2.1.use) h1 h2 h3 ?_
    refine lv_astore (lv' := [(4, .ref q9), (0, .ref a), (1, .int (I i)), (2, .int (I j)), (3, .ref ou)]) hx hb dL_rowText_13 hl (by decide) rfl (fun ls hl => ?_)
    refine lv_iconst (v := I 1) hx hb dL_rowText_15 (by decide) ?_
    refine W.widen (k := 1) (n := 6) (Nat.le_of_ble_eq_true rfl) (Nat.le_of_ble_eq_true rfl) ?_
    exact th_iret hx hb hr hlocks hH hS (z := 1) ⟨by decide, by decide⟩ ⟨E1, hX1, hO1, (fun x _ h0 hs9 => hF1 x h0 hs9), ⟨fo, hou⟩, ⟨⟨by omega, by omega⟩, (by rw [hX1.ad2 h_a (by decide) 0]; exact kr), (by rw [hX1.ad2 h_a (by decide) 3]; exact kq)⟩⟩ dL_rowText_16
  · obtain ⟨hO1, hF1, hw⟩ := hw
    obtain ⟨E1, hX1, hO1⟩ : ∃ E1, ext E E1 ∧ ok y E1 σ1 := ⟨E, ext.rf, hO1⟩
    have hou : σ1 ou = some (.inl (y 1, 1, .inr (.inl fo))) := (hF1 ou (by rw [hk3]; decide) (by rw [hk3]; decide)).trans h_f
    have k2 := fr.ki hO hF1 h_a (by decide) (by decide) 2
    have kr := fr.af hO hF1 h_a (by decide) (by decide) k12_0 isA1
    have kq := fr.aq hO hF1 h_a (by decide) (by decide) k12_3
    refine lv_i2l (v := _) hx hb dL_rowText_8 rfl ?_
    refine th_lou9 hx hb hK hH hS h00 hou dL_rowText_9 (fun f1 H locs hf19 hH hS => ?_)
    refine lv_goto (tgt := 17) hx hb dL_rowText_10 (by decide) ?_
    refine lv_iconst (v := I 0) hx hb dL_rowText_17 (by decide) ?_
    have e1 : gI (th_up σ1 ou (.inl (y 1, 1, .inr (.inl f1)))) a 1 = gI σ1 a 1 := gI_eq (gV_up hna)
    have e2 : gI (th_up σ1 ou (.inl (y 1, 1, .inr (.inl f1)))) a 2 = gI σ1 a 2 := gI_eq (gV_up hna)
    have er : aF (th_up σ1 ou (.inl (y 1, 1, .inr (.inl f1)))) (ad E1 a 0) = aF σ1 (ad E a 0) := by rw [hX1.ad2 h_a (by decide) 0, aF_up (hO.neor h_a (by decide) k12_0 isA1 h_o (by decide))]
    have eq : aQ (th_up σ1 ou (.inl (y 1, 1, .inr (.inl f1)))) (ad E1 a 3) = aQ σ1 (ad E a 3) := by rw [hX1.ad2 h_a (by decide) 3, aQ_up (hO.neoq h_a (by decide) k12_3 h_o (by decide))]
    refine W.widen (k := 1) (n := 6) (Nat.le_of_ble_eq_true rfl) (Nat.le_of_ble_eq_true rfl) ?_
    exact th_iret hx hb hr hlocks hH hS (z := 0) ⟨by decide, by decide⟩ ⟨E1, hX1, hO1.upou (ou_ext hX1 h_o h_m) _, (fun x hne h0 hs9 => (th_up_ne _ _ hne).trans (hF1 x h0 hs9)), ⟨f1, th_up_at _ _ _⟩, ⟨⟨by omega, by omega⟩, er.trans kr, eq.trans kq⟩⟩ dL_rowText_18

set_option maxHeartbeats 400000 in
set_option maxRecDepth 100000 in
theorem w_put (l : Launch) (hl0 : l.stackTraces = false) (G : va_G) (y : Nat → ClassId) (b0 : Nat) (σ : th_M) (E : th_E) (hO : ok y E σ) (a : Nat) (h_a : kd E a = 12) (m0 : Nat) (h_m : kd E m0 = 13) (ou : Nat) (h_o : ow E ou = (m0, 98)) (fo : Nat → Int64) (h_f : σ ou = some (.inl (y 1, 1, .inr (.inl fo)))) (i : Int) (ri : rng i) (n : Int) (rn : rng n) (hy0 : ∀ k : Int, 0 ≤ k → k < gI σ a 1 → 0 ≤ (aF σ (ad E a 0) k.toNat).toInt ∧ (aF σ (ad E a 0) k.toNat).toInt ≤ 255) (hy1 : ad E (ad E a 6) 0 = ad E a 5) : Met l yL_put wsL_put ({ frames := 48, cells := 5, slots := 245, locals := 1787 }) (th_PX G y b0 σ [.ref a, .int (I i), .int (I n), .ref ou]) (th_Qi G b0 (fun r σ1 => ∃ E1, ext E E1 ∧ ok y E1 σ1 ∧ fx [12, 5, 3, 1, 2, 6] E σ σ1 ou ∧ (∃ f1 : Nat → Int64, σ1 ou = some (.inl (y 1, 1, .inr (.inl f1)))) ∧ (rd9 (0 ≤ n ∧ n ≤ gI σ a 1) ((pAt σ E a i).isSome = true) (fun T v p => TopR T v p ∧ (aQ σ1 (ad E1 a 3)) = (aQ σ (ad E a 3))) (aF σ (ad E a 0)) (aF σ1 (ad E1 a 0)) n (gI σ a 1) (gI σ1 a 1) (gI σ a 2) (gI σ1 a 2) (aQ σ (ad E a 3)) (aQ σ1 (ad E1 a 3))))) 5 245 (th_A b0) := by
  refine va_MetW (cc := cL_put) (maxL := 5) (ret := (some .int)) (hh := [(0, 10, 13, 13)]) (by decide) rfl ?_
  intro p e s m args below meth c s₁ B hml hv
  obtain ⟨rfl, hH, hK, hXs⟩ := hv
  have hx := B.exec
  have hb := B.bytes
  have hr := B.returns
  have hts := atoms_spec (ws := wsL_put) B.pre
  have hown : s.vm.findClass RL = some m.cls := findClass_of_methodNamed B.named
  have hlocks := B.notSynchronized
  have htb := vx_table (x := objectInit) (hh := [(0, 10, 13, 13)]) B (hts _ List.mem_cons_self)
  have h00 : b0 ≤ s.heap.size := hH.1
  have hS : va_S (th_A b0) s.heap s.heap [] := va_S.rf
  have hna : a ≠ ou := hO.neou h_a (by decide) h_o
  have hk3 := ow_k h_o h_m
  obtain ⟨_, hc⟩ := hO.cell h_a (by decide) (ci := 10) rfl
  have hl := lv_entry ([.ref a, .int (I i), .int (I n), .ref ou]) (n := 5) (Nat.le_of_ble_eq_true rfl)
  rw [lg_entry_eq]
  generalize (lg_sl ([.ref a, .int (I i), .int (I n), .ref ou]) ++ List.replicate (5 - (lg_sl ([.ref a, .int (I i), .int (I n), .ref ou])).length) Slot.unset).toArray = ls at hl ⊢
  have hl : lv_has ls 5 [(0, .ref a), (1, .int (I i)), (2, .int (I n)), (3, .ref ou)] := hl
  refine lv_aload_n hx hb dL_put_0 rfl (lv_at hl 3 rfl) ?_
  refine lv_iconst (v := I 0) hx hb dL_put_1 (by decide) ?_
  refine lv_aload_n hx hb dL_put_2 rfl (lv_at hl 0 rfl) ?_
  refine lv_iload_n hx hb dL_put_3 rfl (lv_at hl 1 rfl) ?_
  refine lv_iload_n hx hb dL_put_4 rfl (lv_at hl 2 rfl) ?_
  refine th_xcalli (vx_runV (As := [.int (I i), .int (I n)]) (rest := [.int (I 0), .ref ou]) ⟨hx, hb, hml, hown, hts⟩ (x8_put l hl0 G y b0 σ E hO a h_a i ri n rn hy0 hy1) (cwV 2 hts gL_put_X10_put rfl rfl rfl (by decide +kernel) ⟨Nat.le_of_ble_eq_true rfl, Nat.le_of_ble_eq_true rfl⟩) (th_PXV hK hXs hS hH rfl hc) rfl rfl hl.1 rfl (lv_room (Nat.le_of_ble_eq_true rfl)) dL_put_5 ⟨Nat.le_of_ble_eq_true rfl, Nat.le_of_ble_eq_true rfl⟩) hS (fun X9 ce9 q9 σ1 H locs hx9 hH hS h1 h2 h3 => ?_) (fun z σ1 H locs rz hw hH hS => ?_)
  · obtain ⟨E1, hX1, hO1, hF1, hX9, hx9⟩ := hx9
    have hou : σ1 ou = some (.inl (y 1, 1, .inr (.inl fo))) := (hF1 ou (by rw [hk3]; decide) (by rw [hk3]; decide)).trans h_f
    subst hX9
    refine vx_catch (name := nq_IAE) hown [] (⟨0, 10, 13, 13⟩ : ExceptionTableEntry) [] htb (fun z hz => absurd hz (by simp)) (by decide) (by decide) (hts (.classLink RL 13 nq_IAE) (by decide +kernel)) (hXs.2.2.2.2.1.use) h1 h2 h3 ?_
    refine lv_astore (lv' := [(4, .ref q9), (0, .ref a), (1, .int (I i)), (2, .int (I n)), (3, .ref ou)]) hx hb dL_put_13 hl (by decide) rfl (fun ls hl => ?_)
    refine lv_iconst (v := I 1) hx hb dL_put_15 (by decide) ?_
    refine W.widen (k := 5) (n := 245) (Nat.le_of_ble_eq_true rfl) (Nat.le_of_ble_eq_true rfl) ?_
    exact th_iret hx hb hr hlocks hH hS (z := 1) ⟨by decide, by decide⟩ ⟨E1, hX1, hO1, (fun x _ h0 hs9 => hF1 x h0 hs9), ⟨fo, hou⟩, ⟨fun h9 => absurd h9 hx9.1, fun _ => ⟨hx9.2.1, hx9.2.2.1, (by rw [hX1.ad2 h_a (by decide) 0]; exact hx9.2.2.2.1), (by rw [hX1.ad2 h_a (by decide) 3]; exact hx9.2.2.2.2)⟩⟩⟩ dL_put_16
  · obtain ⟨E1, hX1, hO1, hF1, hw⟩ := hw
    have hou : σ1 ou = some (.inl (y 1, 1, .inr (.inl fo))) := (hF1 ou (by rw [hk3]; decide) (by rw [hk3]; decide)).trans h_f
    refine lv_i2l (v := _) hx hb dL_put_8 rfl ?_
    refine th_lou9 hx hb hK hH hS h00 hou dL_put_9 (fun f1 H locs hf19 hH hS => ?_)
    refine lv_goto (tgt := 17) hx hb dL_put_10 (by decide) ?_
    refine lv_iconst (v := I 0) hx hb dL_put_17 (by decide) ?_
    have e1 : gI (th_up σ1 ou (.inl (y 1, 1, .inr (.inl f1)))) a 1 = gI σ1 a 1 := gI_eq (gV_up hna)
    have e2 : gI (th_up σ1 ou (.inl (y 1, 1, .inr (.inl f1)))) a 2 = gI σ1 a 2 := gI_eq (gV_up hna)
    have er : aF (th_up σ1 ou (.inl (y 1, 1, .inr (.inl f1)))) (ad E1 a 0) = aF σ1 (ad E a 0) := by rw [hX1.ad2 h_a (by decide) 0, aF_up (hO.neor h_a (by decide) k12_0 isA1 h_o (by decide))]
    have eq : aQ (th_up σ1 ou (.inl (y 1, 1, .inr (.inl f1)))) (ad E1 a 3) = aQ σ1 (ad E a 3) := by rw [hX1.ad2 h_a (by decide) 3, aQ_up (hO.neoq h_a (by decide) k12_3 h_o (by decide))]
    refine W.widen (k := 5) (n := 245) (Nat.le_of_ble_eq_true rfl) (Nat.le_of_ble_eq_true rfl) ?_
    exact th_iret hx hb hr hlocks hH hS (z := 0) ⟨by decide, by decide⟩ ⟨E1, hX1, hO1.upou (ou_ext hX1 h_o h_m) _, (fun x hne h0 hs9 => (th_up_ne _ _ hne).trans (hF1 x h0 hs9)), ⟨f1, th_up_at _ _ _⟩, ⟨fun _ => ⟨e1.trans hw.1.2, fun h6 => (by obtain ⟨T, v, p, h7, h8, h9⟩ := hw.2.2.1 h6; exact ⟨T, v, p, h7, ⟨h8, eq.trans hw.2.1⟩, e2.trans h9⟩), fun h6 => ⟨e2.trans (hw.2.2.2 h6), eq.trans hw.2.1⟩⟩, fun h9 => absurd hw.1.1 h9⟩⟩ dL_put_18

set_option maxHeartbeats 400000 in
set_option maxRecDepth 100000 in
theorem w_append (l : Launch) (hl0 : l.stackTraces = false) (G : va_G) (y : Nat → ClassId) (b0 : Nat) (σ : th_M) (E : th_E) (hO : ok y E σ) (a : Nat) (h_a : kd E a = 12) (m0 : Nat) (h_m : kd E m0 = 13) (ou : Nat) (h_o : ow E ou = (m0, 98)) (fo : Nat → Int64) (h_f : σ ou = some (.inl (y 1, 1, .inr (.inl fo)))) (i : Int) (ri : rng i) (n : Int) (rn : rng n) (hy0 : ∀ k : Int, 0 ≤ k → k < gI σ a 1 → 0 ≤ (aF σ (ad E a 0) k.toNat).toInt ∧ (aF σ (ad E a 0) k.toNat).toInt ≤ 255) (hy1 : ad E (ad E a 6) 0 = ad E a 5) : Met l yL_append wsL_append ({ frames := 48, cells := 5, slots := 245, locals := 1787 }) (th_PX G y b0 σ [.ref a, .int (I i), .int (I n), .ref ou]) (th_Qi G b0 (fun r σ1 => ∃ E1, ext E E1 ∧ ok y E1 σ1 ∧ fx [12, 5, 3, 1, 2, 6] E σ σ1 ou ∧ (∃ f1 : Nat → Int64, σ1 ou = some (.inl (y 1, 1, .inr (.inl f1)))) ∧ (rd9 (0 ≤ n ∧ n ≤ gI σ a 1) ((pAt σ E a i).isSome = true) (fun T v p => TopR T v p ∧ (aQ σ1 (ad E1 a 3)) = (aQ σ (ad E a 3))) (aF σ (ad E a 0)) (aF σ1 (ad E1 a 0)) n (gI σ a 1) (gI σ1 a 1) (gI σ a 2) (gI σ1 a 2) (aQ σ (ad E a 3)) (aQ σ1 (ad E1 a 3))))) 5 245 (th_A b0) := by
  refine va_MetW (cc := cL_append) (maxL := 5) (ret := (some .int)) (hh := [(0, 10, 13, 13)]) (by decide) rfl ?_
  intro p e s m args below meth c s₁ B hml hv
  obtain ⟨rfl, hH, hK, hXs⟩ := hv
  have hx := B.exec
  have hb := B.bytes
  have hr := B.returns
  have hts := atoms_spec (ws := wsL_append) B.pre
  have hown : s.vm.findClass RL = some m.cls := findClass_of_methodNamed B.named
  have hlocks := B.notSynchronized
  have htb := vx_table (x := objectInit) (hh := [(0, 10, 13, 13)]) B (hts _ List.mem_cons_self)
  have h00 : b0 ≤ s.heap.size := hH.1
  have hS : va_S (th_A b0) s.heap s.heap [] := va_S.rf
  have hna : a ≠ ou := hO.neou h_a (by decide) h_o
  have hk3 := ow_k h_o h_m
  obtain ⟨_, hc⟩ := hO.cell h_a (by decide) (ci := 10) rfl
  have hl := lv_entry ([.ref a, .int (I i), .int (I n), .ref ou]) (n := 5) (Nat.le_of_ble_eq_true rfl)
  rw [lg_entry_eq]
  generalize (lg_sl ([.ref a, .int (I i), .int (I n), .ref ou]) ++ List.replicate (5 - (lg_sl ([.ref a, .int (I i), .int (I n), .ref ou])).length) Slot.unset).toArray = ls at hl ⊢
  have hl : lv_has ls 5 [(0, .ref a), (1, .int (I i)), (2, .int (I n)), (3, .ref ou)] := hl
  refine lv_aload_n hx hb dL_append_0 rfl (lv_at hl 3 rfl) ?_
  refine lv_iconst (v := I 0) hx hb dL_append_1 (by decide) ?_
  refine lv_aload_n hx hb dL_append_2 rfl (lv_at hl 0 rfl) ?_
  refine lv_iload_n hx hb dL_append_3 rfl (lv_at hl 1 rfl) ?_
  refine lv_iload_n hx hb dL_append_4 rfl (lv_at hl 2 rfl) ?_
  refine th_xcalli (vx_runV (As := [.int (I i), .int (I n)]) (rest := [.int (I 0), .ref ou]) ⟨hx, hb, hml, hown, hts⟩ (x8_append l hl0 G y b0 σ E hO a h_a i ri n rn hy0 hy1) (cwV 2 hts gL_append_X10_append rfl rfl rfl (by decide +kernel) ⟨Nat.le_of_ble_eq_true rfl, Nat.le_of_ble_eq_true rfl⟩) (th_PXV hK hXs hS hH rfl hc) rfl rfl hl.1 rfl (lv_room (Nat.le_of_ble_eq_true rfl)) dL_append_5 ⟨Nat.le_of_ble_eq_true rfl, Nat.le_of_ble_eq_true rfl⟩) hS (fun X9 ce9 q9 σ1 H locs hx9 hH hS h1 h2 h3 => ?_) (fun z σ1 H locs rz hw hH hS => ?_)
  · obtain ⟨E1, hX1, hO1, hF1, hX9, hx9⟩ := hx9
    have hou : σ1 ou = some (.inl (y 1, 1, .inr (.inl fo))) := (hF1 ou (by rw [hk3]; decide) (by rw [hk3]; decide)).trans h_f
    subst hX9
    refine vx_catch (name := nq_IAE) hown [] (⟨0, 10, 13, 13⟩ : ExceptionTableEntry) [] htb (fun z hz => absurd hz (by simp)) (by decide) (by decide) (hts (.classLink RL 13 nq_IAE) (by decide +kernel)) (hXs.2.2.2.2.1.use) h1 h2 h3 ?_
    refine lv_astore (lv' := [(4, .ref q9), (0, .ref a), (1, .int (I i)), (2, .int (I n)), (3, .ref ou)]) hx hb dL_append_13 hl (by decide) rfl (fun ls hl => ?_)
    refine lv_iconst (v := I 1) hx hb dL_append_15 (by decide) ?_
    refine W.widen (k := 5) (n := 245) (Nat.le_of_ble_eq_true rfl) (Nat.le_of_ble_eq_true rfl) ?_
    exact th_iret hx hb hr hlocks hH hS (z := 1) ⟨by decide, by decide⟩ ⟨E1, hX1, hO1, (fun x _ h0 hs9 => hF1 x h0 hs9), ⟨fo, hou⟩, ⟨fun h9 => absurd h9 hx9.1, fun _ => ⟨hx9.2.1, hx9.2.2.1, (by rw [hX1.ad2 h_a (by decide) 0]; exact hx9.2.2.2.1), (by rw [hX1.ad2 h_a (by decide) 3]; exact hx9.2.2.2.2)⟩⟩⟩ dL_append_16
  · obtain ⟨E1, hX1, hO1, hF1, hw⟩ := hw
    have hou : σ1 ou = some (.inl (y 1, 1, .inr (.inl fo))) := (hF1 ou (by rw [hk3]; decide) (by rw [hk3]; decide)).trans h_f
    refine lv_i2l (v := _) hx hb dL_append_8 rfl ?_
    refine th_lou9 hx hb hK hH hS h00 hou dL_append_9 (fun f1 H locs hf19 hH hS => ?_)
    refine lv_goto (tgt := 17) hx hb dL_append_10 (by decide) ?_
    refine lv_iconst (v := I 0) hx hb dL_append_17 (by decide) ?_
    have e1 : gI (th_up σ1 ou (.inl (y 1, 1, .inr (.inl f1)))) a 1 = gI σ1 a 1 := gI_eq (gV_up hna)
    have e2 : gI (th_up σ1 ou (.inl (y 1, 1, .inr (.inl f1)))) a 2 = gI σ1 a 2 := gI_eq (gV_up hna)
    have er : aF (th_up σ1 ou (.inl (y 1, 1, .inr (.inl f1)))) (ad E1 a 0) = aF σ1 (ad E a 0) := by rw [hX1.ad2 h_a (by decide) 0, aF_up (hO.neor h_a (by decide) k12_0 isA1 h_o (by decide))]
    have eq : aQ (th_up σ1 ou (.inl (y 1, 1, .inr (.inl f1)))) (ad E1 a 3) = aQ σ1 (ad E a 3) := by rw [hX1.ad2 h_a (by decide) 3, aQ_up (hO.neoq h_a (by decide) k12_3 h_o (by decide))]
    refine W.widen (k := 5) (n := 245) (Nat.le_of_ble_eq_true rfl) (Nat.le_of_ble_eq_true rfl) ?_
    exact th_iret hx hb hr hlocks hH hS (z := 0) ⟨by decide, by decide⟩ ⟨E1, hX1, hO1.upou (ou_ext hX1 h_o h_m) _, (fun x hne h0 hs9 => (th_up_ne _ _ hne).trans (hF1 x h0 hs9)), ⟨f1, th_up_at _ _ _⟩, ⟨fun _ => ⟨e1.trans hw.1.2, fun h6 => (by obtain ⟨T, v, p, h7, h8, h9⟩ := hw.2.2.1 h6; exact ⟨T, v, p, h7, ⟨h8, eq.trans hw.2.1⟩, e2.trans h9⟩), fun h6 => ⟨e2.trans (hw.2.2.2 h6), eq.trans hw.2.1⟩⟩, fun h9 => absurd hw.1.1 h9⟩⟩ dL_append_18

set_option maxHeartbeats 400000 in
set_option maxRecDepth 100000 in
theorem w_key (l : Launch) (hl0 : l.stackTraces = false) (G : va_G) (y : Nat → ClassId) (b0 : Nat) (σ : th_M) (E : th_E) (hO : ok y E σ) (a : Nat) (h_a : kd E a = 12) (m0 : Nat) (h_m : kd E m0 = 13) (ou : Nat) (h_o : ow E ou = (m0, 98)) (fo : Nat → Int64) (h_f : σ ou = some (.inl (y 1, 1, .inr (.inl fo)))) (i : Int) (ri : rng i) (j : Int) (rj : rng j) (n : Int) (rn : rng n) (hy0 : ∀ k : Int, 0 ≤ k → k < gI σ a 1 → 0 ≤ (aF σ (ad E a 0) k.toNat).toInt ∧ (aF σ (ad E a 0) k.toNat).toInt ≤ 255) (hy1 : ad E (ad E a 6) 0 = ad E a 5) : Met l yL_key wsL_key ({ frames := 48, cells := 5, slots := 245, locals := 1788 }) (th_PX G y b0 σ [.ref a, .int (I i), .int (I j), .int (I n), .ref ou]) (th_Qi G b0 (fun r σ1 => ∃ E1, ext E E1 ∧ ok y E1 σ1 ∧ fx [12, 5, 3, 1, 2, 6] E σ σ1 ou ∧ (∃ f1 : Nat → Int64, σ1 ou = some (.inl (y 1, 1, .inr (.inl f1)))) ∧ (rd9 (0 ≤ n ∧ n ≤ gI σ a 1) ((pAt σ E a i).isSome = true ∧ isW j) (fun T v p => TopR T v p ∧ (aQ σ1 (ad E1 a 3)) = (aQ σ (ad E a 3))) (aF σ (ad E a 0)) (aF σ1 (ad E1 a 0)) n (gI σ a 1) (gI σ1 a 1) (gI σ a 2) (gI σ1 a 2) (aQ σ (ad E a 3)) (aQ σ1 (ad E1 a 3))))) 5 245 (th_A b0) := by
  refine va_MetW (cc := cL_key) (maxL := 6) (ret := (some .int)) (hh := [(0, 12, 15, 13)]) (by decide) rfl ?_
  intro p e s m args below meth c s₁ B hml hv
  obtain ⟨rfl, hH, hK, hXs⟩ := hv
  have hx := B.exec
  have hb := B.bytes
  have hr := B.returns
  have hts := atoms_spec (ws := wsL_key) B.pre
  have hown : s.vm.findClass RL = some m.cls := findClass_of_methodNamed B.named
  have hlocks := B.notSynchronized
  have htb := vx_table (x := objectInit) (hh := [(0, 12, 15, 13)]) B (hts _ List.mem_cons_self)
  have h00 : b0 ≤ s.heap.size := hH.1
  have hS : va_S (th_A b0) s.heap s.heap [] := va_S.rf
  have hna : a ≠ ou := hO.neou h_a (by decide) h_o
  have hk3 := ow_k h_o h_m
  obtain ⟨_, hc⟩ := hO.cell h_a (by decide) (ci := 10) rfl
  have hl := lv_entry ([.ref a, .int (I i), .int (I j), .int (I n), .ref ou]) (n := 6) (Nat.le_of_ble_eq_true rfl)
  rw [lg_entry_eq]
  generalize (lg_sl ([.ref a, .int (I i), .int (I j), .int (I n), .ref ou]) ++ List.replicate (6 - (lg_sl ([.ref a, .int (I i), .int (I j), .int (I n), .ref ou])).length) Slot.unset).toArray = ls at hl ⊢
  have hl : lv_has ls 6 [(0, .ref a), (1, .int (I i)), (2, .int (I j)), (3, .int (I n)), (4, .ref ou)] := hl
  refine lv_aload hx hb dL_key_0 (lv_at hl 4 rfl) ?_
  refine lv_iconst (v := I 0) hx hb dL_key_2 (by decide) ?_
  refine lv_aload_n hx hb dL_key_3 rfl (lv_at hl 0 rfl) ?_
  refine lv_iload_n hx hb dL_key_4 rfl (lv_at hl 1 rfl) ?_
  refine lv_iload_n hx hb dL_key_5 rfl (lv_at hl 2 rfl) ?_
  refine lv_iload_n hx hb dL_key_6 rfl (lv_at hl 3 rfl) ?_
  refine th_xcalli (vx_runV (As := [.int (I i), .int (I j), .int (I n)]) (rest := [.int (I 0), .ref ou]) ⟨hx, hb, hml, hown, hts⟩ (x8_key l hl0 G y b0 σ E hO a h_a i ri j rj n rn hy0 hy1) (cwV 3 hts gL_key_X10_key rfl rfl rfl (by decide +kernel) ⟨Nat.le_of_ble_eq_true rfl, Nat.le_of_ble_eq_true rfl⟩) (th_PXV hK hXs hS hH rfl hc) rfl rfl hl.1 rfl (lv_room (Nat.le_of_ble_eq_true rfl)) dL_key_7 ⟨Nat.le_of_ble_eq_true rfl, Nat.le_of_ble_eq_true rfl⟩) hS (fun X9 ce9 q9 σ1 H locs hx9 hH hS h1 h2 h3 => ?_) (fun z σ1 H locs rz hw hH hS => ?_)
  · obtain ⟨E1, hX1, hO1, hF1, hX9, hx9⟩ := hx9
    have hou : σ1 ou = some (.inl (y 1, 1, .inr (.inl fo))) := (hF1 ou (by rw [hk3]; decide) (by rw [hk3]; decide)).trans h_f
    subst hX9
    refine vx_catch (name := nq_IAE) hown [] (⟨0, 12, 15, 13⟩ : ExceptionTableEntry) [] htb (fun z hz => absurd hz (by simp)) (by decide) (by decide) (hts (.classLink RL 13 nq_IAE) (by decide +kernel)) (hXs.2.2.2.2.1.use) h1 h2 h3 ?_
    refine lv_astore (lv' := [(5, .ref q9), (0, .ref a), (1, .int (I i)), (2, .int (I j)), (3, .int (I n)), (4, .ref ou)]) hx hb dL_key_15 hl (by decide) rfl (fun ls hl => ?_)
    refine lv_iconst (v := I 1) hx hb dL_key_17 (by decide) ?_
    refine W.widen (k := 5) (n := 245) (Nat.le_of_ble_eq_true rfl) (Nat.le_of_ble_eq_true rfl) ?_
    exact th_iret hx hb hr hlocks hH hS (z := 1) ⟨by decide, by decide⟩ ⟨E1, hX1, hO1, (fun x _ h0 hs9 => hF1 x h0 hs9), ⟨fo, hou⟩, ⟨fun h9 => absurd h9 hx9.1, fun _ => ⟨hx9.2.1, hx9.2.2.1, (by rw [hX1.ad2 h_a (by decide) 0]; exact hx9.2.2.2.1), (by rw [hX1.ad2 h_a (by decide) 3]; exact hx9.2.2.2.2)⟩⟩⟩ dL_key_18
  · obtain ⟨E1, hX1, hO1, hF1, hw⟩ := hw
    have hou : σ1 ou = some (.inl (y 1, 1, .inr (.inl fo))) := (hF1 ou (by rw [hk3]; decide) (by rw [hk3]; decide)).trans h_f
    refine lv_i2l (v := _) hx hb dL_key_10 rfl ?_
    refine th_lou9 hx hb hK hH hS h00 hou dL_key_11 (fun f1 H locs hf19 hH hS => ?_)
    refine lv_goto (tgt := 19) hx hb dL_key_12 (by decide) ?_
    refine lv_iconst (v := I 0) hx hb dL_key_19 (by decide) ?_
    have e1 : gI (th_up σ1 ou (.inl (y 1, 1, .inr (.inl f1)))) a 1 = gI σ1 a 1 := gI_eq (gV_up hna)
    have e2 : gI (th_up σ1 ou (.inl (y 1, 1, .inr (.inl f1)))) a 2 = gI σ1 a 2 := gI_eq (gV_up hna)
    have er : aF (th_up σ1 ou (.inl (y 1, 1, .inr (.inl f1)))) (ad E1 a 0) = aF σ1 (ad E a 0) := by rw [hX1.ad2 h_a (by decide) 0, aF_up (hO.neor h_a (by decide) k12_0 isA1 h_o (by decide))]
    have eq : aQ (th_up σ1 ou (.inl (y 1, 1, .inr (.inl f1)))) (ad E1 a 3) = aQ σ1 (ad E a 3) := by rw [hX1.ad2 h_a (by decide) 3, aQ_up (hO.neoq h_a (by decide) k12_3 h_o (by decide))]
    refine W.widen (k := 5) (n := 245) (Nat.le_of_ble_eq_true rfl) (Nat.le_of_ble_eq_true rfl) ?_
    exact th_iret hx hb hr hlocks hH hS (z := 0) ⟨by decide, by decide⟩ ⟨E1, hX1, hO1.upou (ou_ext hX1 h_o h_m) _, (fun x hne h0 hs9 => (th_up_ne _ _ hne).trans (hF1 x h0 hs9)), ⟨f1, th_up_at _ _ _⟩, ⟨fun _ => ⟨e1.trans hw.1.2, fun h6 => (by obtain ⟨T, v, p, h7, h8, h9⟩ := hw.2.2.1 h6; exact ⟨T, v, p, h7, ⟨h8, eq.trans hw.2.1⟩, e2.trans h9⟩), fun h6 => ⟨e2.trans (hw.2.2.2 h6), eq.trans hw.2.1⟩⟩, fun h9 => absurd hw.1.1 h9⟩⟩ dL_key_20

set_option maxHeartbeats 400000 in
set_option maxRecDepth 100000 in
theorem w_years (l : Launch) (hl0 : l.stackTraces = false) (G : va_G) (y : Nat → ClassId) (b0 : Nat) (σ : th_M) (E : th_E) (hO : ok y E σ) (a : Nat) (h_a : kd E a = 12) (m0 : Nat) (h_m : kd E m0 = 13) (ou : Nat) (h_o : ow E ou = (m0, 98)) (fo : Nat → Int64) (h_f : σ ou = some (.inl (y 1, 1, .inr (.inl fo)))) (i : Int) (ri : rng i) (n : Int) (rn : rng n) (j : Int) (rj : rng j) : Met l yL_years wsL_years ({ frames := 8, cells := 100, slots := 4900, locals := 265 }) (th_PX G y b0 σ [.ref a, .int (I i), .int (I n), .int (I j), .ref ou]) (th_Qi G b0 (fun r σ1 => ∃ E1, ext E E1 ∧ ok y E1 σ1 ∧ fx [9, 5, 1, 2, 6] E σ σ1 ou ∧ (∃ f1 : Nat → Int64, σ1 ou = some (.inl (y 1, 1, .inr (.inl f1)))) ∧ ((gI σ1 a 1 = gI σ a 1 ∧ gI σ1 a 2 = gI σ a 2) ∧ aF σ1 (ad E1 a 0) = aF σ (ad E a 0) ∧ (aQ σ1 (ad E1 a 3)) = (aQ σ (ad E a 3))))) 100 4900 (th_A b0) := by
  refine va_MetW (cc := cL_years) (maxL := 6) (ret := (some .int)) (hh := [(0, 12, 15, 19), (0, 12, 19, 13)]) (by decide) rfl ?_
  intro p e s m args below meth c s₁ B hml hv
  obtain ⟨rfl, hH, hK, hXs⟩ := hv
  have hx := B.exec
  have hb := B.bytes
  have hr := B.returns
  have hts := atoms_spec (ws := wsL_years) B.pre
  have hown : s.vm.findClass RL = some m.cls := findClass_of_methodNamed B.named
  have hlocks := B.notSynchronized
  have htb := vx_table (x := objectInit) (hh := [(0, 12, 15, 19), (0, 12, 19, 13)]) B (hts _ List.mem_cons_self)
  have h00 : b0 ≤ s.heap.size := hH.1
  have hS : va_S (th_A b0) s.heap s.heap [] := va_S.rf
  have hna : a ≠ ou := hO.neou h_a (by decide) h_o
  have hk3 := ow_k h_o h_m
  obtain ⟨_, hc⟩ := hO.cell h_a (by decide) (ci := 10) rfl
  have hl := lv_entry ([.ref a, .int (I i), .int (I n), .int (I j), .ref ou]) (n := 6) (Nat.le_of_ble_eq_true rfl)
  rw [lg_entry_eq]
  generalize (lg_sl ([.ref a, .int (I i), .int (I n), .int (I j), .ref ou]) ++ List.replicate (6 - (lg_sl ([.ref a, .int (I i), .int (I n), .int (I j), .ref ou])).length) Slot.unset).toArray = ls at hl ⊢
  have hl : lv_has ls 6 [(0, .ref a), (1, .int (I i)), (2, .int (I n)), (3, .int (I j)), (4, .ref ou)] := hl
  refine lv_aload hx hb dL_years_0 (lv_at hl 4 rfl) ?_
  refine lv_iconst (v := I 0) hx hb dL_years_2 (by decide) ?_
  refine lv_aload_n hx hb dL_years_3 rfl (lv_at hl 0 rfl) ?_
  refine lv_iload_n hx hb dL_years_4 rfl (lv_at hl 1 rfl) ?_
  refine lv_iload_n hx hb dL_years_5 rfl (lv_at hl 2 rfl) ?_
  refine lv_iload_n hx hb dL_years_6 rfl (lv_at hl 3 rfl) ?_
  refine th_xcalli (vx_runV (As := [.int (I i), .int (I n), .int (I j)]) (rest := [.int (I 0), .ref ou]) ⟨hx, hb, hml, hown, hts⟩ (x_years l hl0 G y b0 σ E hO a h_a i ri n rn j rj) (cwV 3 hts gL_years_X10_years rfl rfl rfl (by decide +kernel) ⟨Nat.le_of_ble_eq_true rfl, Nat.le_of_ble_eq_true rfl⟩) (th_PXV hK hXs hS hH rfl hc) rfl rfl hl.1 rfl (lv_room (Nat.le_of_ble_eq_true rfl)) dL_years_7 ⟨Nat.le_of_ble_eq_true rfl, Nat.le_of_ble_eq_true rfl⟩) hS (fun X9 ce9 q9 σ1 H locs hx9 hH hS h1 h2 h3 => ?_) (fun z σ1 H locs rz hw hH hS => ?_)
  · obtain ⟨E1, hX1, hO1, hF1, hX9, hx8⟩ := hx9
    have hou : σ1 ou = some (.inl (y 1, 1, .inr (.inl fo))) := (hF1 ou (by rw [hk3]; decide) (by rw [hk3]; decide)).trans h_f
    have k2 := fr.ki hO hF1 h_a (by decide) (by decide) 2
    have kr := fr.af hO hF1 h_a (by decide) (by decide) k12_0 isA1
    have kq := fr.aq hO hF1 h_a (by decide) (by decide) k12_3
    rcases hX9 with hX9 | hX9
    · subst hX9
      refine vx_catch (name := nq_NSE) hown [] (⟨0, 12, 15, 19⟩ : ExceptionTableEntry) [(⟨0, 12, 19, 13⟩ : ExceptionTableEntry)] htb (fun z hz => absurd hz (by simp)) (by decide) (by decide) (hts (.classLink RL 19 nq_NSE) (by decide +kernel)) (hXs.2.2.2.1.use) h1 h2 h3 ?_
      refine lv_astore (lv' := [(5, .ref q9), (0, .ref a), (1, .int (I i)), (2, .int (I n)), (3, .int (I j)), (4, .ref ou)]) hx hb dL_years_15 hl (by decide) rfl (fun ls hl => ?_)
      refine lv_iconst (v := I 1) hx hb dL_years_17 (by decide) ?_
      refine W.widen (k := 100) (n := 4900) (Nat.le_of_ble_eq_true rfl) (Nat.le_of_ble_eq_true rfl) ?_
      exact th_iret hx hb hr hlocks hH hS (z := 1) ⟨by decide, by decide⟩ ⟨E1, hX1, hO1, (fun x _ h0 hs9 => hF1 x h0 hs9), ⟨fo, hou⟩, ⟨⟨by omega, by omega⟩, (by rw [hX1.ad2 h_a (by decide) 0]; exact kr), (by rw [hX1.ad2 h_a (by decide) 3]; exact kq)⟩⟩ dL_years_18
    · subst hX9
      refine vx_catch (name := nq_IAE) hown [(⟨0, 12, 15, 19⟩ : ExceptionTableEntry)] (⟨0, 12, 19, 13⟩ : ExceptionTableEntry) [] htb (fun z hz => by rw [List.mem_singleton.mp hz]; exact Or.inr ⟨by decide, nq_NSE, hts (.classLink RL 19 nq_NSE) (by decide +kernel), hXs.2.2.2.2.2.1⟩) (by decide) (by decide) (hts (.classLink RL 13 nq_IAE) (by decide +kernel)) (hXs.2.2.2.2.1.use) h1 h2 h3 ?_
      refine lv_astore (lv' := [(5, .ref q9), (0, .ref a), (1, .int (I i)), (2, .int (I n)), (3, .int (I j)), (4, .ref ou)]) hx hb dL_years_19 hl (by decide) rfl (fun ls hl => ?_)
      refine lv_iconst (v := I 2) hx hb dL_years_21 (by decide) ?_
      refine W.widen (k := 100) (n := 4900) (Nat.le_of_ble_eq_true rfl) (Nat.le_of_ble_eq_true rfl) ?_
      exact th_iret hx hb hr hlocks hH hS (z := 2) ⟨by decide, by decide⟩ ⟨E1, hX1, hO1, (fun x _ h0 hs9 => hF1 x h0 hs9), ⟨fo, hou⟩, ⟨⟨by omega, by omega⟩, (by rw [hX1.ad2 h_a (by decide) 0]; exact kr), (by rw [hX1.ad2 h_a (by decide) 3]; exact kq)⟩⟩ dL_years_22
  · obtain ⟨E1, hX1, hO1, hF1, hw⟩ := hw
    have hou : σ1 ou = some (.inl (y 1, 1, .inr (.inl fo))) := (hF1 ou (by rw [hk3]; decide) (by rw [hk3]; decide)).trans h_f
    have k2 := fr.ki hO hF1 h_a (by decide) (by decide) 2
    have kr := fr.af hO hF1 h_a (by decide) (by decide) k12_0 isA1
    have kq := fr.aq hO hF1 h_a (by decide) (by decide) k12_3
    refine lv_i2l (v := _) hx hb dL_years_10 rfl ?_
    refine th_lou9 hx hb hK hH hS h00 hou dL_years_11 (fun f1 H locs hf19 hH hS => ?_)
    refine lv_goto (tgt := 23) hx hb dL_years_12 (by decide) ?_
    refine lv_iconst (v := I 0) hx hb dL_years_23 (by decide) ?_
    have e1 : gI (th_up σ1 ou (.inl (y 1, 1, .inr (.inl f1)))) a 1 = gI σ1 a 1 := gI_eq (gV_up hna)
    have e2 : gI (th_up σ1 ou (.inl (y 1, 1, .inr (.inl f1)))) a 2 = gI σ1 a 2 := gI_eq (gV_up hna)
    have er : aF (th_up σ1 ou (.inl (y 1, 1, .inr (.inl f1)))) (ad E1 a 0) = aF σ1 (ad E a 0) := by rw [hX1.ad2 h_a (by decide) 0, aF_up (hO.neor h_a (by decide) k12_0 isA1 h_o (by decide))]
    have eq : aQ (th_up σ1 ou (.inl (y 1, 1, .inr (.inl f1)))) (ad E1 a 3) = aQ σ1 (ad E a 3) := by rw [hX1.ad2 h_a (by decide) 3, aQ_up (hO.neoq h_a (by decide) k12_3 h_o (by decide))]
    refine W.widen (k := 100) (n := 4900) (Nat.le_of_ble_eq_true rfl) (Nat.le_of_ble_eq_true rfl) ?_
    exact th_iret hx hb hr hlocks hH hS (z := 0) ⟨by decide, by decide⟩ ⟨E1, hX1, hO1.upou (ou_ext hX1 h_o h_m) _, (fun x hne h0 hs9 => (th_up_ne _ _ hne).trans (hF1 x h0 hs9)), ⟨f1, th_up_at _ _ _⟩, ⟨⟨by omega, by omega⟩, er.trans kr, eq.trans kq⟩⟩ dL_years_24
