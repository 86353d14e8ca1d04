def nq_F : List (String × Nat × String × String × String × String) := [("NestQuery$PathReader", 41, "NestQuery$Path", "stepCount", "I", "NestQuery"), ("NestQuery", 279, "NestQuery$Path", "stepCount", "I", "NestQuery"), ("NestQuery$PathReader", 70, "NestQuery$Path", "codeCount", "I", "NestQuery"), ("NestQuery$PathReader", 86, "NestQuery$Path", "testCount", "I", "NestQuery"), ("NestQuery$DataReader", 30, "NestQuery$Tokens", "kind", "I", "NestQuery"), ("NestQuery$PathReader", 30, "NestQuery$Tokens", "kind", "I", "NestQuery"), ("NestQuery$PathReader", 26, "NestQuery$Tokens", "fault", "I", "NestQuery"), ("NestQuery$DataReader", 38, "NestQuery$Tokens", "fault", "I", "NestQuery"), ("NestQuery", 379, "NestQuery$Tokens", "faultPlace", "I", "NestQuery"), ("NestQuery$Acts", 31, "NestQuery$Tree", "size", "I", "NestQuery"), ("NestQuery$DataReader", 45, "NestQuery$Tree", "size", "I", "NestQuery"), ("NestQuery", 161, "NestQuery$Tree", "size", "I", "NestQuery"), ("NestQuery$Path", 60, "NestQuery$Tree", "size", "I", "NestQuery"), ("NestQuery", 107, "NestQuery$State", "tree", "LNestQuery$Tree;", "NestQuery"), ("NestQuery$Acts", 44, "NestQuery$State", "tree", "LNestQuery$Tree;", "NestQuery"), ("NestQuery", 139, "NestQuery$State", "actCount", "I", "NestQuery"), ("NestQuery", 142, "NestQuery$State", "notedCount", "I", "NestQuery"), ("NestQuery", 177, "NestQuery$Patch", "rowCount", "I", "NestQuery"), ("NestQuery$Acts", 172, "NestQuery$Patch", "rowCount", "I", "NestQuery"), ("NestQuery", 406, "NestQuery$TextOut", "length", "I", "NestQuery")]
def nq_M : List (String × Nat × MethodName × String) := [("NestQuery", 23, ⟨"NestQuery$Path", "<init>", "()V"⟩, "NestQuery"), ("NestQuery", 30, ⟨"NestQuery$Tokens", "<init>", "()V"⟩, "NestQuery"), ("NestQuery", 62, ⟨"NestQuery$State", "<init>", "()V"⟩, "NestQuery"), ("NestQuery", 81, ⟨"NestQuery$Patch", "<init>", "()V"⟩, "NestQuery"), ("NestQuery", 91, ⟨"NestQuery$TextOut", "<init>", "()V"⟩, "NestQuery"), ("NestQuery", 102, ⟨"NestQuery$Draws", "<init>", "()V"⟩, "NestQuery"), ("NestQuery$Path", 73, ⟨"NestQuery", "bit", "(I)J"⟩, "NestQuery"), ("NestQuery$Acts", 51, ⟨"NestQuery", "isIn", "(JI)Z"⟩, "NestQuery"), ("NestQuery$Acts", 59, ⟨"NestQuery", "bit", "(I)J"⟩, "NestQuery"), ("NestQuery$Acts", 169, ⟨"NestQuery", "isWord", "(I)Z"⟩, "NestQuery"), ("NestQuery$State", 49, ⟨"NestQuery", "isIn", "(JI)Z"⟩, "NestQuery"), ("NestQuery$DataReader", 58, ⟨"NestQuery", "firstLetterHighest", "(I)I"⟩, "NestQuery"), ("NestQuery$PathReader", 99, ⟨"NestQuery", "firstLetterHighest", "(I)I"⟩, "NestQuery")]
def nq_fc (x : String × Nat × String × String × String × String) : Cond := .fieldLinkNest x.1 x.2.1 x.2.2.1 x.2.2.2.1 x.2.2.2.2.1 x.2.2.2.2.2
def nq_mc (x : String × Nat × MethodName × String) : Cond := .methodLinkNest x.1 x.2.1 x.2.2.1 x.2.2.2
/-- the links among the nest's classes -/
def nq_N (U : State) : Prop := (∀ x ∈ nq_F, va_Nw (nq_fc x) U) ∧ ∀ x ∈ nq_M, va_Nw (nq_mc x) U
theorem nq_N.warm {s U : State} (hW : s.WarmedH U.vm) (h : nq_N s) : nq_N U := ⟨fun x hx => va_Nw.warmF hW (h.1 x hx), fun x hx => va_Nw.warmM hW (h.2 x hx)⟩
theorem nq_N.same {s U : State} (hv : s.vm = U.vm) (h : nq_N s) : nq_N U := ⟨fun x hx => va_Nw.same rfl hv (h.1 x hx), fun x hx => va_Nw.same rfl hv (h.2 x hx)⟩
abbrev tyL (y : Nat → ClassId) : List (ClassId × FieldType) := [(y 0, .int), (y 1, .long), (y 2, .boolean), (y 3, .object "NestQuery$Path"), (y 4, .object "NestQuery$Tree")]
/-- the classes, the array classes, the nest -/
def nq_K (G : va_G) (y : Nat → ClassId) (U : State) : Prop := va_K G vwCl (tyL y) U ∧ nq_N U ∧ va_AO "NestQuery$Path" U ∧ va_AO "NestQuery$Tree" U
theorem nq_K.warm {G : va_G} {y : Nat → ClassId} {s U : State} (hW : s.WarmedH U.vm) (h : nq_K G y s) : nq_K G y U := ⟨va_K.moved hW.alike h.1, h.2.1.warm hW, va_AO.moved hW.alike h.2.2.1, va_AO.moved hW.alike h.2.2.2⟩
/-- a contract's start: the arguments, the cells -/
def nq_P (G : va_G) (y : Nat → ClassId) (sz : Nat) (av : List Value) (ws : va_W) : Array Value → State → Prop := va_Pc av (fun U => U.heap.size = sz ∧ va_P G vwCl ws U.heap ∧ nq_K G y U ∧ va_D (fun _ => True) ws)
theorem nq_blind (G : va_G) (y : Nat → ClassId) (sz : Nat) (av : List Value) (ws : va_W) : FrameBlind (nq_P G y sz av ws) := by
  intro a U g mk q
  obtain ⟨q0, q1, qP, ⟨qK, qN, qA, qB⟩, qD⟩ := q
  exact ⟨q0, q1, qP, ⟨va_K.moved (u := U) (U := U.calling g mk a) (Vm.Alike.refl U.vm) qK, qN.same rfl, va_AO.moved (u := U) (U := U.calling g mk a) (Vm.Alike.refl U.vm) qA, va_AO.moved (u := U) (U := U.calling g mk a) (Vm.Alike.refl U.vm) qB⟩, qD⟩
theorem nq_D (A : Nat → Prop) {ws : va_W} (h : va_D A ws) : va_D (fun _ => True) ws := h.weaken (fun _ _ _ _ => trivial)
theorem nq_fm {α : Type} {is : List Nat} {f : Nat → Option α} {w : List α} (h : is.map f = w.map some) : is.filterMap f = w := by
  have h2 := congrArg (List.filterMap id) h
  simpa [List.filterMap_map] using h2
section NQ
variable {p : Program} {l : Launch} {e : Env} {R : Room} {s : State} {m : MethodId} {args : Array Value} {below : List Frame} {meth : Method} {c : Code} {H H0 : Heap} {locs : List Loc} {cells slots : Nat} {Q : State → Prop} {G : va_G} {y : Nat → ClassId} {ws wc : va_W} {A A0 : Nat → Prop} {As rest st0 : List Value} {b mc ms pc : Nat} {ls : Array Slot} {a : Array Value}
theorem nq_PS (hK : nq_K G y s) (hP : va_P G vwCl ws H) (hD : va_D A ws) (isC : List Nat) (hC : isC.map (fun i => ws[i]?) = wc.map some) (hn : va_nd isC = true) : PreS s H (nq_P G y H.size As wc) As :=
  ⟨nq_blind _ _ _ _ _, fun U hU hW => ⟨rfl, by rw [hU], by rw [hU]; exact hP.sub isC (nq_fm hC), hK.warm hW, nq_D _ (hD.sub isC hn hC)⟩⟩
theorem nq_PV (hK : nq_K G y s) (hP : va_P G vwCl ws H) (hD : va_D A ws) (isC : List Nat) (hC : isC.map (fun i => ws[i]?) = wc.map some) (hn : va_nd isC = true) (q0 : Nat) {ci : Nat} {q : vw_C} {fs : List Value} (hc : vwCl[ci]? = some q) (he : ws[q0]? = some (b, .inr (ci, fs))) : PreV s H q.1 b (nq_P G y H.size (.ref b :: As) wc) As :=
  ⟨nq_blind _ _ _ _ _, va_recv hK.1 hP hc he, fun U hU hW => ⟨rfl, by rw [hU], by rw [hU]; exact hP.sub isC (nq_fm hC), hK.warm hW, nq_D _ (hD.sub isC hn hC)⟩⟩
theorem nq_top {x z : Int32} (h : x = z) (k : W p l e R s m args below meth c H locs cells slots Q (F0 m pc ls (.int z :: rest))) : W p l e R s m args below meth c H locs cells slots Q (F0 m pc ls (.int x :: rest)) := h ▸ k
theorem nq_topl {x z : Int64} (h : x = z) (k : W p l e R s m args below meth c H locs cells slots Q (F0 m pc ls (.long z :: rest))) : W p l e R s m args below meth c H locs cells slots Q (F0 m pc ls (.long x :: rest)) := h ▸ k
theorem nq_topq {x z : Option Nat} (h : x = z) (k : W p l e R s m args below meth c H locs cells slots Q (F0 m pc ls (va_rf z :: rest))) : W p l e R s m args below meth c H locs cells slots Q (F0 m pc ls (va_rf x :: rest)) := h ▸ k
theorem nq_A0 {sz q : Nat} (h : va_A [] sz q) : sz ≤ q := by
  rcases h with ⟨k, e9, h⟩ | h
  · simp at h
  · exact h
/-- a call that changes no cell: an int -/
theorem nq_rdi {post : Int32 → Prop} (hr : va_Run p l e R s m args below meth c H locs cells slots mc ms (F0 m pc ls st0) rest (va_Qi (fun r (_ : Unit) => post r) (fun _ _ => True) (va_A [] H.size) a) (va_A [] H.size)) (hP : va_P G vwCl ws H) (hS : va_S A0 H0 H locs) (hA : ∀ q, H0.size ≤ q → A0 q)
    (kk : ∀ (r : Int32) (H1 : Heap) (locs1 : List Loc), post r → va_P G vwCl ws H1 → va_S A0 H0 H1 locs1 → W p l e R s m args below meth c H1 locs1 (cells + mc) (slots + ms) Q (F0 m (pc + 3) ls (.int r :: rest))) : W p l e R s m args below meth c H locs cells slots Q (F0 m pc ls st0) := by
  refine va_calli hr hS (fun q hq h => absurd (nq_A0 h) (Nat.not_le.mpr hq)) (fun q h => hA q (Nat.le_trans hS.1 (nq_A0 h))) (fun r u t H1 locs1 ht hvm hw hB hz hk hS1 => ?_)
  exact kk r H1 locs1 hw (hP.kept (fun k x hx => hk x.1 (hP k x hx).lt (fun h => absurd (nq_A0 h) (Nat.not_le.mpr (hP k x hx).lt)))) hS1
theorem nq_rdl {post : Int64 → Prop} (hr : va_Run p l e R s m args below meth c H locs cells slots mc ms (F0 m pc ls st0) rest (va_Ql (fun r (_ : Unit) => post r) (fun _ _ => True) (va_A [] H.size) a) (va_A [] H.size)) (hP : va_P G vwCl ws H) (hS : va_S A0 H0 H locs) (hA : ∀ q, H0.size ≤ q → A0 q)
    (kk : ∀ (r : Int64) (H1 : Heap) (locs1 : List Loc), post r → va_P G vwCl ws H1 → va_S A0 H0 H1 locs1 → W p l e R s m args below meth c H1 locs1 (cells + mc) (slots + ms) Q (F0 m (pc + 3) ls (.long r :: rest))) : W p l e R s m args below meth c H locs cells slots Q (F0 m pc ls st0) := by
  refine va_calll hr hS (fun q hq h => absurd (nq_A0 h) (Nat.not_le.mpr hq)) (fun q h => hA q (Nat.le_trans hS.1 (nq_A0 h))) (fun r u t H1 locs1 ht hvm hw hB hz hk hS1 => ?_)
  exact kk r H1 locs1 hw (hP.kept (fun k x hx => hk x.1 (hP k x hx).lt (fun h => absurd (nq_A0 h) (Nat.not_le.mpr (hP k x hx).lt)))) hS1
theorem nq_rdq {post : Option Nat → Prop} (hr : va_Run p l e R s m args below meth c H locs cells slots mc ms (F0 m pc ls st0) rest (va_Qq (fun r (_ : Unit) => post r) (fun _ _ => True) (va_A [] H.size) a) (va_A [] H.size)) (hP : va_P G vwCl ws H) (hS : va_S A0 H0 H locs) (hA : ∀ q, H0.size ≤ q → A0 q)
    (kk : ∀ (r : Option Nat) (H1 : Heap) (locs1 : List Loc), post r → va_P G vwCl ws H1 → va_S A0 H0 H1 locs1 → W p l e R s m args below meth c H1 locs1 (cells + mc) (slots + ms) Q (F0 m (pc + 3) ls (va_rf r :: rest))) : W p l e R s m args below meth c H locs cells slots Q (F0 m pc ls st0) := by
  refine va_callq hr hS (fun q hq h => absurd (nq_A0 h) (Nat.not_le.mpr hq)) (fun q h => hA q (Nat.le_trans hS.1 (nq_A0 h))) (fun r u t H1 locs1 ht hvm hw hB hz hk hS1 => ?_)
  exact kk r H1 locs1 hw (hP.kept (fun k x hx => hk x.1 (hP k x hx).lt (fun h => absurd (nq_A0 h) (Nat.not_le.mpr (hP k x hx).lt)))) hS1
/-- a call that changes its own cells wc to w1 u: void -/
theorem nq_wrv {S : Type} {post : S → Prop} {w1 : S → va_W} {wr : va_W} (hr : va_Run p l e R s m args below meth c H locs cells slots mc ms (F0 m pc ls st0) rest (va_Qv post (fun u t => va_P G vwCl (w1 u) t.heap ∧ va_D (va_A wc H.size) (w1 u)) (va_A wc H.size) a) (va_A wc H.size)) (hP : va_P G vwCl ws H) (hD : va_D A0 ws) (hS : va_S A0 H0 H locs) (hA : ∀ q, H0.size ≤ q → A0 q)
    (isC isR : List Nat) (hC : isC.map (fun i => ws[i]?) = wc.map some) (hR : isR.map (fun i => ws[i]?) = wr.map some) (hn : va_nd isR = true) (hdis : ∀ i ∈ isR, i ∉ isC)
    (kk : ∀ (u : S) (H1 : Heap) (locs1 : List Loc), post u → va_P G vwCl (wr ++ w1 u) H1 → va_D A0 (wr ++ w1 u) → va_S A0 H0 H1 locs1 → W p l e R s m args below meth c H1 locs1 (cells + mc) (slots + ms) Q (F0 m (pc + 3) ls rest)) : W p l e R s m args below meth c H locs cells slots Q (F0 m pc ls st0) := by
  have hFc := va_free (wc := wc) hD hS hA isC hC
  refine va_callv hr hS (fun q _ h => hFc q h) hFc (fun u t H1 locs1 ht hvm hw hB hz hk hS1 => ?_)
  obtain ⟨hP1, hD1⟩ := hB
  rw [ht] at hP1
  obtain ⟨hP2, hD2⟩ := va_join hP hD isC isR hC hR hn hdis hk hFc hP1 hD1
  exact kk u H1 locs1 hw hP2 hD2 hS1
theorem nq_wri {S : Type} {post : Int32 → S → Prop} {w1 : S → va_W} {wr : va_W} (hr : va_Run p l e R s m args below meth c H locs cells slots mc ms (F0 m pc ls st0) rest (va_Qi post (fun u t => va_P G vwCl (w1 u) t.heap ∧ va_D (va_A wc H.size) (w1 u)) (va_A wc H.size) a) (va_A wc H.size)) (hP : va_P G vwCl ws H) (hD : va_D A0 ws) (hS : va_S A0 H0 H locs) (hA : ∀ q, H0.size ≤ q → A0 q)
    (isC isR : List Nat) (hC : isC.map (fun i => ws[i]?) = wc.map some) (hR : isR.map (fun i => ws[i]?) = wr.map some) (hn : va_nd isR = true) (hdis : ∀ i ∈ isR, i ∉ isC)
    (kk : ∀ (r : Int32) (u : S) (H1 : Heap) (locs1 : List Loc), post r u → va_P G vwCl (wr ++ w1 u) H1 → va_D A0 (wr ++ w1 u) → va_S A0 H0 H1 locs1 → W p l e R s m args below meth c H1 locs1 (cells + mc) (slots + ms) Q (F0 m (pc + 3) ls (.int r :: rest))) : W p l e R s m args below meth c H locs cells slots Q (F0 m pc ls st0) := by
  have hFc := va_free (wc := wc) hD hS hA isC hC
  refine va_calli hr hS (fun q _ h => hFc q h) hFc (fun r u t H1 locs1 ht hvm hw hB hz hk hS1 => ?_)
  obtain ⟨hP1, hD1⟩ := hB
  rw [ht] at hP1
  obtain ⟨hP2, hD2⟩ := va_join hP hD isC isR hC hR hn hdis hk hFc hP1 hD1
  exact kk r u H1 locs1 hw hP2 hD2 hS1
/-- a new array whose class the list has -/
theorem nq_cls {tys : List (ClassId × FieldType)} {cl : List vw_C} {cA cB : ClassId} {ty : FieldType} (hK : va_K G cl tys s) {i j : Nat} (h1 : tys[i]? = some (cA, ty)) (h2 : tys[j]? = some (cB, ty)) : cA = cB := by
  have a1 := (hK.2 i _ h1).2
  have a2 := (hK.2 j _ h2).2
  cases ty <;> first
    | exact Option.some.inj (a1.symm.trans a2)
    | (obtain ⟨_, _, _, _, _, b1⟩ := a1; obtain ⟨_, _, _, _, _, b2⟩ := a2; exact Option.some.inj (b1.symm.trans b2))
theorem nq_newa {cc : ByteArray} {cl : List vw_C} {tys : List (ClassId × FieldType)} (hexec : p.tables.exec = Jvm.exec) (hb : c.code = cc) {atype : ArrayType} (harr : (Cond.arrayClass (newarray.typeOf atype)).before args s = true) {ty : FieldType} (hty : newarray.typeOf atype = ty) (hK : va_K G cl tys s) (t0 : Nat) {cA : ClassId} (ht : tys[t0]? = some (cA, ty)) (hP : va_P G cl ws H) (hD : va_D A ws) (hS : va_S A H0 H locs) (hA : ∀ q, H0.size ≤ q → A q)
    {n : Int32} {N' : Nat} {a0 : vp_A} (ha : ∀ cA : ClassId, vp_cell cA a0 = arrV cA N' (fun _ => defaultValue ty)) (hn : ¬ n < 0) (hN : n.toNatClampNeg = N') (hbytes : N' * componentBytes ty ≤ 536870912) (hcells : cells + 1 ≤ R.cells) (hslots : slots + N' ≤ R.slots) (hdg : decode cc pc = .ok (.newarray atype, 2))
    (kk : ∀ (q : Nat) (H1 : Heap), va_P G cl (ws ++ [(q, .inl (cA, a0))]) H1 → va_D A (ws ++ [(q, .inl (cA, a0))]) → va_S A H0 H1 locs → W p l e R s m args below meth c H1 locs (cells + 1) (slots + N') Q (F0 m (pc + 2) ls (.ref q :: rest))) : W p l e R s m args below meth c H locs cells slots Q (F0 m pc ls (.int n :: rest)) := by
  refine va_newa hexec hb harr hty hK hP hD hS hA ha hn hN hbytes hcells hslots hdg (fun q cB H1 hK1 hP1 hD1 hS1 => ?_)
  have hl : t0 < tys.length := (List.getElem?_eq_some_iff.mp ht).1
  have e1 : (tys ++ [(cB, ty)])[t0]? = some (cA, ty) := by rw [List.getElem?_append_left hl]; exact ht
  have e2 : (tys ++ [(cB, ty)])[tys.length]? = some (cB, ty) := by simp
  have := nq_cls hK1 e1 e2
  subst this
  exact kk q H1 hP1 hD1 hS1
theorem nq_newq {cc : ByteArray} {cl : List vw_C} {tys : List (ClassId × FieldType)} (hexec : p.tables.exec = Jvm.exec) (hb : c.code = cc) {own C : String} {index : Nat} (hown : s.vm.findClass own = some m.cls) (hclink : (Cond.classLink own index C).before args s = true) (hover : va_AO C s) (hK : va_K G cl tys s) (t0 : Nat) {cA : ClassId} (ht : tys[t0]? = some (cA, .object C)) (hP : va_P G cl ws H) (hD : va_D A ws) (hS : va_S A H0 H locs) (hA : ∀ q, H0.size ≤ q → A q)
    {n : Int32} {N' : Nat} (hn : ¬ n < 0) (hN : n.toNatClampNeg = N') (hbytes : N' * 4 ≤ 536870912) (hcells : cells + 1 ≤ R.cells) (hslots : slots + N' ≤ R.slots) (hdg : decode cc pc = .ok (.anewarray index, 3))
    (kk : ∀ (q : Nat) (H1 : Heap), va_P G cl (ws ++ [(q, .inl (cA, N', .inr (.inr (.inr (.inr (fun _ => none))))))]) H1 → va_D A (ws ++ [(q, .inl (cA, N', .inr (.inr (.inr (.inr (fun _ => none))))))]) → va_S A H0 H1 locs → W p l e R s m args below meth c H1 locs (cells + 1) (slots + N') Q (F0 m (pc + 3) ls (.ref q :: rest))) : W p l e R s m args below meth c H locs cells slots Q (F0 m pc ls (.int n :: rest)) := by
  refine va_newq hexec hb hown hclink hover hK hP hD hS hA hn hN hbytes hcells hslots hdg (fun q cB H1 hK1 hP1 hD1 hS1 => ?_)
  have hl : t0 < tys.length := (List.getElem?_eq_some_iff.mp ht).1
  have e1 : (tys ++ [(cB, FieldType.object C)])[t0]? = some (cA, .object C) := by rw [List.getElem?_append_left hl]; exact ht
  have e2 : (tys ++ [(cB, FieldType.object C)])[tys.length]? = some (cB, .object C) := by simp
  have := nq_cls hK1 e1 e2
  subst this
  exact kk q H1 hP1 hD1 hS1
end NQ
theorem nq_eq {x z : Int32} {a b : Int} (ha : x.toInt = a) (hb : z.toInt = b) (h : a = b) : x = z := Int32.toInt_inj.mp (by rw [ha, hb]; exact h)
/-- between two numbers: one -/
theorem nq_pin (k : Int32) {x lo hi : Int32} (h1 : ¬ x < lo) (h2 : ¬ hi < x) (e1 : lo = k := by decide) (e2 : hi = k := by decide) : x = k := by
  subst e1
  subst e2
  rw [Int32.lt_iff_toInt_lt] at h1 h2
  exact Int32.toInt_inj.mp (by omega)
theorem nq_in {i : Int32} {n : Nat} (h : (!(decide (i < 0)) && decide (i.toNatClampNeg < n)) = true) : vp_in i n := by
  simp only [Bool.and_eq_true, Bool.not_eq_true', decide_eq_false_iff_not, decide_eq_true_eq] at h
  rintro (h1 | h1)
  · exact h.1 h1
  · omega
theorem nq_inb {x lo hi : Int32} {n : Nat} (L : ¬ x < lo) (U : ¬ hi < x) (h1 : 0 ≤ lo.toInt) (h2 : hi.toInt < n) : vp_in x n := by
  rw [Int32.lt_iff_toInt_lt] at L U
  exact vp_in_iff.mpr ⟨by omega, by omega⟩
section NQB
variable {x k j lo hi : Int32}
theorem nq_hlt (c : x < k) (h : j.toInt + 1 = k.toInt) : ¬ j < x := by rw [Int32.lt_iff_toInt_lt] at *; omega
theorem nq_hnge (c : ¬ k ≤ x) (h : j.toInt + 1 = k.toInt) : ¬ j < x := by rw [Int32.le_iff_toInt_le] at c; rw [Int32.lt_iff_toInt_lt]; omega
theorem nq_hle (c : x ≤ k) : ¬ k < x := by rw [Int32.le_iff_toInt_le] at c; rw [Int32.lt_iff_toInt_lt]; omega
theorem nq_lge (c : k ≤ x) : ¬ x < k := by rw [Int32.le_iff_toInt_le] at c; rw [Int32.lt_iff_toInt_lt]; omega
theorem nq_lgt (c : k < x) (h : k.toInt + 1 = j.toInt) : ¬ x < j := by rw [Int32.lt_iff_toInt_lt] at *; omega
theorem nq_lnle (c : ¬ x ≤ k) (h : k.toInt + 1 = j.toInt) : ¬ x < j := by rw [Int32.le_iff_toInt_le] at c; rw [Int32.lt_iff_toInt_lt]; omega
theorem nq_xeL (L : ¬ x < lo) (h : k.toInt < lo.toInt) : ¬ x = k := by rw [Int32.lt_iff_toInt_lt] at L; rintro rfl; omega
theorem nq_xeU (U : ¬ hi < x) (h : hi.toInt < k.toInt) : ¬ x = k := by rw [Int32.lt_iff_toInt_lt] at U; rintro rfl; omega
theorem nq_nlt (L : ¬ x < lo) (h : k.toInt ≤ lo.toInt) : ¬ x < k := by rw [Int32.lt_iff_toInt_lt] at *; omega
theorem nq_nge (U : ¬ hi < x) (h : hi.toInt < k.toInt) : ¬ k ≤ x := by rw [Int32.lt_iff_toInt_lt] at U; rw [Int32.le_iff_toInt_le]; omega
theorem nq_ngt (U : ¬ hi < x) (h : hi.toInt ≤ k.toInt) : ¬ k < x := by rw [Int32.lt_iff_toInt_lt] at *; omega
theorem nq_nle (L : ¬ x < lo) (h : k.toInt < lo.toInt) : ¬ x ≤ k := by rw [Int32.lt_iff_toInt_lt] at L; rw [Int32.le_iff_toInt_le]; omega
theorem nq_plt (U : ¬ hi < x) (h : hi.toInt < k.toInt) : x < k := by rw [Int32.lt_iff_toInt_lt] at *; omega
theorem nq_pge (L : ¬ x < lo) (h : k.toInt ≤ lo.toInt) : k ≤ x := by rw [Int32.lt_iff_toInt_lt] at L; rw [Int32.le_iff_toInt_le]; omega
theorem nq_pgt (L : ¬ x < lo) (h : k.toInt < lo.toInt) : k < x := by rw [Int32.lt_iff_toInt_lt] at *; omega
theorem nq_ple (U : ¬ hi < x) (h : hi.toInt ≤ k.toInt) : x ≤ k := by rw [Int32.lt_iff_toInt_lt] at U; rw [Int32.le_iff_toInt_le]; omega
theorem nq_up (L : ¬ x < lo) (n : ¬ x = lo) {j : Int32} (h : lo.toInt + 1 = j.toInt) : ¬ x < j := by
  rw [Int32.lt_iff_toInt_lt] at *
  have : ¬ x.toInt = lo.toInt := fun q => n (Int32.toInt_inj.mp q)
  omega
theorem nq_dn (U : ¬ hi < x) (n : ¬ x = hi) {j : Int32} (h : j.toInt + 1 = hi.toInt) : ¬ j < x := by
  rw [Int32.lt_iff_toInt_lt] at *
  have : ¬ x.toInt = hi.toInt := fun q => n (Int32.toInt_inj.mp q)
  omega
end NQB

theorem nq_defX0 : ∀ j, j < 4 → defaultValue (tyX0 j) = vp_V [.null, .null, .null, .null] j := by
  intro j hj
  match j, hj with
  | 0, _ => rfl
  | 1, _ => rfl
  | 2, _ => rfl
  | 3, _ => rfl
  | j + 4, h => exact absurd h (by omega)
theorem nq_defX1 : ∀ j, j < 1 → defaultValue (tyX1 j) = vp_V [.null] j := by
  intro j hj
  match j, hj with
  | 0, _ => rfl
  | j + 1, h => exact absurd h (by omega)
theorem nq_defX2 : ∀ j, j < 1 → defaultValue (tyX2 j) = vp_V [.int 0] j := by
  intro j hj
  match j, hj with
  | 0, _ => rfl
  | j + 1, h => exact absurd h (by omega)
theorem nq_defX3 : ∀ j, j < 5 → defaultValue (tyX3 j) = vp_V [.null, .null, .null, .null, .int 0] j := by
  intro j hj
  match j, hj with
  | 0, _ => rfl
  | 1, _ => rfl
  | 2, _ => rfl
  | 3, _ => rfl
  | 4, _ => rfl
  | j + 5, h => exact absurd h (by omega)
theorem nq_defX4 : ∀ j, j < 14 → defaultValue (tyX4 j) = vp_V [.null, .null, .null, .int 0, .null, .int 0, .null, .null, .int 0, .null, .null, .null, .null, .int 0] j := by
  intro j hj
  match j, hj with
  | 0, _ => rfl
  | 1, _ => rfl
  | 2, _ => rfl
  | 3, _ => rfl
  | 4, _ => rfl
  | 5, _ => rfl
  | 6, _ => rfl
  | 7, _ => rfl
  | 8, _ => rfl
  | 9, _ => rfl
  | 10, _ => rfl
  | 11, _ => rfl
  | 12, _ => rfl
  | 13, _ => rfl
  | j + 14, h => exact absurd h (by omega)
theorem nq_defX5 : ∀ j, j < 1 → defaultValue (tyX5 j) = vp_V [.null] j := by
  intro j hj
  match j, hj with
  | 0, _ => rfl
  | j + 1, h => exact absurd h (by omega)
theorem nq_defX6 : ∀ j, j < 7 → defaultValue (tyX6 j) = vp_V [.null, .null, .int 0, .null, .null, .int 0, .null] j := by
  intro j hj
  match j, hj with
  | 0, _ => rfl
  | 1, _ => rfl
  | 2, _ => rfl
  | 3, _ => rfl
  | 4, _ => rfl
  | 5, _ => rfl
  | 6, _ => rfl
  | j + 7, h => exact absurd h (by omega)
theorem nq_defX7 : ∀ j, j < 2 → defaultValue (tyX7 j) = vp_V [.null, .int 0] j := by
  intro j hj
  match j, hj with
  | 0, _ => rfl
  | 1, _ => rfl
  | j + 2, h => exact absurd h (by omega)
theorem nq_defX8 : ∀ j, j < 9 → defaultValue (tyX8 j) = vp_V [.null, .null, .null, .null, .int 0, .int 0, .int 0, .int 0, .int 0] j := by
  intro j hj
  match j, hj with
  | 0, _ => rfl
  | 1, _ => rfl
  | 2, _ => rfl
  | 3, _ => rfl
  | 4, _ => rfl
  | 5, _ => rfl
  | 6, _ => rfl
  | 7, _ => rfl
  | 8, _ => rfl
  | j + 9, h => exact absurd h (by omega)
theorem nq_defX9 : ∀ j, j < 5 → defaultValue (tyX9 j) = vp_V [.null, .null, .null, .null, .int 0] j := by
  intro j hj
  match j, hj with
  | 0, _ => rfl
  | 1, _ => rfl
  | 2, _ => rfl
  | 3, _ => rfl
  | 4, _ => rfl
  | j + 5, h => exact absurd h (by omega)
theorem nq_defX10 : ∀ j, j < 18 → defaultValue (tyX10 j) = vp_V [.null, .int 0, .int 0, .null, .null, .null, .null, .null, .null, .null, .null, .int 0, .null, .null, .null, .null, .null, .null] j := by
  intro j hj
  match j, hj with
  | 0, _ => rfl
  | 1, _ => rfl
  | 2, _ => rfl
  | 3, _ => rfl
  | 4, _ => rfl
  | 5, _ => rfl
  | 6, _ => rfl
  | 7, _ => rfl
  | 8, _ => rfl
  | 9, _ => rfl
  | 10, _ => rfl
  | 11, _ => rfl
  | 12, _ => rfl
  | 13, _ => rfl
  | 14, _ => rfl
  | 15, _ => rfl
  | 16, _ => rfl
  | 17, _ => rfl
  | j + 18, h => exact absurd h (by omega)
theorem nq_defX11 : ∀ j, j < 66 → defaultValue (tyX11 j) = vp_V [.int 0, .null, .null, .null, .null, .int 0, .null, .null, .null, .null, .int 0, .int 0, .int 0, .int 0, .int 0, .int 0, .int 0, .int 0, .int 0, .int 0, .int 0, .int 0, .int 0, .null, .null, .int 0, .int 0, .int 0, .int 0, .int 0, .int 0, .null, .int 0, .int 0, .int 0, .null, .int 0, .null, .int 0, .null, .null, .null, .null, .null, .null, .null, .null, .null, .int 0, .null, .int 0, .int 0, .null, .null, .null, .int 0, .int 0, .null, .int 0, .int 0, .int 0, .null, .null, .null, .null, .null] j := by
  intro j hj
  match j, hj with
  | 0, _ => rfl
  | 1, _ => rfl
  | 2, _ => rfl
  | 3, _ => rfl
  | 4, _ => rfl
  | 5, _ => rfl
  | 6, _ => rfl
  | 7, _ => rfl
  | 8, _ => rfl
  | 9, _ => rfl
  | 10, _ => rfl
  | 11, _ => rfl
  | 12, _ => rfl
  | 13, _ => rfl
  | 14, _ => rfl
  | 15, _ => rfl
  | 16, _ => rfl
  | 17, _ => rfl
  | 18, _ => rfl
  | 19, _ => rfl
  | 20, _ => rfl
  | 21, _ => rfl
  | 22, _ => rfl
  | 23, _ => rfl
  | 24, _ => rfl
  | 25, _ => rfl
  | 26, _ => rfl
  | 27, _ => rfl
  | 28, _ => rfl
  | 29, _ => rfl
  | 30, _ => rfl
  | 31, _ => rfl
  | 32, _ => rfl
  | 33, _ => rfl
  | 34, _ => rfl
  | 35, _ => rfl
  | 36, _ => rfl
  | 37, _ => rfl
  | 38, _ => rfl
  | 39, _ => rfl
  | 40, _ => rfl
  | 41, _ => rfl
  | 42, _ => rfl
  | 43, _ => rfl
  | 44, _ => rfl
  | 45, _ => rfl
  | 46, _ => rfl
  | 47, _ => rfl
  | 48, _ => rfl
  | 49, _ => rfl
  | 50, _ => rfl
  | 51, _ => rfl
  | 52, _ => rfl
  | 53, _ => rfl
  | 54, _ => rfl
  | 55, _ => rfl
  | 56, _ => rfl
  | 57, _ => rfl
  | 58, _ => rfl
  | 59, _ => rfl
  | 60, _ => rfl
  | 61, _ => rfl
  | 62, _ => rfl
  | 63, _ => rfl
  | 64, _ => rfl
  | 65, _ => rfl
  | j + 66, h => exact absurd h (by omega)
