def nq_S : List (Nat × String) := [(126, "the tape has not so many bytes"), (151, "no such path may be"), (193, "no such count"), (404, "no such thing"), (231, "no such question about a thing"), (237, "no such thing at once within"), (409, "no such byte"), (261, "no such path is there"), (277, "no such answer"), (282, "no such step"), (284, "no such row"), (298, "no such question about a row"), (363, "no such question about years"), (365, "no such number of years")]
abbrev nq_IAE : String := "java/lang/IllegalArgumentException"
abbrev nq_NSE : String := "java/util/NoSuchElementException"
abbrev nq_sup : List String := ["java/lang/RuntimeException", "java/lang/Exception"]
def nq_C (C T : String) (U : State) : Prop := ∃ c t : ClassId, U.vm.findClass C = some c ∧ U.vm.findClass T = some t ∧ U.vm.assignable c t = true
theorem nq_C.of {args : Array Value} {s : State} {C T : String} (h : (Cond.castable C T).before args s = true) : nq_C C T s := by
  obtain ⟨c3, c4, h1, h2, h3⟩ := Cond.castable_spec h
  exact ⟨c3, c4, h1, h2, h3⟩
theorem nq_C.use {args : Array Value} {s : State} {C T : String} (h : nq_C C T s) : (Cond.castable C T).before args s = true := by
  obtain ⟨c, t, h1, h2, h3⟩ := h
  simp [Cond.before, Cond.holds, Cond.value, h1, h2, h3]
theorem nq_C.moved {C T : String} {u U : State} (hvm : u.vm.Alike U.vm) (h : nq_C C T u) : nq_C C T U := by
  obtain ⟨c, t, h1, h2, h3⟩ := h
  exact ⟨c, t, by rw [hvm.findClass]; exact h1, by rw [hvm.findClass]; exact h2, by rw [hvm.assignable]; exact h3⟩
def nq_Dl (x : MethodName) (U : State) : Prop := (Cond.declares x).before #[] U = true
theorem nq_Dl.of {x : MethodName} {A : Array Value} {U : State} (h : (Cond.declares x).before A U = true) : nq_Dl x U := va_any rfl h
theorem nq_Dl.use {x : MethodName} {A : Array Value} {U : State} (h : nq_Dl x U) : (Cond.declares x).before A U = true := va_any rfl h
theorem nq_Dl.moved {x : MethodName} {u U : State} (hvm : u.vm.Alike U.vm) (h : nq_Dl x u) : nq_Dl x U := by
  have h1 : (Cond.declares x).before #[] (u.setVm U.vm) = true := by
    rw [Cond.declares_setVm hvm]
    exact h
  have e := Cond.onTables_vm (A := #[]) (A' := #[]) (U := u) (U' := U) U.vm (Cond.declares x) rfl
  have hU : U.setVm U.vm = U := rfl
  rw [hU] at e
  unfold nq_Dl
  rw [← e]
  exact h1
abbrev nq_i1 : MethodName := ⟨"java/lang/RuntimeException", "<init>", "(Ljava/lang/String;)V"⟩
abbrev nq_i2 : MethodName := ⟨"java/lang/Exception", "<init>", "(Ljava/lang/String;)V"⟩
abbrev nq_i3 : MethodName := ⟨"java/lang/Throwable", "<init>", "(Ljava/lang/String;)V"⟩
/-- what a throw needs of the machine -/
def nq_X (A : Nat → Prop) (U : State) : Prop := vx_Zq Bundle.tN "UNASSIGNED_STACK" Bundle.steD A U U.heap ∧ vx_Zq Bundle.tN "SUPPRESSED_SENTINEL" Bundle.listD A U U.heap ∧ (∀ x ∈ nq_S, ∃ sa, vk_R RX10 x.1 x.2 sa U) ∧ nq_C nq_NSE nq_NSE U ∧ nq_C nq_IAE nq_IAE U ∧ va_Nc nq_IAE nq_NSE U ∧ nq_Dl nq_i1 U ∧ nq_Dl nq_i2 U ∧ nq_Dl nq_i3 U
theorem nq_X.call {A : Nat → Prop} {s U : State} {H : Heap} {locs : List Loc} {wc : va_W} (h : nq_X A s) (hS : va_S A s.heap H locs) (hF : ∀ q, va_A wc H.size q → A q) (hU : U.heap = H) (hW : s.WarmedH U.vm) : nq_X (va_A wc H.size) U := by
  obtain ⟨h1, h2, h3, h4, h5, h6, h7, h8, h9⟩ := h
  refine ⟨?_, ?_, fun x hx => ?_, h4.moved hW.alike, h5.moved hW.alike, h6.moved hW.alike, h7.moved hW.alike, h8.moved hW.alike, h9.moved hW.alike⟩
  · rw [hU]; exact vx_Zq.moved hW.alike ((h1.kept hS.2.1).narrow hF)
  · rw [hU]; exact vx_Zq.moved hW.alike ((h2.kept hS.2.1).narrow hF)
  · obtain ⟨sa, q⟩ := h3 x hx
    exact ⟨sa, q.warm hW⟩
def nq_PX (G : va_G) (y : Nat → ClassId) (sz : Nat) (av : List Value) (ws : va_W) : Array Value → State → Prop := va_Pc av (fun U => U.heap.size = sz ∧ va_P G vwCl ws U.heap ∧ nq_K G y U ∧ va_D (fun _ => True) ws ∧ nq_X (va_A ws sz) U)
theorem nq_blindX (G : va_G) (y : Nat → ClassId) (sz : Nat) (av : List Value) (ws : va_W) : FrameBlind (nq_PX G y sz av ws) := by
  intro a U g mk q
  obtain ⟨q0, q1, qP, qK, qD, qU, qN, qS, q4, q5, q6, q7, q8, q9⟩ := q
  obtain ⟨r0, r1, rP, rK, rD⟩ := nq_blind G y sz av ws a U g mk ⟨q0, q1, qP, qK, qD⟩
  exact ⟨r0, r1, rP, rK, rD, vx_Zq.moved (u := U) (U := U.calling g mk a) (Vm.Alike.refl U.vm) qU, vx_Zq.moved (u := U) (U := U.calling g mk a) (Vm.Alike.refl U.vm) qN, fun x hx => (qS x hx).imp (fun _ h => vk_R.same (u := U) (U := U.calling g mk a) rfl h), nq_C.moved (u := U) (U := U.calling g mk a) (Vm.Alike.refl U.vm) q4, nq_C.moved (u := U) (U := U.calling g mk a) (Vm.Alike.refl U.vm) q5, va_Nc.moved (u := U) (U := U.calling g mk a) (Vm.Alike.refl U.vm) q6, nq_Dl.moved (u := U) (U := U.calling g mk a) (Vm.Alike.refl U.vm) q7, nq_Dl.moved (u := U) (U := U.calling g mk a) (Vm.Alike.refl U.vm) q8, nq_Dl.moved (u := U) (U := U.calling g mk a) (Vm.Alike.refl U.vm) q9⟩
section NQX
variable {p : Program} {l : Launch} {e : Env} {R : Room} {s : State} {m : MethodId} {args : Array Value} {below : List Frame} {meth : Method} {c : Code} {H H0 : Heap} {locs : List Loc} {cells slots : Nat} {Q : State → Prop} {G : va_G} {y : Nat → ClassId} {ws wc : va_W} {A A0 : Nat → Prop} {As rest st0 : List Value} {b mc ms pc : Nat} {ls : Array Slot} {a : Array Value}
theorem nq_PXV (hK : nq_K G y s) (hP : va_P G vwCl ws H) (hD : va_D A ws) (hS : va_S A s.heap H locs) (hA : ∀ q, s.heap.size ≤ q → A q) (hX : nq_X A s) (isC : List Nat) (hC : isC.map (fun i => ws[i]?) = wc.map some) (hn : va_nd isC = true) (q0 : Nat) {ci : Nat} {q : vw_C} {fs : List Value} (hc : vwCl[ci]? = some q) (he : ws[q0]? = some (b, .inr (ci, fs))) : PreV s H q.1 b (nq_PX G y H.size (.ref b :: As) wc) As :=
  ⟨nq_blindX _ _ _ _ _, va_recv hK.1 hP hc he, fun U hU hW => ⟨rfl, by rw [hU], by rw [hU]; exact hP.sub isC (nq_fm hC), hK.warm hW, nq_D _ (hD.sub isC hn hC), hX.call hS (va_free hD hS hA isC hC) hU hW⟩⟩
/-- a call that returns or throws -/
theorem nq_xv {S : Type} {post : S → Prop} {w1 : S → va_W} {wr : va_W} {BX : String → Prop} (hr : vx_Run p l e R s m args below meth c H locs cells slots mc ms (F0 m pc ls st0) rest (va_Qv post (fun u t => va_P G vwCl (w1 u) t.heap ∧ va_D (va_A wc H.size) (w1 u)) (va_A wc H.size) a) (vx_X (fun (_ : Unit) => True) (fun E _ _ => BX E) (va_A wc H.size)) (va_A wc H.size)) (hP : va_P G vwCl ws H) (hD : va_D A0 ws) (hS : va_S A0 H0 H locs) (hA : ∀ q, H0.size ≤ q → A0 q)
    (isC isR : List Nat) (hC : isC.map (fun i => ws[i]?) = wc.map some) (hR : isR.map (fun i => ws[i]?) = wr.map some) (hn : va_nd isR = true) (hdis : ∀ i ∈ isR, i ∉ isC)
    (kx : ∀ (E : String) (ce : Cell) (q9 : Addr) (H1 : Heap) (locs1 : List Loc), BX E → va_S A0 H0 H1 locs1 → va_P G vwCl wr H1 → va_D A0 wr → H1[q9]? = some ce → ce.vm = .none → s.vm.findClass E = some ce.cls → vx_W p l e R s m args below meth c H1 locs1 (cells + mc) (slots + ms) Q (F0 m pc ls rest) q9)
    (kk : ∀ (u : S) (H1 : Heap) (locs1 : List Loc), post u → va_P G vwCl (wr ++ w1 u) H1 → va_D A0 (wr ++ w1 u) → va_S A0 H0 H1 locs1 → W p l e R s m args below meth c H1 locs1 (cells + mc) (slots + ms) Q (F0 m (pc + 3) ls rest)) : W p l e R s m args below meth c H locs cells slots Q (F0 m pc ls st0) := by
  have hFc := va_free (wc := wc) hD hS hA isC hC
  refine vx_callv hr hS (fun q _ h => hFc q h) hFc (fun q _ h => hFc q h) (fun E ce q9 u t H1 locs1 ht hvm hp hB hz hk hS1 h1 h2 h3 => ?_) (fun u t H1 locs1 ht hvm hw hB hz hk hS1 => ?_)
  · obtain ⟨hP2, hD2⟩ := va_join (w1 := []) hP hD isC isR hC hR hn hdis hk hFc (fun k q h => by simp at h) ⟨fun i j p q h => by simp at h, fun k q h => by simp at h⟩
    rw [List.append_nil] at hP2 hD2
    exact kx E ce q9 H1 locs1 hB hS1 hP2 hD2 h1 h2 h3
  · obtain ⟨hP1, hD1⟩ := hB
    rw [ht] at hP1
    obtain ⟨hP2, hD2⟩ := va_join hP hD isC isR hC hR hn hdis hk hFc hP1 hD1
    exact kk u H1 locs1 hw hP2 hD2 hS1
theorem nq_xi {S : Type} {post : Int32 → S → Prop} {w1 : S → va_W} {wr : va_W} {BX : String → Prop} (hr : vx_Run p l e R s m args below meth c H locs cells slots mc ms (F0 m pc ls st0) rest (va_Qi post (fun u t => va_P G vwCl (w1 u) t.heap ∧ va_D (va_A wc H.size) (w1 u)) (va_A wc H.size) a) (vx_X (fun (_ : Unit) => True) (fun E _ _ => BX E) (va_A wc H.size)) (va_A wc H.size)) (hP : va_P G vwCl ws H) (hD : va_D A0 ws) (hS : va_S A0 H0 H locs) (hA : ∀ q, H0.size ≤ q → A0 q)
    (isC isR : List Nat) (hC : isC.map (fun i => ws[i]?) = wc.map some) (hR : isR.map (fun i => ws[i]?) = wr.map some) (hn : va_nd isR = true) (hdis : ∀ i ∈ isR, i ∉ isC)
    (kx : ∀ (E : String) (ce : Cell) (q9 : Addr) (H1 : Heap) (locs1 : List Loc), BX E → va_S A0 H0 H1 locs1 → va_P G vwCl wr H1 → va_D A0 wr → H1[q9]? = some ce → ce.vm = .none → s.vm.findClass E = some ce.cls → vx_W p l e R s m args below meth c H1 locs1 (cells + mc) (slots + ms) Q (F0 m pc ls rest) q9)
    (kk : ∀ (r : Int32) (u : S) (H1 : Heap) (locs1 : List Loc), post r u → va_P G vwCl (wr ++ w1 u) H1 → va_D A0 (wr ++ w1 u) → va_S A0 H0 H1 locs1 → W p l e R s m args below meth c H1 locs1 (cells + mc) (slots + ms) Q (F0 m (pc + 3) ls (.int r :: rest))) : W p l e R s m args below meth c H locs cells slots Q (F0 m pc ls st0) := by
  have hFc := va_free (wc := wc) hD hS hA isC hC
  refine vx_calli hr hS (fun q _ h => hFc q h) hFc (fun q _ h => hFc q h) (fun E ce q9 u t H1 locs1 ht hvm hp hB hz hk hS1 h1 h2 h3 => ?_) (fun r u t H1 locs1 ht hvm hw hB hz hk hS1 => ?_)
  · obtain ⟨hP2, hD2⟩ := va_join (w1 := []) hP hD isC isR hC hR hn hdis hk hFc (fun k q h => by simp at h) ⟨fun i j p q h => by simp at h, fun k q h => by simp at h⟩
    rw [List.append_nil] at hP2 hD2
    exact kx E ce q9 H1 locs1 hB hS1 hP2 hD2 h1 h2 h3
  · obtain ⟨hP1, hD1⟩ := hB
    rw [ht] at hP1
    obtain ⟨hP2, hD2⟩ := va_join hP hD isC isR hC hR hn hdis hk hFc hP1 hD1
    exact kk r u H1 locs1 hw hP2 hD2 hS1
/-- it leaves the method: no handler here -/
theorem nq_out {Qc : Array Value → State → Outcome → State → Prop} {BX : String → Prop} {E : String} {ce : Cell} {q9 : Addr} {mc' ms' : Nat} (htab : ∀ x ∈ c.exceptionTable.toList, False) (hlocks : meth.locks = false) (hS : va_S A s.heap H locs) (hb : BX E) (h1 : H[q9]? = some ce) (h2 : ce.vm = .none) (h3 : s.vm.findClass E = some ce.cls) (hc : cells ≤ mc') (hs : slots ≤ ms') :
    vx_W p l e R s m args below meth c H locs cells slots (vx_MQ below Qc (vx_X (fun (_ : Unit) => True) (fun E _ _ => BX E) A) args s mc' ms' A) (F0 m pc ls rest) q9 :=
  vx_out (fun x hx => (htab x hx).elim) hlocks h1 h2 h3 (fun t ht _ => ⟨(), trivial, hb, hS.F ht⟩) hS.2.2 hc hs
end NQX
theorem nq_badI : ∀ w ∈ (vx_atS RX10 128 nq_IAE nq_sup).filter (fun w => !goodWord w), w ∈ [Cond.declares nq_i1, Cond.declares nq_i2, Cond.declares nq_i3, Cond.castable nq_IAE nq_IAE] := by decide +kernel
theorem nq_badN : ∀ w ∈ nz_at.filter (fun w => !goodWord w), w ∈ [Cond.declares nq_i1, Cond.declares nq_i2, Cond.declares nq_i3, Cond.castable nq_NSE nq_NSE] := by decide +kernel
theorem nq_otI : ∀ w ∈ Cond.classLink RX10 124 nq_IAE :: Cond.initialized nq_IAE :: vx_atS RX10 128 nq_IAE nq_sup, vx_ot w = true := by decide +kernel
theorem nq_otN : ∀ w ∈ Cond.classLink RX10 149 nq_NSE :: Cond.initialized nq_NSE :: nz_at, vx_ot w = true := by decide +kernel
section NQT
variable {p : Program} {l : Launch} {e : Env} {s : State} {m : MethodId} {args : Array Value} {below : List Frame} {meth : Method} {c : Code} {H : Heap} {locs : List Loc} {cells slots : Nat} {R : Room} {A : Nat → Prop} {rest : List Value} {mc ms pc is : Nat} {ls : Array Slot} {Qc : Array Value → State → Outcome → State → Prop} {BX : String → Prop} {Ts : List Cond} {text : String} {cc : ByteArray}
theorem nq_throwN (hx : p.tables.exec = Jvm.exec) (hb : c.code = cc) (hl0 : l.stackTraces = false) (hown : s.vm.findClass RX10 = some m.cls) (hts : ∀ w ∈ Ts, w.before args s = true) (hin : ∀ w ∈ nz_at.filter goodWord, w ∈ Ts) (hk : Cond.classLink RX10 149 nq_NSE ∈ Ts) (hi : Cond.initialized nq_NSE ∈ Ts) (hXs : nq_X A s) (hS : va_S A s.heap H locs) (hsz : ls.size = c.maxLocals) (htab : ∀ x ∈ c.exceptionTable.toList, False) (hlocks : meth.locks = false) (hstr : (is, text) ∈ nq_S)
    (d0 : decode cc pc = .ok (.new 149, 3)) (d3 : decode cc (pc + 3) = .ok (.dup, 1)) (d4 : decode cc (pc + 4) = .ok (.ldc is, 2)) (d6 : decode cc (pc + 6) = .ok (.invokespecial 153, 3)) (d9 : decode cc (pc + 9) = .ok (.athrow, 1))
    (hRf : 5 < R.frames) (hRl : (rest.map fun v => v.category).sum + 82 ≤ R.locals) (hRc : cells + 1 ≤ R.cells) (hRs : slots + 6 ≤ R.slots) (hBX : BX nq_NSE) (hc : cells + 1 ≤ mc) (hs : slots + 6 ≤ ms) :
    W p l e R s m args below meth c H locs cells slots (vx_MQ below Qc (vx_X (fun (_ : Unit) => True) (fun E _ _ => BX E) A) args s mc ms A) (F0 m pc ls rest) := by
  obtain ⟨sa, hsa⟩ := hXs.2.2.1 _ hstr
  exact nz_throw (A := A) hx hb hl0 hown (hts _ hk) (hts _ hi) hsa (vx_hat (fun w hw => hts w (hin w hw)) nq_badN (vx_c hXs.2.2.2.2.2.2.1.use (vx_c hXs.2.2.2.2.2.2.2.1.use (vx_c hXs.2.2.2.2.2.2.2.2.use (vx_c hXs.2.2.2.1.use vx_n))))) nq_otN hXs.1 hXs.2.1 hS hsz d0 d3 d4 d6 d9 (fun x hx => (htab x hx).elim) hRf hRl hRc hRs hlocks (fun t _ hz hq => ⟨(), trivial, hBX, Nat.le_trans hS.1 hz, fun q h1 h2 => (hq q (Nat.lt_of_lt_of_le h1 hS.1)).trans (hS.2.1 q h1 h2)⟩) hS.2.2 hc hs
theorem nq_throwNW (hx : p.tables.exec = Jvm.exec) (hb : c.code = cc) (hl0 : l.stackTraces = false) (hown : s.vm.findClass RX10 = some m.cls) (hts : ∀ w ∈ Ts, w.before args s = true) (hin : ∀ w ∈ nz_at.filter goodWord, w ∈ Ts) (hk : Cond.classLink RX10 149 nq_NSE ∈ Ts) (hi : Cond.initialized nq_NSE ∈ Ts) (hXs : nq_X A s) (hS : va_S A s.heap H locs) (hsz : ls.size = c.maxLocals) (htab : ∀ x ∈ c.exceptionTable.toList, False) (hlocks : meth.locks = false) (hstr : (is, text) ∈ nq_S)
    (d0 : decode cc pc = .ok (.new 149, 3)) (d3 : decode cc (pc + 3) = .ok (.dup, 1)) (d4 : decode cc (pc + 4) = .ok (.ldc_w is, 3)) (d6 : decode cc (pc + 7) = .ok (.invokespecial 153, 3)) (d9 : decode cc (pc + 10) = .ok (.athrow, 1))
    (hRf : 5 < R.frames) (hRl : (rest.map fun v => v.category).sum + 82 ≤ R.locals) (hRc : cells + 1 ≤ R.cells) (hRs : slots + 6 ≤ R.slots) (hBX : BX nq_NSE) (hc : cells + 1 ≤ mc) (hs : slots + 6 ≤ ms) :
    W p l e R s m args below meth c H locs cells slots (vx_MQ below Qc (vx_X (fun (_ : Unit) => True) (fun E _ _ => BX E) A) args s mc ms A) (F0 m pc ls rest) := by
  obtain ⟨sa, hsa⟩ := hXs.2.2.1 _ hstr
  exact nz_throwW (A := A) hx hb hl0 hown (hts _ hk) (hts _ hi) hsa (vx_hat (fun w hw => hts w (hin w hw)) nq_badN (vx_c hXs.2.2.2.2.2.2.1.use (vx_c hXs.2.2.2.2.2.2.2.1.use (vx_c hXs.2.2.2.2.2.2.2.2.use (vx_c hXs.2.2.2.1.use vx_n))))) nq_otN hXs.1 hXs.2.1 hS hsz d0 d3 d4 d6 d9 (fun x hx => (htab x hx).elim) hRf hRl hRc hRs hlocks (fun t _ hz hq => ⟨(), trivial, hBX, Nat.le_trans hS.1 hz, fun q h1 h2 => (hq q (Nat.lt_of_lt_of_le h1 hS.1)).trans (hS.2.1 q h1 h2)⟩) hS.2.2 hc hs
theorem nq_throwI (hx : p.tables.exec = Jvm.exec) (hb : c.code = cc) (hl0 : l.stackTraces = false) (hown : s.vm.findClass RX10 = some m.cls) (hts : ∀ w ∈ Ts, w.before args s = true) (hin : ∀ w ∈ (vx_atS RX10 128 nq_IAE nq_sup).filter goodWord, w ∈ Ts) (hk : Cond.classLink RX10 124 nq_IAE ∈ Ts) (hi : Cond.initialized nq_IAE ∈ Ts) (hXs : nq_X A s) (hS : va_S A s.heap H locs) (hsz : ls.size = c.maxLocals) (htab : ∀ x ∈ c.exceptionTable.toList, False) (hlocks : meth.locks = false) (hstr : (is, text) ∈ nq_S)
    (d0 : decode cc pc = .ok (.new 124, 3)) (d3 : decode cc (pc + 3) = .ok (.dup, 1)) (d4 : decode cc (pc + 4) = .ok (.ldc is, 2)) (d6 : decode cc (pc + 6) = .ok (.invokespecial 128, 3)) (d9 : decode cc (pc + 9) = .ok (.athrow, 1))
    (hRf : 5 < R.frames) (hRl : (rest.map fun v => v.category).sum + 82 ≤ R.locals) (hRc : cells + 1 ≤ R.cells) (hRs : slots + 6 ≤ R.slots) (hBX : BX nq_IAE) (hc : cells + 1 ≤ mc) (hs : slots + 6 ≤ ms) :
    W p l e R s m args below meth c H locs cells slots (vx_MQ below Qc (vx_X (fun (_ : Unit) => True) (fun E _ _ => BX E) A) args s mc ms A) (F0 m pc ls rest) := by
  obtain ⟨sa, hsa⟩ := hXs.2.2.1 _ hstr
  exact vx_throwS (names := nq_sup) (cls := nq_IAE) (A := A) hx hb hl0 hown (by decide +kernel) (by decide +kernel) (hts _ hk) (hts _ hi) hsa (vx_hat (fun w hw => hts w (hin w hw)) nq_badI (vx_c hXs.2.2.2.2.2.2.1.use (vx_c hXs.2.2.2.2.2.2.2.1.use (vx_c hXs.2.2.2.2.2.2.2.2.use (vx_c hXs.2.2.2.2.1.use vx_n))))) nq_otI hXs.1 hXs.2.1 hS hsz d0 d3 d4 d6 d9 (fun x hx => (htab x hx).elim) hRf hRl hRc hRs hlocks (fun t _ hz hq => ⟨(), trivial, hBX, Nat.le_trans hS.1 hz, fun q h1 h2 => (hq q (Nat.lt_of_lt_of_le h1 hS.1)).trans (hS.2.1 q h1 h2)⟩) hS.2.2 hc hs
theorem nq_throwIW (hx : p.tables.exec = Jvm.exec) (hb : c.code = cc) (hl0 : l.stackTraces = false) (hown : s.vm.findClass RX10 = some m.cls) (hts : ∀ w ∈ Ts, w.before args s = true) (hin : ∀ w ∈ (vx_atS RX10 128 nq_IAE nq_sup).filter goodWord, w ∈ Ts) (hk : Cond.classLink RX10 124 nq_IAE ∈ Ts) (hi : Cond.initialized nq_IAE ∈ Ts) (hXs : nq_X A s) (hS : va_S A s.heap H locs) (hsz : ls.size = c.maxLocals) (htab : ∀ x ∈ c.exceptionTable.toList, False) (hlocks : meth.locks = false) (hstr : (is, text) ∈ nq_S)
    (d0 : decode cc pc = .ok (.new 124, 3)) (d3 : decode cc (pc + 3) = .ok (.dup, 1)) (d4 : decode cc (pc + 4) = .ok (.ldc_w is, 3)) (d6 : decode cc (pc + 7) = .ok (.invokespecial 128, 3)) (d9 : decode cc (pc + 10) = .ok (.athrow, 1))
    (hRf : 5 < R.frames) (hRl : (rest.map fun v => v.category).sum + 82 ≤ R.locals) (hRc : cells + 1 ≤ R.cells) (hRs : slots + 6 ≤ R.slots) (hBX : BX nq_IAE) (hc : cells + 1 ≤ mc) (hs : slots + 6 ≤ ms) :
    W p l e R s m args below meth c H locs cells slots (vx_MQ below Qc (vx_X (fun (_ : Unit) => True) (fun E _ _ => BX E) A) args s mc ms A) (F0 m pc ls rest) := by
  obtain ⟨sa, hsa⟩ := hXs.2.2.1 _ hstr
  exact vx_throwSW (names := nq_sup) (cls := nq_IAE) (A := A) hx hb hl0 hown (by decide +kernel) (by decide +kernel) (hts _ hk) (hts _ hi) hsa (vx_hat (fun w hw => hts w (hin w hw)) nq_badI (vx_c hXs.2.2.2.2.2.2.1.use (vx_c hXs.2.2.2.2.2.2.2.1.use (vx_c hXs.2.2.2.2.2.2.2.2.use (vx_c hXs.2.2.2.2.1.use vx_n))))) nq_otI hXs.1 hXs.2.1 hS hsz d0 d3 d4 d6 d9 (fun x hx => (htab x hx).elim) hRf hRl hRc hRs hlocks (fun t _ hz hq => ⟨(), trivial, hBX, Nat.le_trans hS.1 hz, fun q h1 h2 => (hq q (Nat.lt_of_lt_of_le h1 hS.1)).trans (hS.2.1 q h1 h2)⟩) hS.2.2 hc hs
end NQT
theorem nq_upd0 (k : Nat) : upd (fun _ => 0) k 0 = fun _ => 0 := by
  funext j
  simp [upd]
theorem nq_ltC {k N : Int32} {B : Int} (h : ¬ N ≤ k) (e : N.toInt = B) : k.toInt < B := by
  rw [Int32.le_iff_toInt_le] at h
  omega
theorem nq_ltV {k n : Int32} (h : ¬ n ≤ k) : k.toInt < n.toInt := by
  rw [Int32.le_iff_toInt_le] at h
  omega
theorem nq_mx (n : Int32) : n.toInt ≤ 2147483647 := by
  have := n.toInt_lt
  omega
theorem nq_inc {k : Int32} {B : Int} (hk : ¬ k < 0) (h : k.toInt < B) (hB : B ≤ 2147483647) : (k + Int32.ofInt 1).toInt = k.toInt + 1 := by
  obtain ⟨j, hj, rfl⟩ := nI_of hk
  have e1 : Int32.ofInt 1 = 1 := by decide
  rw [nI_toInt hj] at h ⊢
  rw [e1, nI_1, nI_toInt (by omega)]
  omega
theorem nq_leB {k k' : Int32} {B : Int} (e : k'.toInt = k.toInt + 1) (h : k.toInt < B) : k'.toInt ≤ B := by omega
theorem nq_nn {k k' : Int32} (e : k'.toInt = k.toInt + 1) (h : ¬ k < 0) : ¬ k' < 0 := by
  rw [Int32.lt_iff_toInt_lt] at *
  have : (0 : Int32).toInt = 0 := by decide
  omega
section NQL
variable {p : Program} {l : Launch} {e : Env} {R : Room} {s : State} {m : MethodId} {args : Array Value} {below : List Frame} {meth : Method} {c : Code} {H : Heap} {locs : List Loc} {cells slots pc : Nat} {Q : State → Prop} {ls : Array Slot} {st : List Value}
theorem nq_loop {σ : Type} {I : Int32 → σ → Heap → List Loc → Array Slot → Prop} {B : Int}
    (hs : ∀ (k : Int32) (x : σ) (H : Heap) (locs : List Loc) (ls : Array Slot), I k x H locs ls → k.toInt ≤ B → (∀ (k' : Int32) (x' : σ) (H' : Heap) (locs' : List Loc) (ls' : Array Slot), I k' x' H' locs' ls' → k'.toInt = k.toInt + 1 → k'.toInt ≤ B → W p l e R s m args below meth c H' locs' cells slots Q (F0 m pc ls' st)) → W p l e R s m args below meth c H locs cells slots Q (F0 m pc ls st))
    (k0 : Int32) (x0 : σ) (h0 : I k0 x0 H locs ls) (hk : k0.toInt ≤ B) : W p l e R s m args below meth c H locs cells slots Q (F0 m pc ls st) := by
  have key : ∀ (n : Nat) (k : Int32) (x : σ) (H : Heap) (locs : List Loc) (ls : Array Slot), I k x H locs ls → k.toInt ≤ B → B - k.toInt ≤ n → W p l e R s m args below meth c H locs cells slots Q (F0 m pc ls st) := by
    intro n
    induction n with
    | zero =>
      intro k x H locs ls hI hB hn
      exact hs k x H locs ls hI hB (fun k' x' H' l' ls' _ e hB' => absurd hB' (by omega))
    | succ n ih =>
      intro k x H locs ls hI hB hn
      exact hs k x H locs ls hI hB (fun k' x' H' l' ls' hI' e hB' => ih k' x' H' l' ls' hI' hB' (by omega))
  exact key (B - k0.toInt).toNat k0 x0 H locs ls h0 hk (by omega)
end NQL
theorem nq_le0 {n : Int32} (h : ¬ n < 0) : (0 : Int32).toInt ≤ n.toInt := by
  rw [Int32.lt_iff_toInt_lt] at h
  omega
