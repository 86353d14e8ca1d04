def nq_S : List (Nat × String) := [(126, "the tape has not so many bytes"), (151, "no such path may be"), (193, "no such count"), (404, "no such thing"), (231, "no such question about a thing"), (237, "no such thing at once within"), (409, "no such byte"), (261, "no such path is there"), (277, "no such answer"), (282, "no such step"), (284, "no such row"), (298, "no such question about a row"), (363, "no such question about years"), (365, "no such number of years")]
abbrev nq_IAE : String := "java/lang/IllegalArgumentException"
abbrev nq_NSE : String := "java/util/NoSuchElementException"
abbrev nq_sup : List String := ["java/lang/RuntimeException", "java/lang/Exception"]
def nq_C (C T : String) (U : State) : Prop := ∃ c t : ClassId, U.vm.findClass C = some c ∧ U.vm.findClass T = some t ∧ U.vm.assignable c t = true
theorem nq_C.of {args : Array Value} {s : State} {C T : String} (h : (Cond.castable C T).before args s = true) : nq_C C T s := by
  obtain ⟨c3, c4, h1, h2, h3⟩ := Cond.castable_spec h
  exact ⟨c3, c4, h1, h2, h3⟩
theorem nq_C.use {args : Array Value} {s : State} {C T : String} (h : nq_C C T s) : (Cond.castable C T).before args s = true := by
  obtain ⟨c, t, h1, h2, h3⟩ := h
  simp [Cond.before, Cond.holds, Cond.value, h1, h2, h3]
theorem nq_C.moved {C T : String} {u U : State} (hvm : u.vm.Alike U.vm) (h : nq_C C T u) : nq_C C T U := by
  obtain ⟨c, t, h1, h2, h3⟩ := h
  exact ⟨c, t, by rw [hvm.findClass]; exact h1, by rw [hvm.findClass]; exact h2, by rw [hvm.assignable]; exact h3⟩
def nq_Dl (x : MethodName) (U : State) : Prop := (Cond.declares x).before #[] U = true
theorem nq_Dl.of {x : MethodName} {A : Array Value} {U : State} (h : (Cond.declares x).before A U = true) : nq_Dl x U := va_any rfl h
theorem nq_Dl.use {x : MethodName} {A : Array Value} {U : State} (h : nq_Dl x U) : (Cond.declares x).before A U = true := va_any rfl h
theorem nq_Dl.moved {x : MethodName} {u U : State} (hvm : u.vm.Alike U.vm) (h : nq_Dl x u) : nq_Dl x U := by
  have h1 : (Cond.declares x).before #[] (u.setVm U.vm) = true := by
    rw [Cond.declares_setVm hvm]
    exact h
  have e := Cond.onTables_vm (A := #[]) (A' := #[]) (U := u) (U' := U) U.vm (Cond.declares x) rfl
  have hU : U.setVm U.vm = U := rfl
  rw [hU] at e
  unfold nq_Dl
  rw [← e]
  exact h1
abbrev nq_i1 : MethodName := ⟨"java/lang/RuntimeException", "<init>", "(Ljava/lang/String;)V"⟩
abbrev nq_i2 : MethodName := ⟨"java/lang/Exception", "<init>", "(Ljava/lang/String;)V"⟩
abbrev nq_i3 : MethodName := ⟨"java/lang/Throwable", "<init>", "(Ljava/lang/String;)V"⟩
/-- what a throw needs of the machine -/
def nq_X (A : Nat → Prop) (U : State) : Prop := vx_Zq Bundle.tN "UNASSIGNED_STACK" Bundle.steD A U U.heap ∧ vx_Zq Bundle.tN "SUPPRESSED_SENTINEL" Bundle.listD A U U.heap ∧ (∀ x ∈ nq_S, ∃ sa, vk_R RX10 x.1 x.2 sa U) ∧ nq_C nq_NSE nq_NSE U ∧ nq_C nq_IAE nq_IAE U ∧ va_Nc nq_IAE nq_NSE U ∧ nq_Dl nq_i1 U ∧ nq_Dl nq_i2 U ∧ nq_Dl nq_i3 U
theorem nq_X.call {A : Nat → Prop} {s U : State} {H : Heap} {locs : List Loc} {wc : va_W} (h : nq_X A s) (hS : va_S A s.heap H locs) (hF : ∀ q, va_A wc H.size q → A q) (hU : U.heap = H) (hW : s.WarmedH U.vm) : nq_X (va_A wc H.size) U := by
  obtain ⟨h1, h2, h3, h4, h5, h6, h7, h8, h9⟩ := h
  refine ⟨?_, ?_, fun x hx => ?_, h4.moved hW.alike, h5.moved hW.alike, h6.moved hW.alike, h7.moved hW.alike, h8.moved hW.alike, h9.moved hW.alike⟩
  · rw [hU]; exact vx_Zq.moved hW.alike ((h1.kept hS.2.1).narrow hF)
  · rw [hU]; exact vx_Zq.moved hW.alike ((h2.kept hS.2.1).narrow hF)
  · obtain ⟨sa, q⟩ := h3 x hx
    exact ⟨sa, q.warm hW⟩
theorem nq_X.on {A : Nat → Prop} {s U : State} {H : Heap} {locs : List Loc} (h : nq_X A s) (hS : va_S A s.heap H locs) (hU : U.heap = H) (hW : s.WarmedH U.vm) : nq_X A U := by
  obtain ⟨h1, h2, h3, h4, h5, h6, h7, h8, h9⟩ := h
  refine ⟨?_, ?_, fun x hx => ?_, h4.moved hW.alike, h5.moved hW.alike, h6.moved hW.alike, h7.moved hW.alike, h8.moved hW.alike, h9.moved hW.alike⟩
  · rw [hU]; exact vx_Zq.moved hW.alike (h1.kept hS.2.1)
  · rw [hU]; exact vx_Zq.moved hW.alike (h2.kept hS.2.1)
  · obtain ⟨sa, q⟩ := h3 x hx
    exact ⟨sa, q.warm hW⟩
theorem th_H.kept {G : va_G} {b0 : Nat} {σ : th_M} {H H1 : Heap} (h : th_H G b0 σ H) (hz : H.size ≤ H1.size) (hq : ∀ q : Nat, q < H.size → H1[q]? = H[q]?) : th_H G b0 σ H1 :=
  ⟨Nat.le_trans h.1 hz, fun a e he => ⟨(h.2 a e he).1, (h.2 a e he).2.kept (hq a (h.lt he))⟩⟩
def th_PX (G : va_G) (y : Nat → ClassId) (b0 : Nat) (σ : th_M) (av : List Value) : Array Value → State → Prop := va_Pc av (fun U => th_H G b0 σ U.heap ∧ nq_K G y U ∧ nq_X (th_A b0) U)
def th_XX (G : va_G) (b0 : Nat) (px : String → th_M → Prop) : String → State → State → Prop := vx_X (fun (_ : th_M) => True) (fun X u t => th_H G b0 u t.heap ∧ px X u) (th_A b0)
theorem th_blindX (G : va_G) (y : Nat → ClassId) (b0 : Nat) (σ : th_M) (av : List Value) : FrameBlind (th_PX G y b0 σ av) := by
  intro a U g mk q
  obtain ⟨q0, qP, qK, qU, qN, qS, q4, q5, q6, q7, q8, q9⟩ := q
  obtain ⟨r0, rP, rK⟩ := th_blind G y b0 σ av a U g mk ⟨q0, qP, qK⟩
  exact ⟨r0, rP, rK, vx_Zq.moved (u := U) (U := U.calling g mk a) (Vm.Alike.refl U.vm) qU, vx_Zq.moved (u := U) (U := U.calling g mk a) (Vm.Alike.refl U.vm) qN, fun x hx => (qS x hx).imp (fun _ h => vk_R.same (u := U) (U := U.calling g mk a) rfl h), nq_C.moved (u := U) (U := U.calling g mk a) (Vm.Alike.refl U.vm) q4, nq_C.moved (u := U) (U := U.calling g mk a) (Vm.Alike.refl U.vm) q5, va_Nc.moved (u := U) (U := U.calling g mk a) (Vm.Alike.refl U.vm) q6, nq_Dl.moved (u := U) (U := U.calling g mk a) (Vm.Alike.refl U.vm) q7, nq_Dl.moved (u := U) (U := U.calling g mk a) (Vm.Alike.refl U.vm) q8, nq_Dl.moved (u := U) (U := U.calling g mk a) (Vm.Alike.refl U.vm) q9⟩
section XTH
variable {p : Program} {l : Launch} {e : Env} {R : Room} {s : State} {m : MethodId} {args : Array Value} {below : List Frame} {meth : Method} {c : Code} {H H0 : Heap} {locs : List Loc} {cells slots : Nat} {Q : State → Prop} {G : va_G} {y : Nat → ClassId} {b0 : Nat} {σ : th_M} {As rest st0 : List Value} {b mc ms pc : Nat} {ls : Array Slot} {cc : ByteArray}
theorem th_PXV (hK : nq_K G y s) (hX : nq_X (th_A b0) s) (hS : va_S (th_A b0) s.heap H locs) (hH : th_H G b0 σ H) {ci : Nat} {q : vw_C} {fs : List Value} (hc : vwCl[ci]? = some q) (he : σ b = some (.inr (ci, fs))) : PreV s H q.1 b (th_PX G y b0 σ (.ref b :: As)) As := by
  obtain ⟨q0, hq⟩ := hH.pos he
  exact ⟨th_blindX _ _ _ _ _, va_recv hK.1 hH.P hc hq, fun U hU hW => ⟨rfl, by rw [hU]; exact hH, hK.warm hW, hX.on hS hU hW⟩⟩
theorem th_xcallv {a : Array Value} {post : th_M → Prop} {px : String → th_M → Prop} (hr : vx_Run p l e R s m args below meth c H locs cells slots mc ms (F0 m pc ls st0) rest (th_Qv G b0 post a) (th_XX G b0 px) (th_A b0)) (hS : va_S (th_A b0) H0 H locs)
    (kx : ∀ (X : String) (ce : Cell) (q9 : Addr) (σ1 : th_M) (H1 : Heap) (locs1 : List Loc), px X σ1 → th_H G b0 σ1 H1 → va_S (th_A b0) H0 H1 locs1 → H1[q9]? = some ce → ce.vm = .none → s.vm.findClass X = some ce.cls → vx_W p l e R s m args below meth c H1 locs1 (cells + mc) (slots + ms) Q (F0 m pc ls rest) q9)
    (kk : ∀ (σ1 : th_M) (H1 : Heap) (locs1 : List Loc), post σ1 → th_H G b0 σ1 H1 → va_S (th_A b0) H0 H1 locs1 → W p l e R s m args below meth c H1 locs1 (cells + mc) (slots + ms) Q (F0 m (pc + 3) ls rest)) : W p l e R s m args below meth c H locs cells slots Q (F0 m pc ls st0) :=
  vx_callv hr hS (fun _ _ h => h) (fun _ h => h) (fun _ _ h => h) (fun X ce q9 u t H1 locs1 ht hvm hp hB hz hk hS1 h1 h2 h3 => kx X ce q9 u H1 locs1 hB.2 (by rw [← ht]; exact hB.1) hS1 h1 h2 h3) (fun u t H1 locs1 ht hvm hw hB hz hk hS1 => kk u H1 locs1 hw (by rw [← ht]; exact hB) hS1)
theorem th_xcalli {a : Array Value} {post : Int → th_M → Prop} {px : String → th_M → Prop} (hr : vx_Run p l e R s m args below meth c H locs cells slots mc ms (F0 m pc ls st0) rest (th_Qi G b0 post a) (th_XX G b0 px) (th_A b0)) (hS : va_S (th_A b0) H0 H locs)
    (kx : ∀ (X : String) (ce : Cell) (q9 : Addr) (σ1 : th_M) (H1 : Heap) (locs1 : List Loc), px X σ1 → th_H G b0 σ1 H1 → va_S (th_A b0) H0 H1 locs1 → H1[q9]? = some ce → ce.vm = .none → s.vm.findClass X = some ce.cls → vx_W p l e R s m args below meth c H1 locs1 (cells + mc) (slots + ms) Q (F0 m pc ls rest) q9)
    (kk : ∀ (r : Int) (σ1 : th_M) (H1 : Heap) (locs1 : List Loc), rng r → post r σ1 → th_H G b0 σ1 H1 → va_S (th_A b0) H0 H1 locs1 → W p l e R s m args below meth c H1 locs1 (cells + mc) (slots + ms) Q (F0 m (pc + 3) ls (.int (I r) :: rest))) : W p l e R s m args below meth c H locs cells slots Q (F0 m pc ls st0) :=
  vx_calli hr hS (fun _ _ h => h) (fun _ h => h) (fun _ _ h => h) (fun X ce q9 u t H1 locs1 ht hvm hp hB hz hk hS1 h1 h2 h3 => kx X ce q9 u H1 locs1 hB.2 (by rw [← ht]; exact hB.1) hS1 h1 h2 h3) (fun r u t H1 locs1 ht hvm hw hB hz hk hS1 => by
    have h1 := kk r.toInt u H1 locs1 (rng_toInt r) hw (by rw [← ht]; exact hB) hS1
    rw [I_of] at h1
    exact h1)
theorem th_xout {Qc : Array Value → State → Outcome → State → Prop} {px : String → th_M → Prop} {X : String} {ce : Cell} {q9 : Addr} {mc' ms' : Nat} (htab : ∀ x ∈ c.exceptionTable.toList, False) (hlocks : meth.locks = false) (hS : va_S (th_A b0) s.heap H locs) (hH : th_H G b0 σ H) (hp : px X σ) (h1 : H[q9]? = some ce) (h2 : ce.vm = .none) (h3 : s.vm.findClass X = some ce.cls) (hc : cells ≤ mc') (hs : slots ≤ ms') :
    vx_W p l e R s m args below meth c H locs cells slots (vx_MQ below Qc (th_XX G b0 px) args s mc' ms' (th_A b0)) (F0 m pc ls rest) q9 :=
  vx_out (fun x hx => (htab x hx).elim) hlocks h1 h2 h3 (fun t ht _ => ⟨σ, trivial, ⟨by rw [ht]; exact hH, hp⟩, hS.F ht⟩) hS.2.2 hc hs
end XTH
theorem nq_badI : ∀ w ∈ (vx_atS RX10 128 nq_IAE nq_sup).filter (fun w => !goodWord w), w ∈ [Cond.declares nq_i1, Cond.declares nq_i2, Cond.declares nq_i3, Cond.castable nq_IAE nq_IAE] := by decide +kernel
theorem nq_badN : ∀ w ∈ nz_at.filter (fun w => !goodWord w), w ∈ [Cond.declares nq_i1, Cond.declares nq_i2, Cond.declares nq_i3, Cond.castable nq_NSE nq_NSE] := by decide +kernel
theorem nq_otI : ∀ w ∈ Cond.classLink RX10 124 nq_IAE :: Cond.initialized nq_IAE :: vx_atS RX10 128 nq_IAE nq_sup, vx_ot w = true := by decide +kernel
theorem nq_otN : ∀ w ∈ Cond.classLink RX10 149 nq_NSE :: Cond.initialized nq_NSE :: nz_at, vx_ot w = true := by decide +kernel
section THT
variable {p : Program} {l : Launch} {e : Env} {s : State} {m : MethodId} {args : Array Value} {below : List Frame} {meth : Method} {c : Code} {H : Heap} {locs : List Loc} {cells slots : Nat} {R : Room} {rest : List Value} {mc ms pc is : Nat} {ls : Array Slot} {Qc : Array Value → State → Outcome → State → Prop} {px : String → th_M → Prop} {G : va_G} {b0 : Nat} {σ : th_M} {Ts : List Cond} {text : String} {cc : ByteArray}
theorem th_throwN (hx : p.tables.exec = Jvm.exec) (hb : c.code = cc) (hl0 : l.stackTraces = false) (hown : s.vm.findClass RX10 = some m.cls) (hts : ∀ w ∈ Ts, w.before args s = true) (hin : ∀ w ∈ nz_at.filter goodWord, w ∈ Ts) (hk : Cond.classLink RX10 149 nq_NSE ∈ Ts) (hi : Cond.initialized nq_NSE ∈ Ts) (hXs : nq_X (th_A b0) s) (hS : va_S (th_A b0) s.heap H locs) (hH : th_H G b0 σ H) (hsz : ls.size = c.maxLocals) (htab : ∀ x ∈ c.exceptionTable.toList, False) (hlocks : meth.locks = false) (hstr : (is, text) ∈ nq_S)
    (d0 : decode cc pc = .ok (.new 149, 3)) (d3 : decode cc (pc + 3) = .ok (.dup, 1)) (d4 : decode cc (pc + 4) = .ok (.ldc is, 2)) (d6 : decode cc (pc + 6) = .ok (.invokespecial 153, 3)) (d9 : decode cc (pc + 9) = .ok (.athrow, 1))
    (hRf : 5 < R.frames) (hRl : (rest.map fun v => v.category).sum + 82 ≤ R.locals) (hRc : cells + 1 ≤ R.cells) (hRs : slots + 6 ≤ R.slots) (hBX : px nq_NSE σ) (hc : cells + 1 ≤ mc) (hs : slots + 6 ≤ ms) :
    W p l e R s m args below meth c H locs cells slots (vx_MQ below Qc (th_XX G b0 px) args s mc ms (th_A b0)) (F0 m pc ls rest) := by
  obtain ⟨sa, hsa⟩ := hXs.2.2.1 _ hstr
  exact nz_throw (A := th_A b0) hx hb hl0 hown (hts _ hk) (hts _ hi) hsa (vx_hat (fun w hw => hts w (hin w hw)) nq_badN (vx_c hXs.2.2.2.2.2.2.1.use (vx_c hXs.2.2.2.2.2.2.2.1.use (vx_c hXs.2.2.2.2.2.2.2.2.use (vx_c hXs.2.2.2.1.use vx_n))))) nq_otN hXs.1 hXs.2.1 hS hsz d0 d3 d4 d6 d9 (fun x hx => (htab x hx).elim) hRf hRl hRc hRs hlocks (fun t _ hz hq => ⟨σ, trivial, ⟨hH.kept hz hq, hBX⟩, Nat.le_trans hS.1 hz, fun q h1 h2 => (hq q (Nat.lt_of_lt_of_le h1 hS.1)).trans (hS.2.1 q h1 h2)⟩) hS.2.2 hc hs
theorem th_throwNW (hx : p.tables.exec = Jvm.exec) (hb : c.code = cc) (hl0 : l.stackTraces = false) (hown : s.vm.findClass RX10 = some m.cls) (hts : ∀ w ∈ Ts, w.before args s = true) (hin : ∀ w ∈ nz_at.filter goodWord, w ∈ Ts) (hk : Cond.classLink RX10 149 nq_NSE ∈ Ts) (hi : Cond.initialized nq_NSE ∈ Ts) (hXs : nq_X (th_A b0) s) (hS : va_S (th_A b0) s.heap H locs) (hH : th_H G b0 σ H) (hsz : ls.size = c.maxLocals) (htab : ∀ x ∈ c.exceptionTable.toList, False) (hlocks : meth.locks = false) (hstr : (is, text) ∈ nq_S)
    (d0 : decode cc pc = .ok (.new 149, 3)) (d3 : decode cc (pc + 3) = .ok (.dup, 1)) (d4 : decode cc (pc + 4) = .ok (.ldc_w is, 3)) (d6 : decode cc (pc + 7) = .ok (.invokespecial 153, 3)) (d9 : decode cc (pc + 10) = .ok (.athrow, 1))
    (hRf : 5 < R.frames) (hRl : (rest.map fun v => v.category).sum + 82 ≤ R.locals) (hRc : cells + 1 ≤ R.cells) (hRs : slots + 6 ≤ R.slots) (hBX : px nq_NSE σ) (hc : cells + 1 ≤ mc) (hs : slots + 6 ≤ ms) :
    W p l e R s m args below meth c H locs cells slots (vx_MQ below Qc (th_XX G b0 px) args s mc ms (th_A b0)) (F0 m pc ls rest) := by
  obtain ⟨sa, hsa⟩ := hXs.2.2.1 _ hstr
  exact nz_throwW (A := th_A b0) hx hb hl0 hown (hts _ hk) (hts _ hi) hsa (vx_hat (fun w hw => hts w (hin w hw)) nq_badN (vx_c hXs.2.2.2.2.2.2.1.use (vx_c hXs.2.2.2.2.2.2.2.1.use (vx_c hXs.2.2.2.2.2.2.2.2.use (vx_c hXs.2.2.2.1.use vx_n))))) nq_otN hXs.1 hXs.2.1 hS hsz d0 d3 d4 d6 d9 (fun x hx => (htab x hx).elim) hRf hRl hRc hRs hlocks (fun t _ hz hq => ⟨σ, trivial, ⟨hH.kept hz hq, hBX⟩, Nat.le_trans hS.1 hz, fun q h1 h2 => (hq q (Nat.lt_of_lt_of_le h1 hS.1)).trans (hS.2.1 q h1 h2)⟩) hS.2.2 hc hs
theorem th_throwI (hx : p.tables.exec = Jvm.exec) (hb : c.code = cc) (hl0 : l.stackTraces = false) (hown : s.vm.findClass RX10 = some m.cls) (hts : ∀ w ∈ Ts, w.before args s = true) (hin : ∀ w ∈ (vx_atS RX10 128 nq_IAE nq_sup).filter goodWord, w ∈ Ts) (hk : Cond.classLink RX10 124 nq_IAE ∈ Ts) (hi : Cond.initialized nq_IAE ∈ Ts) (hXs : nq_X (th_A b0) s) (hS : va_S (th_A b0) s.heap H locs) (hH : th_H G b0 σ H) (hsz : ls.size = c.maxLocals) (htab : ∀ x ∈ c.exceptionTable.toList, False) (hlocks : meth.locks = false) (hstr : (is, text) ∈ nq_S)
    (d0 : decode cc pc = .ok (.new 124, 3)) (d3 : decode cc (pc + 3) = .ok (.dup, 1)) (d4 : decode cc (pc + 4) = .ok (.ldc is, 2)) (d6 : decode cc (pc + 6) = .ok (.invokespecial 128, 3)) (d9 : decode cc (pc + 9) = .ok (.athrow, 1))
    (hRf : 5 < R.frames) (hRl : (rest.map fun v => v.category).sum + 82 ≤ R.locals) (hRc : cells + 1 ≤ R.cells) (hRs : slots + 6 ≤ R.slots) (hBX : px nq_IAE σ) (hc : cells + 1 ≤ mc) (hs : slots + 6 ≤ ms) :
    W p l e R s m args below meth c H locs cells slots (vx_MQ below Qc (th_XX G b0 px) args s mc ms (th_A b0)) (F0 m pc ls rest) := by
  obtain ⟨sa, hsa⟩ := hXs.2.2.1 _ hstr
  exact vx_throwS (names := nq_sup) (cls := nq_IAE) (A := th_A b0) hx hb hl0 hown (by decide +kernel) (by decide +kernel) (hts _ hk) (hts _ hi) hsa (vx_hat (fun w hw => hts w (hin w hw)) nq_badI (vx_c hXs.2.2.2.2.2.2.1.use (vx_c hXs.2.2.2.2.2.2.2.1.use (vx_c hXs.2.2.2.2.2.2.2.2.use (vx_c hXs.2.2.2.2.1.use vx_n))))) nq_otI hXs.1 hXs.2.1 hS hsz d0 d3 d4 d6 d9 (fun x hx => (htab x hx).elim) hRf hRl hRc hRs hlocks (fun t _ hz hq => ⟨σ, trivial, ⟨hH.kept hz hq, hBX⟩, Nat.le_trans hS.1 hz, fun q h1 h2 => (hq q (Nat.lt_of_lt_of_le h1 hS.1)).trans (hS.2.1 q h1 h2)⟩) hS.2.2 hc hs
theorem th_throwIW (hx : p.tables.exec = Jvm.exec) (hb : c.code = cc) (hl0 : l.stackTraces = false) (hown : s.vm.findClass RX10 = some m.cls) (hts : ∀ w ∈ Ts, w.before args s = true) (hin : ∀ w ∈ (vx_atS RX10 128 nq_IAE nq_sup).filter goodWord, w ∈ Ts) (hk : Cond.classLink RX10 124 nq_IAE ∈ Ts) (hi : Cond.initialized nq_IAE ∈ Ts) (hXs : nq_X (th_A b0) s) (hS : va_S (th_A b0) s.heap H locs) (hH : th_H G b0 σ H) (hsz : ls.size = c.maxLocals) (htab : ∀ x ∈ c.exceptionTable.toList, False) (hlocks : meth.locks = false) (hstr : (is, text) ∈ nq_S)
    (d0 : decode cc pc = .ok (.new 124, 3)) (d3 : decode cc (pc + 3) = .ok (.dup, 1)) (d4 : decode cc (pc + 4) = .ok (.ldc_w is, 3)) (d6 : decode cc (pc + 7) = .ok (.invokespecial 128, 3)) (d9 : decode cc (pc + 10) = .ok (.athrow, 1))
    (hRf : 5 < R.frames) (hRl : (rest.map fun v => v.category).sum + 82 ≤ R.locals) (hRc : cells + 1 ≤ R.cells) (hRs : slots + 6 ≤ R.slots) (hBX : px nq_IAE σ) (hc : cells + 1 ≤ mc) (hs : slots + 6 ≤ ms) :
    W p l e R s m args below meth c H locs cells slots (vx_MQ below Qc (th_XX G b0 px) args s mc ms (th_A b0)) (F0 m pc ls rest) := by
  obtain ⟨sa, hsa⟩ := hXs.2.2.1 _ hstr
  exact vx_throwSW (names := nq_sup) (cls := nq_IAE) (A := th_A b0) hx hb hl0 hown (by decide +kernel) (by decide +kernel) (hts _ hk) (hts _ hi) hsa (vx_hat (fun w hw => hts w (hin w hw)) nq_badI (vx_c hXs.2.2.2.2.2.2.1.use (vx_c hXs.2.2.2.2.2.2.2.1.use (vx_c hXs.2.2.2.2.2.2.2.2.use (vx_c hXs.2.2.2.2.1.use vx_n))))) nq_otI hXs.1 hXs.2.1 hS hsz d0 d3 d4 d6 d9 (fun x hx => (htab x hx).elim) hRf hRl hRc hRs hlocks (fun t _ hz hq => ⟨σ, trivial, ⟨hH.kept hz hq, hBX⟩, Nat.le_trans hS.1 hz, fun q h1 h2 => (hq q (Nat.lt_of_lt_of_le h1 hS.1)).trans (hS.2.1 q h1 h2)⟩) hS.2.2 hc hs
end THT
theorem th_topeq {p : Program} {l : Launch} {e : Env} {R : Room} {s : State} {m : MethodId} {args : Array Value} {below : List Frame} {meth : Method} {c : Code} {H : Heap} {locs : List Loc} {cells slots : Nat} {Q : State → Prop} {rest : List Value} {pc : Nat} {ls : Array Slot} {a n : Int} (h : a = n) (k : W p l e R s m args below meth c H locs cells slots Q (F0 m pc ls (.int (I n) :: rest))) : W p l e R s m args below meth c H locs cells slots Q (F0 m pc ls (.int (I a) :: rest)) := by
  rw [h]; exact k
