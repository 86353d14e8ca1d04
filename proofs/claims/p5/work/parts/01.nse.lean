/-! NoSuchElementException: its own <init>(String) passes on by link 13, not by 7 as the kit's words of an exception have it: its words, its constructor, its throw (along the kit's rows for the other exceptions) -/
abbrev nz_N : String := "java/util/NoSuchElementException"
abbrev nz_R : String := "java/lang/RuntimeException"
abbrev nz_E : String := "java/lang/Exception"
def nz_c : ByteArray := ⟨#[0x2a, 0x2b, 0xb7, 0x00, 0x0d, 0xb1]⟩
def nz_own : List Cond := Bundle.passSAtoms nz_N nz_R 13 nz_c ++ (Bundle.ownAtoms "NestQuery" 153 nz_N [nz_R, nz_E]).filter (fun w => decide (w ≠ .code (Bundle.initS nz_N) Bundle.six 2 none) && decide (w ≠ .methodLink nz_N 7 (Bundle.initS nz_R)))
def nz_at : List Cond := nz_own.filter vx_no
theorem nz_m1 : ∀ x ∈ Bundle.throwableAtoms, x ∈ nz_own := by decide +kernel
theorem nz_m2 : ∀ x ∈ Bundle.throwableSAtoms, x ∈ nz_own := by decide +kernel
theorem nz_m3 : ∀ x ∈ Bundle.passSAtoms nz_N nz_R 13 nz_c, x ∈ nz_own := fun _ hx => List.mem_append_left _ hx
theorem nz_m4 : ∀ x ∈ Bundle.chainSAtoms nz_R [nz_E], x ∈ nz_own := by decide +kernel
section NZ
variable {p : Program} {l : Launch} {e : Env} {R : Room} {s : State} {m₀ : MethodId} {args : Array Value} {below : List Frame} {meth : Method} {c : Code} {W : State} {locs : List Loc} {cells slots : Nat}
theorem nz_pass (h : ∀ a ∈ nz_own, a.before args s = true) {pl : Platform} (hpl : pl.magicAccessors = ({} : Platform).magicAccessors) {top : MethodId} (htop : s.methodNamed? (Bundle.initS Bundle.tN) = some top) :
    ∃ (P1 : PassC) (Ps : List PassC), Ps.length = 2 ∧ P1.LinksS pl s ∧ (∀ P, P ∈ Ps → P.LinksS pl s) ∧ s.methodNamed? (Bundle.initS nz_N) = some P1.m ∧ P1.sup = firstOf top (Ps.map (·.toPassT)) ∧ PassesOn top (Ps.map (·.toPassT)) := by
  obtain ⟨P1, L1, m1, s1⟩ := PassC.ofS_atoms (args := args) (s := s) hpl (X := nz_N) (Y := nz_R) (index := 13) (bytes := nz_c) (by decide +kernel) (by decide +kernel) (by decide +kernel) (by decide +kernel) (by decide +kernel) (by decide +kernel) (fun x hx => h x (nz_m3 x hx))
  obtain ⟨P2, Ps, hlen, L2, hL, m2, hl1, hl2⟩ := Bundle.chainS (args := args) hpl htop [nz_E] nz_R (by decide +kernel) (by decide +kernel) (fun x hx => h x (nz_m4 x hx))
  refine ⟨P1, P2 :: Ps, by simp [hlen], L1, fun Q hQ => ?_, m1, Option.some.inj (s1.symm.trans m2), hl1, hl2⟩
  rcases List.mem_cons.mp hQ with rfl | hQ
  · exact L2
  · exact hL Q hQ
theorem nz_sel (h : ∀ a ∈ nz_own, a.before args s = true) (hA : l.admits e) {y : MethodName} (hy : Cond.selects nz_N y y ∈ nz_own) (hp : y.cls ≠ "java/lang/invoke/MethodHandle" ∧ y.cls ≠ "java/lang/invoke/VarHandle") {k : ClassId} (hk : s.vm.findClass nz_N = some k) {f : MethodId} (hf : s.methodNamed? y = some f) (hff : s.methodFound? y.cls y.name y.desc = some f) : selectMethod e.platform s.vm k f = .method f := by
  obtain ⟨c2, r2, m2, q1, q2, q3, q4, -⟩ := Cond.selects_spec (h _ hy)
  cases Option.some.inj (q1.symm.trans hk)
  cases Option.some.inj (q2.symm.trans hff)
  cases Option.some.inj (q3.symm.trans hf)
  rw [Launch.admits_selectMethod hA]
  exact q4
set_option maxHeartbeats 1000000 in
theorem nz_ctor (X : Stand p l e R s m₀ args below meth c W locs cells slots) (hexec : p.tables.exec = Jvm.exec) (htr : e.platform.stackTraces = false) (hown : s.vm.findClass "NestQuery" = some m₀.cls) (h : ∀ a ∈ nz_own, a.before args s = true)
    (hlocs : ∀ x ∈ locs, ∀ cell, s.heap[x.base]? = some cell → cell.vm.isStatics = false)
    {a : Addr} {cX : ClassId} {kX : Class} (hfX : s.vm.findClass nz_N = some cX) (hkX : s.vm.classes[cX]? = some kX) (hcell : W.heap[a]? = some (freshCell cX kX)) (hnew : s.heap.size ≤ a) {msg : Value} (hmsg : msg.isRef = true)
    {g : JFrame} (hg : g.method = m₀) (hsize : g.locals.size = c.maxLocals) (hlocked : g.locked = none) (hentered : g.entered = []) {rest : List Value} (hstack : g.stack = msg :: .ref a :: .ref a :: rest)
    (hd6 : decode c.code g.pc = .ok (.invokespecial 153, 3)) (hd9 : decode c.code (g.pc + 3) = .ok (.athrow, 1)) (hout : ∀ x ∈ c.exceptionTable.toList, covers x (g.pc + 3) = false)
    (hRframes : 5 < R.frames) (hRlocals : 2 * g.monitorRoom + ((Value.ref a :: rest).map fun v => v.category).sum + (13 * 3 + 42) ≤ R.locals) (hlocks : meth.locks = false) :
    ∃ U : State, Steps p.tables e below (W.setTop g) U ∧ U.status = .running ∧ Ended U below (.threw a) ∧ s.WarmedH U.vm ∧ s.sameButNew ({ U with vm := s.vm } : State) locs cells slots ∧ ∃ ce, U.heap[a]? = some ce ∧ ce.vm = .none ∧ s.vm.findClass nz_N = some ce.cls := by
  have hpl : e.platform.magicAccessors = ({} : Platform).magicAccessors := by rw [X.admits.platform]
  obtain ⟨T, Z0, L, -, Y⟩ := ThrowableC.of_atoms (args := args) (s := s) (pl := e.platform) (by rw [X.admits.platform]) (by rw [X.admits.platform]) hpl (fun x hx => h x (nz_m1 x hx))
  obtain ⟨Z, M, LZ, LM, hnZ⟩ := Init0T.ofS_atoms (args := args) hpl L Y (fun x hx => h x (nz_m2 x hx))
  obtain ⟨P1, Ps, hlen, L1, hL, hP1, hln1, hln⟩ := nz_pass h hpl hnZ
  have hfound : s.vm.findClass nz_N = some P1.m.cls := findClass_of_methodNamed hP1
  cases Option.some.inj (hfX.symm.trans hfound)
  obtain ⟨c1, k1, hc1, hk, hord, -, -, -⟩ := Cond.instantiable_spec (h (.instantiable nz_N 6) (by decide +kernel))
  cases Option.some.inj (hc1.symm.trans hfound)
  cases Option.some.inj (hkX.symm.trans hk)
  have hsel0 := nz_sel h X.admits (y := Bundle.tFill0) (by decide +kernel) (by decide +kernel) hfound Y.fill0 (State.methodFound?_of_named Y.fill0 (by decide))
  have hselF := nz_sel h X.admits (y := Bundle.tFill) (by decide +kernel) (by decide +kernel) hfound Y.fill (State.methodFound?_of_named Y.fill (by decide))
  obtain ⟨cS, hcS, hiss⟩ := Y.statics
  obtain ⟨u0, hu0⟩ := Cond.staticRefV Y.unassigned L.unassignedStatic L.statics hcS hiss (h (.isRef (.static Bundle.tN "UNASSIGNED_STACK" Bundle.steD)) (by decide +kernel))
  obtain ⟨sen, hsen⟩ := Cond.staticRefV Y.sentinel L.sentinelStatic L.statics hcS hiss (h (.isRef (.static Bundle.tN "SUPPRESSED_SENTINEL" Bundle.listD)) (by decide +kernel))
  obtain ⟨cB, iB, fB, hk198, hg198, ha198, hsB, -, hnB, htB, hffB⟩ := Cond.ownField (t := .object "java/lang/Object") Y.found L.cls (by decide +kernel) (h (.fieldLink Bundle.tN 198 Bundle.tN "backtrace" "Ljava/lang/Object;") (by decide +kernel)) (h (.lays Bundle.tN Bundle.tN "backtrace" "Ljava/lang/Object;") (by decide +kernel)) e.platform hpl
  obtain ⟨cW, hcW, heW, -, hkeep⟩ := X.same.2.2.2.2.2 T.aS cS hcS
  have hcW' : W.heap[T.aS]? = some cW := hcW
  have hfar : ∀ i, (⟨T.aS, i⟩ : Loc) ∉ locs := fun i hm => by
    have h9 := hlocs _ hm cS hcS
    rw [hiss] at h9
    cases h9
  have hkn : cW.vm ≠ .unknown := fun hu => by
    rw [heW] at hu
    rw [show cS.vm = .unknown from hu] at hiss
    cases hiss
  have hne : T.aS ≠ a := Nat.ne_of_lt (Nat.lt_of_lt_of_le (Array.getElem?_eq_some_iff.mp hcS).1 hnew)
  obtain ⟨iM, hffM⟩ := Y.msg
  obtain ⟨tyC, dC, hdC, hnC⟩ := Cond.laysAt hfound hk Y.cause (h (.lays nz_N Bundle.tN "cause" "Ljava/lang/Throwable;") (by decide +kernel))
  obtain ⟨tyS, dS, hdS, hnS⟩ := Cond.laysAt hfound hk Y.stack (h (.lays nz_N Bundle.tN "stackTrace" Bundle.steD) (by decide +kernel))
  obtain ⟨tyP, dP, hdP, hnP⟩ := Cond.laysAt hfound hk Y.supp (h (.lays nz_N Bundle.tN "suppressedExceptions" Bundle.listD) (by decide +kernel))
  obtain ⟨tyM, dM, hdM, hnM⟩ := Cond.laysAt hfound hk hffM (h (.lays nz_N Bundle.tN "detailMessage" "Ljava/lang/String;") (by decide +kernel))
  obtain ⟨tyB, dB, hdB, hnB'⟩ := Cond.laysAt hfound hk hffB (h (.lays nz_N Bundle.tN "backtrace" "Ljava/lang/Object;") (by decide +kernel))
  have bC := Cond.laysApart hdB hdC hnB' hnC (by rw [hnB, Y.causeName]; decide)
  have bS := Cond.laysApart hdB hdS hnB' hnS (by rw [hnB, Y.stackName]; decide)
  have bP := Cond.laysApart hdB hdP hnB' hnP (by rw [hnB, Y.suppName]; decide)
  have hskip : SkipFacts T e.platform s (fun u => u) u0 ((preparedCellV T.toThrowableT (freshCell P1.m.cls kX) a u0 sen).withEntry W.cur) :=
    ⟨{ ci198 := cB, i198 := iB, fBack := fB }, ⟨hk198, hg198, ha198, hsB⟩, by
      have h9 := fresh_default (c := P1.m.cls) tyB
      rw [htB] at h9
      simpa [preparedCellV, Cell.setSlot, Cell.withEntry, Array.getElem?_setIfInBounds, bC, bS, bP, bC.symm, bS.symm, bP.symm, defaultValue] using h9, fun _ _ => rfl⟩
  obtain ⟨tm, mC, cC, kC, vm₁, hnI, -, -, -, -, -, -, -, hW₁, st1⟩ := Steps.initColdS (tb := p.tables) (e := e) (below := below) (s := s) (U := W) X.here hexec X.warmed hpl hown (t := Bundle.initS nz_N) rfl rfl (by decide +kernel)
    (h (.methodLink "NestQuery" 153 (Bundle.initS nz_N)) (by decide +kernel)) (h (.instanceMethod (Bundle.initS nz_N)) (by decide +kernel)) (bytes := nz_c) (maxL := 2) (h (.code (Bundle.initS nz_N) nz_c 2 none) (by decide +kernel))
    (f := g) hg (a := a) (msg := msg) (rest := .ref a :: rest) hstack hd6
  cases Option.some.inj (hnI.symm.trans hP1)
  have X₁ := X.noted hW₁
  obtain ⟨vm₂, X₂, st2⟩ := X₁.ctorMessageOffV hexec (g := { g with stack := .ref a :: rest }) hg hsize T L Z LZ M LM (P1 :: Ps)
    (fun P hP => by rcases List.mem_cons.mp hP with rfl | hP; exact L1; exact hL P hP) ⟨hln1, hln⟩ (u0 := u0) (sen := sen) (self := a) hmsg (cell := freshCell P1.m.cls kX) (cellS := cW)
    hcell (fun _ => by simp) (by simp) rfl rfl hsel0 hselF hcW' hne hkn (by rw [hkeep _ (hfar _)]; exact hu0) (by rw [hkeep _ (hfar _)]; exact hsen)
    (Takes.of_laid hk hord tyC (by rw [Y.causeType]; rfl)) (Takes.of_laid hk hord tyS (by rw [Y.stackType]; exact fits_refV_array _ u0)) (Takes.of_laid hk hord tyP (by rw [Y.suppType]; exact fits_refV_object _ sen))
    (Takes.of_laid hk hord tyM (by rw [Y.msgType]; exact fits_refV_object _ ⟨msg, hmsg⟩)) Y.objLocals hskip htr [] hd6
    (by simp only [List.length_cons, hlen]; omega) (by simp only [List.length_cons, hlen]; exact hRlocals)
  obtain ⟨hwalk, hrun, hended, hWU, hsame⟩ := X₂.athrowLeaves hexec (g := { g with stack := .ref a :: rest, pc := g.pc + 3 }) hg hlocked hentered hout (a := a) (rest := rest) rfl hd9
  have hlt : a < ((W.setVm vm₁).setVm vm₂).heap.size := (Array.getElem?_eq_some_iff.mp hcell).1
  have hU := heapAt_setCell_self (s := (W.setVm vm₁).setVm vm₂) (plainBareV T.toThrowableT (freshCell P1.m.cls kX) a u0 sen msg) hlt
  refine ⟨_, st1 _ (fun acts => ?_), hrun, hended, hWU, hsame.weaken (fun y hy hlt' => ?_) (Nat.le_refl _) (Nat.le_refl _), _, hU, rfl, hfound⟩
  · rw [doInvoke_state]
    exact st2 _ hwalk
  · rcases List.mem_append.mp hy with h1 | h1
    · exact h1
    · exfalso
      have hb : y.base = a := by
        simp only [List.mem_cons, List.not_mem_nil, or_false] at h1
        rcases h1 with rfl | rfl | rfl | rfl | rfl <;> rfl
      rw [hb] at hlt'
      exact Nat.not_lt.mpr hnew hlt'
end NZ
section NZT
variable {p : Program} {l : Launch} {e : Env} {R : Room} {s : State} {m : MethodId} {args : Array Value} {below : List Frame} {meth : Method} {c : Code} {H : Heap} {locs : List Loc} {cells slots : Nat} {Q : State → Prop}
variable {mc ms : Nat} {free : Addr → Prop} {A0 A1 : Nat → Prop} {H0 : Heap} {a : Array Value} {ls : Array Slot} {st0 rest : List Value}
variable {Qc : Array Value → State → Outcome → State → Prop} {XC : String → State → State → Prop}
theorem nz_throw {cc : ByteArray} {pc : Nat} (hexec : p.tables.exec = Jvm.exec) (hb : c.code = cc) (hl : l.stackTraces = false) {text : String} {ik is mc ms sa : Nat} {A : Nat → Prop}
    (hown : s.vm.findClass "NestQuery" = some m.cls)
    (hk : (Cond.classLink "NestQuery" ik nz_N).before args s = true) (hini : (Cond.initialized nz_N).before args s = true) (hstr : vk_R "NestQuery" is text sa s) (hat : ∀ w ∈ nz_at, w.before args s = true)
    (hgood : ∀ w ∈ Cond.classLink "NestQuery" ik nz_N :: Cond.initialized nz_N :: nz_at, vx_ot w = true)
    (hU : vx_Zq Bundle.tN "UNASSIGNED_STACK" Bundle.steD A s s.heap) (hN : vx_Zq Bundle.tN "SUPPRESSED_SENTINEL" Bundle.listD A s s.heap) (hS : va_S A s.heap H locs) (hsize : ls.size = c.maxLocals)
    (d0 : decode cc pc = .ok (.new ik, 3)) (d3 : decode cc (pc + 3) = .ok (.dup, 1)) (d4 : decode cc (pc + 4) = .ok (.ldc is, 2)) (d6 : decode cc (pc + 6) = .ok (.invokespecial 153, 3)) (d9 : decode cc (pc + 9) = .ok (.athrow, 1))
    (hout : ∀ x ∈ c.exceptionTable.toList, covers x (pc + 9) = false)
    (hRframes : 5 < R.frames) (hRlocals : (rest.map fun v => v.category).sum + (82) ≤ R.locals) (hRcells : cells + 1 ≤ R.cells) (hRslots : slots + 6 ≤ R.slots) (hlocks : meth.locks = false)
    (hx : ∀ t : State, s.vm.Alike t.vm → H.size ≤ t.heap.size → (∀ q : Nat, q < H.size → t.heap[q]? = H[q]?) → XC nz_N s t)
    (hf : ∀ z ∈ locs, free z.base) (hc : cells + 1 ≤ mc) (hs : slots + 6 ≤ ms) :
    W p l e R s m args below meth c H locs cells slots (vx_MQ below Qc XC args s mc ms free) (F0 m pc ls rest) := by
  intro T hT X
  have htr : e.platform.stackTraces = false := (show e.platform.stackTraces = l.stackTraces by rw [X.admits.platform]).trans hl
  have Y := vx_rebase X (R' := { frames := R.frames, locals := R.locals, cells := 1, slots := 6 }) (Nat.le_refl _) (Nat.le_refl _) hRcells hRslots
  obtain ⟨s', hA⟩ : ∃ z, z = (T.setVm s.vm).setFrames (.invoking m args :: below) := ⟨_, rfl⟩
  rw [← hA] at Y
  have hvm : s'.vm = s.vm := by rw [hA]; rfl
  have hhp : s'.heap = H := by rw [hA]; exact hT
  have hW0 : s.WarmedH s'.vm := by rw [hvm]; exact State.WarmedH.refl s
  have hat' : ∀ w ∈ nz_at, w.before args s' = true := fun w hw => vx_ot_at hW0 hvm.symm (hgood w (List.mem_cons_of_mem _ (List.mem_cons_of_mem _ hw))) (hat w hw)
  have hk' : (Cond.classLink "NestQuery" ik nz_N).before args s' = true := vx_ot_at hW0 hvm.symm (hgood _ List.mem_cons_self) hk
  have hini' : (Cond.initialized nz_N).before args s' = true := vx_ot_at hW0 hvm.symm (hgood _ (List.mem_cons_of_mem _ List.mem_cons_self)) hini
  have hU' : vx_Zq Bundle.tN "UNASSIGNED_STACK" Bundle.steD A s' s'.heap := by rw [hhp]; exact vx_Zq.moved hW0.alike (hU.kept hS.2.1)
  have hN' : vx_Zq Bundle.tN "SUPPRESSED_SENTINEL" Bundle.listD A s' s'.heap := by rw [hhp]; exact vx_Zq.moved hW0.alike (hN.kept hS.2.1)
  have h : ∀ w ∈ nz_own, w.before args s' = true := vx_own hat' (vx_isRefq hU'.1) (vx_isRefq hN'.1) hU'.2.word hN'.2.word
  have hown' : s'.vm.findClass "NestQuery" = some m.cls := by rw [hvm]; exact hown
  have hins : (Cond.instantiable nz_N 6).before args s' = true := h _ (by decide +kernel)
  obtain ⟨vm₁, cX, kX, hfX, hkX, -, -, X₁, st1⟩ := Y.newCold hexec (own := "NestQuery") (C := nz_N) (index := ik) (n := 6) hown' hk' hins hini'
    (g := F0 m pc ls rest) rfl (by rw [hb]; exact d0) (Nat.le_refl _) (Nat.le_refl _)
  generalize hT1 : (T.setVm vm₁).pushCell { cls := cX, slots := kX.instanceTypes.map defaultValue, vm := .none } = T1 at X₁ st1
  have hcat : (Value.ref T.heap.size).category = 1 := rfl
  have hcellA : T1.heap[T.heap.size]? = some (freshCell cX kX) := by rw [← hT1]; exact State.heap_pushCell_size _ _
  have d3' : decode c.code (pc + 3) = .ok (.dup, 1) := by rw [hb]; exact d3
  have d4' : decode c.code (pc + 4) = .ok (.ldc is, 2) := by rw [hb]; exact d4
  have hstr' : vk_R "NestQuery" is text sa s' := vk_R.warm hW0 hstr
  obtain ⟨U, hsteps, hrun, hend, hW, hsame, ce, hce, hOv, hOc⟩ := nz_ctor X₁ hexec htr hown' h (fun x hx => nomatch hx) hfX hkX hcellA (by rw [hhp, hT]; exact Nat.le_refl _) (msg := .ref sa) rfl
    (g := { method := m, pc := pc + 6, locals := ls, stack := .ref sa :: .ref T.heap.size :: .ref T.heap.size :: rest, locked := none }) rfl hsize rfl rfl (rest := rest) rfl
    (by rw [hb]; exact d6) (by rw [hb]; exact d9) hout hRframes (by simp only [List.map_cons, List.sum_cons, hcat]; omega) hlocks
  obtain ⟨f1, f2⟩ := vx_frame hsame
  rw [hhp] at f1 f2
  have hWs : s.WarmedH U.vm := State.WarmedH.trans hW0 hW
  have hcl : s.vm.findClass nz_N = some ce.cls := by
    have h9 := hOc
    rw [hvm] at h9
    exact h9
  have hall : s.sameButNew ({ U with vm := s.vm } : State) locs mc ms := by
    subst hA
    obtain ⟨e1, e2⟩ := hsame
    rw [State.setFrames_setFrames] at e1
    have h2 : (T.setVm s.vm).sameButNew ({ U with vm := s.vm } : State) [] (0 + 1) (0 + 6) := ⟨e1, e2⟩
    have h3 := X.same.trans h2
    rw [List.append_nil] at h3
    exact h3.mono hc hs
  refine ⟨U, ?_, .threw T.heap.size, hrun, hend, Or.inr ⟨T.heap.size, rfl, nz_N, ce, locs, hx U hWs.alike f1 (fun q hq => f2 q hq (fun z hz => nomatch hz)), hce, hOv, hcl, hWs, hall, hf⟩⟩
  refine st1 _ ?_
  show Steps p.tables e below (T1.setTop { method := m, pc := pc + 3, locals := ls, stack := .ref T.heap.size :: rest, locked := none }) _
  jvm_step X₁.here [X₁.here.top, hexec, d3', Value.category]
  exact X₁.ldcString hexec (own := "NestQuery") (text := text) (index := is) (a := sa) hown' hstr'.1 hstr'.2
    (g := { method := m, pc := pc + 4, locals := ls, stack := .ref T.heap.size :: .ref T.heap.size :: rest, locked := none }) rfl d4' _ hsteps
theorem nz_throwW {cc : ByteArray} {pc : Nat} (hexec : p.tables.exec = Jvm.exec) (hb : c.code = cc) (hl : l.stackTraces = false) {text : String} {ik is mc ms sa : Nat} {A : Nat → Prop}
    (hown : s.vm.findClass "NestQuery" = some m.cls)
    (hk : (Cond.classLink "NestQuery" ik nz_N).before args s = true) (hini : (Cond.initialized nz_N).before args s = true) (hstr : vk_R "NestQuery" is text sa s) (hat : ∀ w ∈ nz_at, w.before args s = true)
    (hgood : ∀ w ∈ Cond.classLink "NestQuery" ik nz_N :: Cond.initialized nz_N :: nz_at, vx_ot w = true)
    (hU : vx_Zq Bundle.tN "UNASSIGNED_STACK" Bundle.steD A s s.heap) (hN : vx_Zq Bundle.tN "SUPPRESSED_SENTINEL" Bundle.listD A s s.heap) (hS : va_S A s.heap H locs) (hsize : ls.size = c.maxLocals)
    (d0 : decode cc pc = .ok (.new ik, 3)) (d3 : decode cc (pc + 3) = .ok (.dup, 1)) (d4 : decode cc (pc + 4) = .ok (.ldc_w is, 3)) (d7 : decode cc (pc + 7) = .ok (.invokespecial 153, 3)) (d10 : decode cc (pc + 10) = .ok (.athrow, 1))
    (hout : ∀ x ∈ c.exceptionTable.toList, covers x (pc + 10) = false)
    (hRframes : 5 < R.frames) (hRlocals : (rest.map fun v => v.category).sum + (82) ≤ R.locals) (hRcells : cells + 1 ≤ R.cells) (hRslots : slots + 6 ≤ R.slots) (hlocks : meth.locks = false)
    (hx : ∀ t : State, s.vm.Alike t.vm → H.size ≤ t.heap.size → (∀ q : Nat, q < H.size → t.heap[q]? = H[q]?) → XC nz_N s t)
    (hf : ∀ z ∈ locs, free z.base) (hc : cells + 1 ≤ mc) (hs : slots + 6 ≤ ms) :
    W p l e R s m args below meth c H locs cells slots (vx_MQ below Qc XC args s mc ms free) (F0 m pc ls rest) := by
  intro T hT X
  have htr : e.platform.stackTraces = false := (show e.platform.stackTraces = l.stackTraces by rw [X.admits.platform]).trans hl
  have Y := vx_rebase X (R' := { frames := R.frames, locals := R.locals, cells := 1, slots := 6 }) (Nat.le_refl _) (Nat.le_refl _) hRcells hRslots
  obtain ⟨s', hA⟩ : ∃ z, z = (T.setVm s.vm).setFrames (.invoking m args :: below) := ⟨_, rfl⟩
  rw [← hA] at Y
  have hvm : s'.vm = s.vm := by rw [hA]; rfl
  have hhp : s'.heap = H := by rw [hA]; exact hT
  have hW0 : s.WarmedH s'.vm := by rw [hvm]; exact State.WarmedH.refl s
  have hat' : ∀ w ∈ nz_at, w.before args s' = true := fun w hw => vx_ot_at hW0 hvm.symm (hgood w (List.mem_cons_of_mem _ (List.mem_cons_of_mem _ hw))) (hat w hw)
  have hk' : (Cond.classLink "NestQuery" ik nz_N).before args s' = true := vx_ot_at hW0 hvm.symm (hgood _ List.mem_cons_self) hk
  have hini' : (Cond.initialized nz_N).before args s' = true := vx_ot_at hW0 hvm.symm (hgood _ (List.mem_cons_of_mem _ List.mem_cons_self)) hini
  have hU' : vx_Zq Bundle.tN "UNASSIGNED_STACK" Bundle.steD A s' s'.heap := by rw [hhp]; exact vx_Zq.moved hW0.alike (hU.kept hS.2.1)
  have hN' : vx_Zq Bundle.tN "SUPPRESSED_SENTINEL" Bundle.listD A s' s'.heap := by rw [hhp]; exact vx_Zq.moved hW0.alike (hN.kept hS.2.1)
  have h : ∀ w ∈ nz_own, w.before args s' = true := vx_own hat' (vx_isRefq hU'.1) (vx_isRefq hN'.1) hU'.2.word hN'.2.word
  have hown' : s'.vm.findClass "NestQuery" = some m.cls := by rw [hvm]; exact hown
  have hins : (Cond.instantiable nz_N 6).before args s' = true := h _ (by decide +kernel)
  obtain ⟨vm₁, cX, kX, hfX, hkX, -, -, X₁, st1⟩ := Y.newCold hexec (own := "NestQuery") (C := nz_N) (index := ik) (n := 6) hown' hk' hins hini'
    (g := F0 m pc ls rest) rfl (by rw [hb]; exact d0) (Nat.le_refl _) (Nat.le_refl _)
  generalize hT1 : (T.setVm vm₁).pushCell { cls := cX, slots := kX.instanceTypes.map defaultValue, vm := .none } = T1 at X₁ st1
  have hcat : (Value.ref T.heap.size).category = 1 := rfl
  have hcellA : T1.heap[T.heap.size]? = some (freshCell cX kX) := by rw [← hT1]; exact State.heap_pushCell_size _ _
  have d3' : decode c.code (pc + 3) = .ok (.dup, 1) := by rw [hb]; exact d3
  have d4' : decode c.code (pc + 4) = .ok (.ldc_w is, 3) := by rw [hb]; exact d4
  have hstr' : vk_R "NestQuery" is text sa s' := vk_R.warm hW0 hstr
  obtain ⟨U, hsteps, hrun, hend, hW, hsame, ce, hce, hOv, hOc⟩ := nz_ctor X₁ hexec htr hown' h (fun x hx => nomatch hx) hfX hkX hcellA (by rw [hhp, hT]; exact Nat.le_refl _) (msg := .ref sa) rfl
    (g := { method := m, pc := pc + 7, locals := ls, stack := .ref sa :: .ref T.heap.size :: .ref T.heap.size :: rest, locked := none }) rfl hsize rfl rfl (rest := rest) rfl
    (by rw [hb]; exact d7) (by rw [hb]; exact d10) hout hRframes (by simp only [List.map_cons, List.sum_cons, hcat]; omega) hlocks
  obtain ⟨f1, f2⟩ := vx_frame hsame
  rw [hhp] at f1 f2
  have hWs : s.WarmedH U.vm := State.WarmedH.trans hW0 hW
  have hcl : s.vm.findClass nz_N = some ce.cls := by
    have h9 := hOc
    rw [hvm] at h9
    exact h9
  have hall : s.sameButNew ({ U with vm := s.vm } : State) locs mc ms := by
    subst hA
    obtain ⟨e1, e2⟩ := hsame
    rw [State.setFrames_setFrames] at e1
    have h2 : (T.setVm s.vm).sameButNew ({ U with vm := s.vm } : State) [] (0 + 1) (0 + 6) := ⟨e1, e2⟩
    have h3 := X.same.trans h2
    rw [List.append_nil] at h3
    exact h3.mono hc hs
  refine ⟨U, ?_, .threw T.heap.size, hrun, hend, Or.inr ⟨T.heap.size, rfl, nz_N, ce, locs, hx U hWs.alike f1 (fun q hq => f2 q hq (fun z hz => nomatch hz)), hce, hOv, hcl, hWs, hall, hf⟩⟩
  refine st1 _ ?_
  show Steps p.tables e below (T1.setTop { method := m, pc := pc + 3, locals := ls, stack := .ref T.heap.size :: rest, locked := none }) _
  jvm_step X₁.here [X₁.here.top, hexec, d3', Value.category]
  exact X₁.ldcStringW hexec (own := "NestQuery") (text := text) (index := is) (a := sa) hown' hstr'.1 hstr'.2
    (g := { method := m, pc := pc + 4, locals := ls, stack := .ref T.heap.size :: .ref T.heap.size :: rest, locked := none }) rfl d4' _ hsteps
end NZT
