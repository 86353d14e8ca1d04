/-! THE CLAIM OUT OF ONE WALK OF THE LAW'S BODY. Your part is whole_start (and what it stands on); all else here is the same for every law, but numbers. -/
def R_law : String := "NestQueryLaw"
def lw_P (b : Addr) (xs : List Int32) (args : Array Value) (s : State) : Prop := args = #[.ref b] ∧ s.IntsAt b xs ∧ xs.length ≤ 3072 ∧ (Jvm.Cond.and given_1 narrow_1).before args s = true
def lw_Q (_ : Array Value) (s : State) (o : Outcome) (t : State) : Prop := o = .returned (some (.int 1)) ∧ Framed s o t [] 601024 7293034
def lw_Z (below : List Frame) (a : Array Value) (s : State) : State → Prop := fun t => ∃ o, t.status = .running ∧ Ended t below o ∧ lw_Q a s o t
/-- the law's own end, with 1 on the stack, nothing written that was there before, its room as the claim has it -/
theorem lw_ret {p : Program} {l : Launch} {e : Env} {s : State} {m : MethodId} {below : List Frame} {meth : Method} {c : Code} {b : Nat} (hx : p.tables.exec = Jvm.exec) (hb : c.code = code) (hr : meth.sig.returnType = ret) (hlocks : meth.locks = false) {pc : Nat} {H : Heap} {ls : Array Slot} (hdg : decode code pc = .ok (.ireturn, 1)) : W p l e room_1 s m #[Value.ref b] below meth c H [] 601024 7293034 (lw_Z below #[Value.ref b] s) (F0 m pc ls [.int 1]) := by
  intro T hT X
  obtain ⟨fs, hret, hrun, hended, hW, hframe⟩ := X.leave (v := some (.int 1)) (hlocks := hlocks) (fun h => by rw [hr] at h; cases h)
  have hmeth' : T.vm.method? m = some meth := X.method'
  refine ⟨T.setFrames fs, ?_, .returned (some (.int 1)), hrun, hended, rfl, ⟨_, rfl⟩, hW, hframe⟩
  jvm_step X.here [X.here.top, hx, hb, hdg, hmeth', hr, ret, narrow_b1]
  (try refine ⟨rfl, ?_⟩); (try refine ⟨rfl, ?_⟩)
  first | (intro acts; rw [hret _ acts rfl rfl rfl]) | rw [hret _ _ rfl rfl rfl]
  exact Steps.refl _
/-- what holds at the law's entry: the machine, the code, the tables' words (any of lw_tbl by 'hts w (by decide +kernel)'), the script of L ints xs at the cell b, what the Statement gives of the start (any of its parts by flat_of_before) -/
def lw_At (p : Program) (s : State) (m : MethodId) (meth : Method) (c : Code) (b L : Nat) (xs : Nat → Int32) : Prop :=
  p.tables.exec = Jvm.exec ∧ c.code = code ∧ meth.sig.returnType = ret ∧ c.maxLocals = 7 ∧ s.vm.findClass R_law = some m.cls ∧ (∀ w ∈ lw_tbl, w.before #[Value.ref b] s = true) ∧ va_X b L xs s s.heap ∧ b < s.heap.size ∧ meth.locks = false ∧ (Jvm.Cond.and given_1 narrow_1).before #[Value.ref b] s = true
theorem nq_flags {l : Launch} (h : l.flags = flags0) : l.stackTraces = false := by
  unfold Launch.stackTraces
  rw [h]
  decide +kernel
theorem nq_found {U : State} {C : String} {T : u_T} {N : Nat} {cC : ClassId} {iS : Nat → Nat} (h : u_Kn U C T N cC iS) : ∃ c, U.vm.findClass C = some c := ⟨cC, h.2.1⟩
theorem nq_memr {big : List Cond} (ws : List Cond) (ps : List Nat) (hp : ws = ps.filterMap (fun i => big[i]?)) : ∀ w ∈ ws, w ∈ big := by
  intro w hw
  rw [hp] at hw
  obtain ⟨i, -, hi⟩ := List.mem_filterMap.mp hw
  exact List.mem_of_getElem? hi
theorem nq_nF : ∀ w ∈ nq_F.map nq_fc, w ∈ lw_tbl := nq_memr _ [177, 178, 181, 190, 234, 235, 237, 238, 241, 291, 293, 294, 295, 317, 318, 320, 324, 376, 377, 397] (by decide +kernel)
theorem nq_nM : ∀ w ∈ nq_M.map nq_mc, w ∈ lw_tbl := nq_memr _ [169, 224, 309, 365, 391, 405, 509, 565, 570, 697, 839, 1033, 1132] (by decide +kernel)
theorem nq_nS : ∀ w ∈ nq_S.map (fun x => Cond.stringRef RX10 x.1 x.2), w ∈ lw_tbl := nq_memr _ [924, 1063, 1162, 1174, 1194, 1203, 1256, 1276, 1281, 1289, 1297, 1315, 1394, 1395] (by decide +kernel)
theorem nq_start {args : Array Value} {s : State} (hts : ∀ w ∈ lw_tbl, w.before args s = true) : ∃ (G : va_G) (y : Nat → ClassId), nq_K G y s := by
  obtain ⟨cX0, iX0, kX0⟩ := u_known (C := RX0) (T := TX0) (N := 4) (n := 4) hts (fun w h => (gw_wsX00 w h).1) (hts (.instantiable RX0 4) (List.mem_of_getElem? (i := 343) (by decide +kernel)))
  obtain ⟨cX1, iX1, kX1⟩ := u_known (C := RX1) (T := TX1) (N := 1) (n := 1) hts (fun w h => (gw_wsX10 w h).1) (hts (.instantiable RX1 1) (List.mem_of_getElem? (i := 262) (by decide +kernel)))
  obtain ⟨cX2, iX2, kX2⟩ := u_known (C := RX2) (T := TX2) (N := 1) (n := 1) hts (fun w h => (gw_wsX20 w h).1) (hts (.instantiable RX2 1) (List.mem_of_getElem? (i := 404) (by decide +kernel)))
  obtain ⟨cX3, iX3, kX3⟩ := u_known (C := RX3) (T := TX3) (N := 5) (n := 5) hts (fun w h => (gw_wsX30 w h).1) (hts (.instantiable RX3 5) (List.mem_of_getElem? (i := 364) (by decide +kernel)))
  obtain ⟨cX4, iX4, kX4⟩ := u_known (C := RX4) (T := TX4) (N := 14) (n := 14) hts (fun w h => (gw_wsX40 w h).1) (hts (.instantiable RX4 14) (List.mem_of_getElem? (i := 168) (by decide +kernel)))
  obtain ⟨cX5, iX5, kX5⟩ := u_known (C := RX5) (T := TX5) (N := 1) (n := 1) hts (fun w h => (gw_wsX50 w h).1) (hts (.instantiable RX5 1) (List.mem_of_getElem? (i := 272) (by decide +kernel)))
  obtain ⟨cX6, iX6, kX6⟩ := u_known (C := RX6) (T := TX6) (N := 7) (n := 7) hts (fun w h => (gw_wsX60 w h).1) (hts (.instantiable RX6 7) (List.mem_of_getElem? (i := 308) (by decide +kernel)))
  obtain ⟨cX7, iX7, kX7⟩ := u_known (C := RX7) (T := TX7) (N := 2) (n := 2) hts (fun w h => (gw_wsX70 w h).1) (hts (.instantiable RX7 2) (List.mem_of_getElem? (i := 390) (by decide +kernel)))
  obtain ⟨cX8, iX8, kX8⟩ := u_known (C := RX8) (T := TX8) (N := 9) (n := 9) hts (fun w h => (gw_wsX80 w h).1) (hts (.instantiable RX8 9) (List.mem_of_getElem? (i := 223) (by decide +kernel)))
  obtain ⟨cX9, iX9, kX9⟩ := u_known (C := RX9) (T := TX9) (N := 5) (n := 5) hts (fun w h => (gw_wsX90 w h).1) (hts (.instantiable RX9 5) (List.mem_of_getElem? (i := 282) (by decide +kernel)))
  obtain ⟨cX10, iX10, kX10⟩ := u_known (C := RX10) (T := TX10) (N := 18) (n := 18) hts (fun w h => (gw_wsX100 w h).1) (hts (.instantiable RX10 18) (List.mem_of_getElem? (i := 159) (by decide +kernel)))
  obtain ⟨cX11, iX11, kX11⟩ := u_known (C := RX11) (T := TX11) (N := 66) (n := 66) hts (fun w h => (gw_wsX110 w h).1) (hts (.instantiable RX11 66) (List.mem_of_getElem? (i := 1410) (by decide +kernel)))
  obtain ⟨yI, zI1, zI2, zI3, zI4, zI5⟩ := Cond.arrayClass_spec (hts (.arrayClass .int) (List.mem_of_getElem? (i := 220) (by decide +kernel)))
  obtain ⟨yJ, zJ1, zJ2, zJ3, zJ4, zJ5⟩ := Cond.arrayClass_spec (hts (.arrayClass .long) (List.mem_of_getElem? (i := 413) (by decide +kernel)))
  obtain ⟨yZ, zZ1, zZ2, zZ3, zZ4, zZ5⟩ := Cond.arrayClass_spec (hts (.arrayClass .boolean) (List.mem_of_getElem? (i := 221) (by decide +kernel)))
  obtain ⟨zP1, yP, zP2, zP3, zP4, zP5, zP6, zP7⟩ := Cond.arrayOver_spec (hts (.arrayOver (.object "NestQuery$Path")) (List.mem_of_getElem? (i := 167) (by decide +kernel)))
  obtain ⟨zT1, yT, zT2, zT3, zT4, zT5, zT6, zT7⟩ := Cond.arrayOver_spec (hts (.arrayOver (.object "NestQuery$Tree")) (List.mem_of_getElem? (i := 315) (by decide +kernel)))
  refine ⟨(fun k => match k with | 0 => cX0 | 1 => cX1 | 2 => cX2 | 3 => cX3 | 4 => cX4 | 5 => cX5 | 6 => cX6 | 7 => cX7 | 8 => cX8 | 9 => cX9 | 10 => cX10 | _ => cX11, fun k => match k with | 0 => iX0 | 1 => iX1 | 2 => iX2 | 3 => iX3 | 4 => iX4 | 5 => iX5 | 6 => iX6 | 7 => iX7 | 8 => iX8 | 9 => iX9 | 10 => iX10 | _ => iX11), fun k => match k with | 0 => yI | 1 => yJ | 2 => yZ | 3 => yP | _ => yT, ⟨?_, ?_⟩, ⟨?_, ?_⟩, ?_, ?_⟩
  · intro k q hq
    match k, hq with
    | 0, hq => cases hq; exact kX0
    | 1, hq => cases hq; exact kX1
    | 2, hq => cases hq; exact kX2
    | 3, hq => cases hq; exact kX3
    | 4, hq => cases hq; exact kX4
    | 5, hq => cases hq; exact kX5
    | 6, hq => cases hq; exact kX6
    | 7, hq => cases hq; exact kX7
    | 8, hq => cases hq; exact kX8
    | 9, hq => cases hq; exact kX9
    | 10, hq => cases hq; exact kX10
    | 11, hq => cases hq; exact kX11
    | k + 12, hq => simp [vwCl] at hq
  · intro k q hq
    match k, hq with
    | 0, hq => cases hq; exact ⟨fun n z => ⟨fun k h => (by cases h), zI1, zI4, zI2, zI5⟩, zI3⟩
    | 1, hq => cases hq; exact ⟨fun n z => ⟨fun k h => (by cases h), zJ1, zJ4, zJ2, zJ5⟩, zJ3⟩
    | 2, hq => cases hq; exact ⟨fun n z => ⟨fun k h => (by cases h), zZ1, zZ4, zZ2, zZ5⟩, zZ3⟩
    | 3, hq => cases hq; exact ⟨fun n z => ⟨fun k h => (by cases h), zP2, zP5, zP1, zP6⟩, zP2, zP1, zP5, zP6, zP3, zP7⟩
    | 4, hq => cases hq; exact ⟨fun n z => ⟨fun k h => (by cases h), zT2, zT5, zT1, zT6⟩, zT2, zT1, zT5, zT6, zT3, zT7⟩
    | k + 5, hq => simp [tyL] at hq
  · intro x hx
    exact va_Nw.of rfl (hts _ (nq_nF _ (List.mem_map_of_mem hx)))
  · intro x hx
    exact va_Nw.of rfl (hts _ (nq_nM _ (List.mem_map_of_mem hx)))
  · exact va_AO.of (hts (.arrayOver (.object "NestQuery$Path")) (List.mem_of_getElem? (i := 167) (by decide +kernel)))
  · exact va_AO.of (hts (.arrayOver (.object "NestQuery$Tree")) (List.mem_of_getElem? (i := 315) (by decide +kernel)))
theorem nq_startX {args : Array Value} {s : State} {A : Nat → Prop} (hts : ∀ w ∈ lw_tbl, w.before args s = true) (hgv : (Jvm.Cond.and given_1 narrow_1).before args s = true) (hA : ∀ a : Nat, a < s.heap.size → ¬ A a) : nq_X A s := by
  have hf := flat_of_before _ hgv
  have hcur := (u_known (C := RX10) (T := TX10) (N := 18) (n := 18) hts (fun w h => (gw_wsX100 w h).1) (hts (.instantiable RX10 18) (List.mem_of_getElem? (i := 159) (by decide +kernel))))
  obtain ⟨c10, i10, k10⟩ := hcur
  have hini := hts (.initialized "java/lang/Throwable") (List.mem_of_getElem? (i := 149) (by decide +kernel))
  refine ⟨vx_Zqof (hts (.laysStatic "java/lang/Throwable" "UNASSIGNED_STACK" "[Ljava/lang/StackTraceElement;") (List.mem_of_getElem? (i := 911) (by decide +kernel))) hini (hf _ (by decide +kernel)) hA, vx_Zqof (hts (.laysStatic "java/lang/Throwable" "SUPPRESSED_SENTINEL" "Ljava/util/List;") (List.mem_of_getElem? (i := 913) (by decide +kernel))) hini (hf _ (by decide +kernel)) hA, fun x hx => ?_, nq_C.of (hts (.castable nq_NSE nq_NSE) (List.mem_of_getElem? (i := 1056) (by decide +kernel))), nq_C.of (hts (.castable nq_IAE nq_IAE) (List.mem_of_getElem? (i := 886) (by decide +kernel))), va_Nc.of (hf (.not (.castable nq_IAE nq_NSE)) (by decide +kernel)), nq_Dl.of (hts (.declares nq_i1) (List.mem_of_getElem? (i := 888) (by decide +kernel))), nq_Dl.of (hts (.declares nq_i2) (List.mem_of_getElem? (i := 890) (by decide +kernel))), nq_Dl.of (hts (.declares nq_i3) (List.mem_of_getElem? (i := 892) (by decide +kernel)))⟩
  have hw := hts _ (nq_nS _ (List.mem_map_of_mem (f := fun x => Cond.stringRef RX10 x.1 x.2) hx))
  obtain ⟨cC, hcC⟩ : ∃ cC, s.vm.findClass RX10 = some cC := nq_found k10
  obtain ⟨_, _, _, a, _, _, _, _, _, h⟩ := Cond.stringRef_spec hcC hw
  exact ⟨a, vk_R.of hw h⟩
