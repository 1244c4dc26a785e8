/-! A class of exceptions whose constructor calls the one above it by another index: 'throw new E("text")'. -/
section NQ
variable {p : Program} {l : Launch} {e : Env} {R : Room} {s : State} {m : MethodId} {args : Array Value} {below : List Frame} {meth : Method} {c : Code} {U0 : State} {cells slots : Nat}
set_option maxHeartbeats 2000000 in
/-- the constructor's walk and the throw behind it, from the call on -/
theorem nq_ctor (X : Stand p l e R s m args below meth c U0 [] cells slots) (hexec : p.tables.exec = Jvm.exec) (hoff : e.platform.stackTraces = false) {own cls sup : String} {ups : List String} {ic ix : Nat} {rx : ByteArray}
    (x0 : decode rx 0 = .ok (.aload_n 0, 1)) (x1 : decode rx 1 = .ok (.aload_n 1, 1)) (x2 : decode rx 2 = .ok (.invokespecial ix, 3)) (x5 : decode rx 5 = .ok (.return_, 1))
    (hown : s.vm.findClass own = some m.cls) (hcls : Bundle.fit cls = true) (hnames : ∀ n ∈ sup :: ups, Bundle.fit n = true) (hw : ∀ w ∈ nqL own ic cls ix rx sup ups, w.before args s = true)
    {q : Nat} {cX : ClassId} {kX : Class} (hf : s.vm.findClass cls = some cX) (hk0 : s.vm.classes[cX]? = some kX) (hq : U0.heap[q]? = some (freshCell cX kX)) (hqn : s.heap.size ≤ q) {sa : Nat}
    {g : JFrame} (hg : g.method = m) (hsz : g.locals.size = c.maxLocals) (hlk : g.locked = none) (hen : g.entered = []) {rest : List Value} (hst : g.stack = .ref sa :: .ref q :: .ref q :: rest)
    (hdi : decode c.code g.pc = .ok (.invokespecial ic, 3)) (hda : decode c.code (g.pc + 3) = .ok (.athrow, 1)) (hout : ∀ x ∈ c.exceptionTable.toList, covers x (g.pc + 3) = false)
    (hRf : ups.length + 1 + 3 < R.frames) (hRl : 2 * g.monitorRoom + ((Value.ref q :: rest).map fun v => v.category).sum + (13 * (ups.length + 1 + 1) + 42) ≤ R.locals) (hlocks : meth.locks = false) :
    ∃ U : State, Steps p.tables e below (U0.setTop g) U ∧ U.status = .running ∧ Ended U below (.threw q) ∧ s.WarmedH U.vm ∧ s.sameButNew ({ U with vm := s.vm } : State) [] cells slots ∧ ∃ ce, U.heap[q]? = some ce ∧ ce.vm = .none ∧ ce.cls = cX := by
  have pm : e.platform.frameOwnsMonitors = true ∧ e.platform.finalization = false ∧ e.platform.magicAccessors = ({} : Platform).magicAccessors := by rw [X.admits.platform]; exact ⟨rfl, rfl, rfl⟩
  obtain ⟨pm1, pm2, hpl⟩ := pm
  obtain ⟨T, Z0, L, -, Y⟩ := ThrowableC.of_atoms (args := args) pm1 pm2 hpl (fun x hx => hw x (by simp [nqL, hx]))
  obtain ⟨Z, M, LZ, LM, hZ⟩ := Init0T.ofS_atoms (args := args) hpl L Y (fun x hx => hw x (by simp [nqL, hx]))
  obtain ⟨P1, L1, hP1, hs1⟩ := PassC.ofS_atoms (args := args) (s := s) hpl (X := cls) (Y := sup) (Bundle.fit_spec hcls).1 (Bundle.fit_spec (hnames sup List.mem_cons_self)).2 x0 x1 x2 x5 (fun x hx => hw x (by simp [nqL, hx]))
  obtain ⟨P2, Ps, hlen, L2, hL, hP2, hl1, hl2⟩ := Bundle.chainS (args := args) hpl hZ ups sup (hnames sup List.mem_cons_self) (fun n hn => hnames n (List.mem_cons_of_mem _ hn)) (fun x hx => hw x (by simp [nqL, hx]))
  have hs2 : P1.sup = P2.m := Option.some.inj (hs1.symm.trans hP2)
  have hc1 : s.vm.findClass cls = some P1.m.cls := findClass_of_methodNamed hP1
  obtain rfl : cX = P1.m.cls := Option.some.inj (hf.symm.trans hc1)
  have sel : ∀ {y : MethodName} {mm : MethodId}, Cond.selects cls y y ∈ nqL own ic cls ix rx sup ups → s.methodNamed? y = some mm → (y.cls ≠ "java/lang/invoke/MethodHandle" ∧ y.cls ≠ "java/lang/invoke/VarHandle") → selectMethod e.platform s.vm P1.m.cls mm = .method mm := fun {y mm} h1 h2 h3 => by
    obtain ⟨c2, r2, m2, q1, q2, q3, q4, -⟩ := Cond.selects_spec (hw _ h1)
    cases Option.some.inj (q1.symm.trans hc1)
    cases Option.some.inj (q2.symm.trans (State.methodFound?_of_named h2 h3))
    cases Option.some.inj (q3.symm.trans h2)
    rw [Launch.admits_selectMethod X.admits]
    exact q4
  have s0 := sel (y := Bundle.tFill0) (by simp [nqL]) Y.fill0 (by decide)
  have s1 := sel (y := Bundle.tFill) (by simp [nqL]) Y.fill (by decide)
  obtain ⟨_, k2, e1, hk, hord, -, -, -⟩ := Cond.instantiable_spec (hw (.instantiable cls 6) (by simp [nqL]))
  cases Option.some.inj (e1.symm.trans hc1)
  obtain rfl : kX = k2 := Option.some.inj (hk0.symm.trans hk)
  obtain ⟨cs, hcs, his⟩ := Y.statics
  obtain ⟨u0, hu0⟩ := Cond.staticRefV Y.unassigned L.unassignedStatic L.statics hcs his (hw (.isRef (.static Bundle.tN "UNASSIGNED_STACK" Bundle.steD)) (by simp [nqL]))
  obtain ⟨sn, hsn⟩ := Cond.staticRefV Y.sentinel L.sentinelStatic L.statics hcs his (hw (.isRef (.static Bundle.tN "SUPPRESSED_SENTINEL" Bundle.listD)) (by simp [nqL]))
  obtain ⟨cb, ib, fB, b1, b2, b3, b4, -, hnB, htB, hfB⟩ := Cond.ownField (t := .object "java/lang/Object") Y.found L.cls (by decide +kernel) (hw (.fieldLink Bundle.tN 198 Bundle.tN "backtrace" "Ljava/lang/Object;") (by simp [nqL])) (hw (.lays Bundle.tN Bundle.tN "backtrace" "Ljava/lang/Object;") (by simp [nqL])) e.platform hpl
  obtain ⟨cS, hcS, hvS, -, hkeep⟩ := X.same.2.2.2.2.2 T.aS cs hcs
  have hcS' : U0.heap[T.aS]? = some cS := hcS
  have hun : cS.vm ≠ .unknown := fun h => by
    rw [hvS] at h
    rw [show cs.vm = .unknown from h] at his
    cases his
  have hne : T.aS ≠ q := Nat.ne_of_lt (Nat.lt_of_lt_of_le (Array.getElem?_eq_some_iff.mp hcs).1 hqn)
  obtain ⟨iM, hfM⟩ := Y.msg
  obtain ⟨yC, dC, hC, nC⟩ := Cond.laysAt hc1 hk Y.cause (hw (.lays cls Bundle.tN "cause" "Ljava/lang/Throwable;") (by simp [nqL]))
  obtain ⟨yS, dS, hS, nS⟩ := Cond.laysAt hc1 hk Y.stack (hw (.lays cls Bundle.tN "stackTrace" Bundle.steD) (by simp [nqL]))
  obtain ⟨yP, dP, hP, nP⟩ := Cond.laysAt hc1 hk Y.supp (hw (.lays cls Bundle.tN "suppressedExceptions" Bundle.listD) (by simp [nqL]))
  obtain ⟨yM, dM, hM, nM⟩ := Cond.laysAt hc1 hk hfM (hw (.lays cls Bundle.tN "detailMessage" "Ljava/lang/String;") (by simp [nqL]))
  obtain ⟨yB, dB, hB, nB⟩ := Cond.laysAt hc1 hk hfB (hw (.lays cls Bundle.tN "backtrace" "Ljava/lang/Object;") (by simp [nqL]))
  have aC := Cond.laysApart hB hC nB nC (by rw [hnB, Y.causeName]; decide)
  have aS := Cond.laysApart hB hS nB nS (by rw [hnB, Y.stackName]; decide)
  have aP := Cond.laysApart hB hP nB nP (by rw [hnB, Y.suppName]; decide)
  have hskip : SkipFacts T e.platform s (fun u => u) u0 ((preparedCellV T.toThrowableT (freshCell P1.m.cls kX) q u0 sn).withEntry U0.cur) := by
    refine ⟨{ ci198 := cb, i198 := ib, fBack := fB }, ⟨b1, b2, b3, b4⟩, ?_, fun _ _ => rfl⟩
    have := fresh_default (c := P1.m.cls) yB
    rw [htB] at this
    simpa [preparedCellV, Cell.setSlot, Cell.withEntry, Array.getElem?_setIfInBounds, aC, aS, aP, aC.symm, aS.symm, aP.symm, defaultValue] using this
  obtain ⟨_, _, _, _, v1, e2, -, -, -, -, -, -, -, hW1, st1⟩ := Steps.initColdS (tb := p.tables) (e := e) (below := below) (s := s) (U := U0) X.here hexec X.warmed hpl hown (t := Bundle.initS cls) rfl rfl (Bundle.fit_spec hcls).2
    (hw (.methodLink own ic (Bundle.initS cls)) (by simp [nqL])) (hw (.instanceMethod (Bundle.initS cls)) (by simp [nqL, Bundle.passSAtoms])) (bytes := rx) (maxL := 2) (hw (.code (Bundle.initS cls) rx 2 none) (by simp [nqL, Bundle.passSAtoms]))
    (f := g) hg (a := q) (msg := .ref sa) (rest := .ref q :: rest) hst hdi
  cases Option.some.inj (e2.symm.trans hP1)
  have X1 := X.noted hW1
  obtain ⟨v2, X2, st2⟩ := X1.ctorMessageOffV hexec (g := { g with stack := .ref q :: rest }) hg hsz T L Z LZ M LM (P1 :: P2 :: Ps)
    (fun P hP => (List.mem_cons.mp hP).elim (fun h => h ▸ L1) (fun h => (List.mem_cons.mp h).elim (fun h => h ▸ L2) (hL P))) ⟨hs2, hl1, hl2⟩ (u0 := u0) (sen := sn) (self := q) (msg := .ref sa) rfl (cell := freshCell P1.m.cls kX) (cellS := cS)
    hq (fun _ => by simp) (by simp) rfl rfl s0 s1 hcS' hne hun (by rw [hkeep _ (fun h => nomatch h)]; exact hu0) (by rw [hkeep _ (fun h => nomatch h)]; exact hsn)
    (Takes.of_laid hk hord yC (by rw [Y.causeType]; rfl)) (Takes.of_laid hk hord yS (by rw [Y.stackType]; exact fits_refV_array _ u0)) (Takes.of_laid hk hord yP (by rw [Y.suppType]; exact fits_refV_object _ sn))
    (Takes.of_laid hk hord yM (by rw [Y.msgType]; exact fits_refV_object _ ⟨.ref sa, rfl⟩)) Y.objLocals hskip hoff [] hdi
    (by simp only [List.length_cons, hlen]; omega) (by simp only [List.length_cons, hlen]; exact hRl)
  obtain ⟨hwalk, hrun, hend, hW2, hsame⟩ := X2.athrowLeaves hexec (g := { g with stack := .ref q :: rest, pc := g.pc + 3 }) hg hlk hen hout (a := q) (rest := rest) rfl hda
  have hlt : q < ((U0.setVm v1).setVm v2).heap.size := (Array.getElem?_eq_some_iff.mp hq).1
  have hU := heapAt_setCell_self (s := (U0.setVm v1).setVm v2) (plainBareV T.toThrowableT (freshCell P1.m.cls kX) q u0 sn (.ref sa)) hlt
  refine ⟨_, st1 _ (fun acts => ?_), hrun, hend, hW2, hsame.weaken (fun y hy hy2 => ?_) (Nat.le_refl _) (Nat.le_refl _), _, hU, rfl, rfl⟩
  · rw [doInvoke_state]
    exact st2 _ hwalk
  · refine (List.mem_append.mp hy).elim id (fun h1 => ?_)
    have hb : y.base = q := by
      simp only [List.mem_cons, List.not_mem_nil, or_false] at h1
      rcases h1 with rfl | rfl | rfl | rfl | rfl <;> rfl
    rw [hb] at hy2
    exact absurd hqn (Nat.not_le.mpr hy2)
end NQ
section NQ2
variable {p : Program} {l : Launch} {e : Env} {R : Room} {s : State} {m : MethodId} {args : Array Value} {below : List Frame} {meth : Method} {c : Code} {H : Heap} {locs : List Loc} {cells slots : Nat} {ls : Array Slot} {rest : List Value} {Qc : Array Value → State → Outcome → State → Prop} {XC : String → State → State → Prop} {free : Addr → Prop}
set_option maxHeartbeats 1000000 in
/-- .. its row, the text by a wide index -/
theorem nq_throwW {cc : ByteArray} {pc : Nat} (hexec : p.tables.exec = Jvm.exec) (hb : c.code = cc) (hl : l.stackTraces = false) {own cls sup text : String} {ups : List String} {ik is ic ix mc ms sa : Nat} {rx : ByteArray} {A : Nat → Prop}
    (x0 : decode rx 0 = .ok (.aload_n 0, 1)) (x1 : decode rx 1 = .ok (.aload_n 1, 1)) (x2 : decode rx 2 = .ok (.invokespecial ix, 3)) (x5 : decode rx 5 = .ok (.return_, 1))
    (hown : s.vm.findClass own = some m.cls) (hcls : Bundle.fit cls = true) (hnames : ∀ n ∈ sup :: ups, Bundle.fit n = true)
    (hk : (Cond.classLink own ik cls).before args s = true) (hini : (Cond.initialized cls).before args s = true) (hstr : vk_R own is text sa s) (hat : ∀ w ∈ (nqL own ic cls ix rx sup ups).filter vx_no, w.before args s = true)
    (hgood : ∀ w ∈ Cond.classLink own ik cls :: Cond.initialized cls :: (nqL own ic cls ix rx sup ups).filter vx_no, vx_ot w = true)
    (hU : vx_Zq Bundle.tN "UNASSIGNED_STACK" Bundle.steD A s s.heap) (hN : vx_Zq Bundle.tN "SUPPRESSED_SENTINEL" Bundle.listD A s s.heap) (hS : va_S A s.heap H locs) (hsize : ls.size = c.maxLocals)
    (d0 : decode cc pc = .ok (.new ik, 3)) (d3 : decode cc (pc + 3) = .ok (.dup, 1)) (d4 : decode cc (pc + 4) = .ok (.ldc_w is, 3)) (d7 : decode cc (pc + 7) = .ok (.invokespecial ic, 3)) (d10 : decode cc (pc + 10) = .ok (.athrow, 1))
    (hout : ∀ x ∈ c.exceptionTable.toList, covers x (pc + 10) = false)
    (hRf : ups.length + 1 + 3 < R.frames) (hRl : (rest.map fun v => v.category).sum + (13 * (ups.length + 1 + 1) + 43) ≤ R.locals) (hRc : cells + 1 ≤ R.cells) (hRs : slots + 6 ≤ R.slots) (hlocks : meth.locks = false)
    (hx : ∀ t : State, s.vm.Alike t.vm → H.size ≤ t.heap.size → (∀ q : Nat, q < H.size → t.heap[q]? = H[q]?) → XC cls s t)
    (hf : ∀ z ∈ locs, free z.base) (hc : cells + 1 ≤ mc) (hs : slots + 6 ≤ ms) :
    W p l e R s m args below meth c H locs cells slots (vx_MQ below Qc XC args s mc ms free) (F0 m pc ls rest) := by
  intro T hT X
  have hoff : e.platform.stackTraces = false := (show e.platform.stackTraces = l.stackTraces by rw [X.admits.platform]).trans hl
  have Y := vx_rebase X (R' := { frames := R.frames, locals := R.locals, cells := 1, slots := 6 }) (Nat.le_refl _) (Nat.le_refl _) hRc hRs
  obtain ⟨s', hA⟩ : ∃ z, z = (T.setVm s.vm).setFrames (.invoking m args :: below) := ⟨_, rfl⟩
  rw [← hA] at Y
  have hvm : s'.vm = s.vm := by rw [hA]; rfl
  have hhp : s'.heap = H := by rw [hA]; exact hT
  have hW0 : s.WarmedH s'.vm := by rw [hvm]; exact State.WarmedH.refl s
  have hto : ∀ w, w ∈ Cond.classLink own ik cls :: Cond.initialized cls :: (nqL own ic cls ix rx sup ups).filter vx_no → w.before args s = true → w.before args s' = true := fun w h1 h2 => vx_ot_at hW0 hvm.symm (hgood w h1) h2
  have hU' : vx_Zq Bundle.tN "UNASSIGNED_STACK" Bundle.steD A s' s'.heap := by rw [hhp]; exact vx_Zq.moved hW0.alike (hU.kept hS.2.1)
  have hN' : vx_Zq Bundle.tN "SUPPRESSED_SENTINEL" Bundle.listD A s' s'.heap := by rw [hhp]; exact vx_Zq.moved hW0.alike (hN.kept hS.2.1)
  have h : ∀ w ∈ nqL own ic cls ix rx sup ups, w.before args s' = true := vx_own (fun w hw => hto w (List.mem_cons_of_mem _ (List.mem_cons_of_mem _ hw)) (hat w hw)) (vx_isRefq hU'.1) (vx_isRefq hN'.1) hU'.2.word hN'.2.word
  have hown' : s'.vm.findClass own = some m.cls := by rw [hvm]; exact hown
  have hins : (Cond.instantiable cls 6).before args s' = true := h _ (by simp [nqL])
  obtain ⟨vm₁, cX, kX, hfX, hkX, -, -, X₁, st1⟩ := Y.newCold hexec (own := own) (C := cls) (index := ik) (n := 6) hown' (hto _ List.mem_cons_self hk) hins (hto _ (List.mem_cons_of_mem _ List.mem_cons_self) hini)
    (g := F0 m pc ls rest) rfl (by rw [hb]; exact d0) (Nat.le_refl _) (Nat.le_refl _)
  generalize hT1 : (T.setVm vm₁).pushCell { cls := cX, slots := kX.instanceTypes.map defaultValue, vm := .none } = T1 at X₁ st1
  have hcat : (Value.ref T.heap.size).category = 1 := rfl
  have hcell : T1.heap[T.heap.size]? = some (freshCell cX kX) := by rw [← hT1]; exact State.heap_pushCell_size _ _
  have d3' : decode c.code (pc + 3) = .ok (.dup, 1) := by rw [hb]; exact d3
  have hstr' : vk_R own is text sa s' := vk_R.warm hW0 hstr
  obtain ⟨U, hsteps, hrun, hend, hW, hsame, ce, hce, hcv, hcc⟩ := nq_ctor X₁ hexec hoff (own := own) (cls := cls) (sup := sup) (ups := ups) (ic := ic) x0 x1 x2 x5 hown' hcls hnames h hfX hkX (q := T.heap.size) (sa := sa) hcell (by rw [hhp, hT]; exact Nat.le_refl _)
    (g := { method := m, pc := pc + 7, locals := ls, stack := .ref sa :: .ref T.heap.size :: .ref T.heap.size :: rest, locked := none }) rfl hsize rfl rfl (rest := rest) rfl
    (by rw [hb]; exact d7) (by rw [hb]; exact d10) hout hRf (by simp only [List.map_cons, List.sum_cons, hcat]; omega) hlocks
  obtain ⟨f1, f2⟩ := vx_frame hsame
  rw [hhp] at f1 f2
  have hWs : s.WarmedH U.vm := State.WarmedH.trans hW0 hW
  have hcl : s.vm.findClass cls = some ce.cls := by
    rw [hcc, ← hvm]
    exact hfX
  have hall : s.sameButNew ({ U with vm := s.vm } : State) locs mc ms := by
    subst hA
    obtain ⟨e1, e2⟩ := hsame
    rw [State.setFrames_setFrames] at e1
    have h3 := X.same.trans (show (T.setVm s.vm).sameButNew ({ U with vm := s.vm } : State) [] (0 + 1) (0 + 6) from ⟨e1, e2⟩)
    rw [List.append_nil] at h3
    exact h3.mono hc hs
  refine ⟨U, ?_, .threw T.heap.size, hrun, hend, Or.inr ⟨T.heap.size, rfl, cls, ce, locs, hx U hWs.alike f1 (fun q hq => f2 q hq (fun z hz => nomatch hz)), hce, hcv, hcl, hWs, hall, hf⟩⟩
  refine st1 _ ?_
  show Steps p.tables e below (T1.setTop { method := m, pc := pc + 3, locals := ls, stack := .ref T.heap.size :: rest, locked := none }) _
  jvm_step X₁.here [X₁.here.top, hexec, d3', Value.category]
  exact X₁.ldcStringW hexec (own := own) (text := text) (index := is) (a := sa) hown' hstr'.1 hstr'.2
    (g := { method := m, pc := pc + 4, locals := ls, stack := .ref T.heap.size :: .ref T.heap.size :: rest, locked := none }) rfl (by rw [hb]; exact d4) _ hsteps
end NQ2
section NQ3
variable {p : Program} {l : Launch} {e : Env} {R : Room} {s : State} {m : MethodId} {args : Array Value} {below : List Frame} {meth : Method} {c : Code} {cc : ByteArray} {nL : Nat} {Ts : List Cond} {D : va_G} {tys : List (ClassId × FieldType)} {A : Nat → Prop} {cells slots : Nat} {w : va_W} {pc : Nat} {lv : List (Nat × Value)} {st : List Value}
theorem nq_x : decode prog_23_method_4_code 0 = .ok (.aload_n 0, 1) ∧ decode prog_23_method_4_code 1 = .ok (.aload_n 1, 1) ∧ decode prog_23_method_4_code 2 = .ok (.invokespecial 13, 3) ∧ decode prog_23_method_4_code 5 = .ok (.return_, 1) := by decide +kernel
theorem nq_fit : Bundle.fit "java/util/NoSuchElementException" = true ∧ (∀ n ∈ (["java/lang/RuntimeException", "java/lang/Exception"] : List String), Bundle.fit n = true) ∧ (∀ w ∈ nqAt.filter (fun w => !goodWord w), w ∈ (Cond.castable "java/util/NoSuchElementException" "java/util/NoSuchElementException" :: zDecl.map (fun q => Cond.declares q) : List Cond)) ∧ "java/util/NoSuchElementException" ∈ zCast ∧ (∀ w ∈ Cond.classLink RX6 325 "java/util/NoSuchElementException" :: Cond.initialized "java/util/NoSuchElementException" :: nqAt, vx_ot w = true) := by decide +kernel
theorem zg_throwNW (X : zC p s m args meth c cc nL Ts RX6 D tys A) (hl0 : l.stackTraces = false) {text : String} {is mc0 ms0 : Nat} {ex : String → va_W → Prop} {Qc : Array Value → State → Outcome → State → Prop} (hno : ∀ x ∈ c.exceptionTable.toList, False) (hk : Cond.classLink RX6 325 "java/util/NoSuchElementException" ∈ Ts) (hini : Cond.initialized "java/util/NoSuchElementException" ∈ Ts) (hstr : (RX6, is, text) ∈ zStr) (hat : ∀ w ∈ nqAt.filter goodWord, w ∈ Ts)
    (d0 : decode cc pc = .ok (.new 325, 3)) (d3 : decode cc (pc + 3) = .ok (.dup, 1)) (d4 : decode cc (pc + 4) = .ok (.ldc_w is, 3)) (d6 : decode cc (pc + 7) = .ok (.invokespecial 329, 3)) (d9 : decode cc (pc + 10) = .ok (.athrow, 1))
    (hR : 5 < R.frames ∧ (st.map fun v => v.category).sum + 82 ≤ R.locals ∧ cells + 1 ≤ R.cells ∧ slots + 6 ≤ R.slots) (hm : cells + 1 ≤ mc0 ∧ slots + 6 ≤ ms0) (hx : ex "java/util/NoSuchElementException" w) : zG p l e R s m args below meth c D nL A cells slots (vx_MQ below Qc (xE D tys ex A) args s mc0 ms0 A) w (pc) lv (st) := fun H locs ls hP hD hS hl => by
  have Z := X.2.2.2.2.2.2.2.1
  obtain ⟨sa, hsa⟩ := Z.2.2.1 _ hstr
  refine nq_throwW (text := text) (is := is) (sa := sa) (rx := prog_23_method_4_code) (ix := 13) (ic := 329) X.1 X.2.1 hl0 nq_x.1 nq_x.2.1 nq_x.2.2.1 nq_x.2.2.2 X.2.2.2.2.1 nq_fit.1 nq_fit.2.1 (X.2.2.2.1 _ hk) (X.2.2.2.1 _ hini) hsa (vx_hat (L := nqAt) (fun w hw => X.2.2.2.1 _ (hat w hw)) nq_fit.2.2.1 (vx_c (va_Nw.use rfl (Z.2.2.2.2.1 _ nq_fit.2.2.2.1)) (fun w hw => by
    obtain ⟨q, hq, rfl⟩ := List.mem_map.mp hw
    exact va_Nw.use rfl (Z.2.2.2.2.2.2 _ hq)))) nq_fit.2.2.2.2 Z.1 Z.2.1 hS (hl.1.trans X.2.2.1.symm) d0 d3 d4 d6 d9 (fun x hx => (hno x hx).elim) hR.1 hR.2.1 hR.2.2.1 hR.2.2.2 X.2.2.2.2.2.2.2.2 (fun t ha hz ho => ?_) hS.2.2 hm.1 hm.2
  have hk9 : ∀ (k : Nat) (x : Nat × va_E), w[k]? = some x → t.heap[x.1]? = H[x.1]? := fun k x hx9 => ho x.1 ((hP k x hx9).lt)
  exact ⟨w, trivial, ⟨hx, hP.kept hk9, va_K.moved ha X.2.2.2.2.2.1, hD⟩, Nat.le_trans hS.1 hz, fun q h1 h2 => (ho q (Nat.lt_of_lt_of_le h1 hS.1)).trans (hS.2.1 q h1 h2)⟩
end NQ3
