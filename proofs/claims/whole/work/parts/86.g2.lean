/-! More rows of the G layer: objects and rows made, quotients, doubles, calls that catch, the law. -/
section ZG3
variable {p : Program} {l : Launch} {e : Env} {R : Room} {s : State} {m : MethodId} {args : Array Value} {below : List Frame} {meth : Method} {c : Code} {cc : ByteArray} {nL : Nat} {Ts : List Cond} {own : String} {D : va_G} {tys : List (ClassId × FieldType)} {A : Nat → Prop} {cells slots : Nat} {Q : State → Prop} {w : va_W} {pc : Nat} {lv : List (Nat × Value)} {st : List Value}
variable {y : MethodName} {bytes : ByteArray} {maxL : Nat} {ret : Option FieldType} {ws ws' : List Cond} {rm : Room} {mc ms n index : Nat} {wc : va_W} {J : va_W → va_W} {As rest : List Value} {b : Nat} {C : String} {T : u_T} {N ci q0 : Nat} {fs : List Value}
theorem zg_perm {w' : va_W} (is : List Nat) (hn : va_nd is = true) (h : is.map (fun i => w[i]?) = w'.map some) (k : zG p l e R s m args below meth c D nL A cells slots Q (w') (pc) lv (st)) : zG p l e R s m args below meth c D nL A cells slots Q (w) (pc) lv (st) := fun H locs ls hP hD hS hl => by
  have h1 : is.filterMap (fun i => w[i]?) = w' := by
    have h2 : is.filterMap (fun i => w[i]?) = (is.map (fun i => w[i]?)).filterMap id := by rw [List.filterMap_map]; rfl
    rw [h2, h, List.filterMap_map]
    exact List.filterMap_some
  exact k H locs ls (hP.sub is h1) (hD.sub is hn h) hS hl
theorem zg_obj (X : zC p s m args meth c cc nL Ts own D tys A) {idx a : Nat} (hlink : Cond.methodLink own idx objectInit ∈ Ts) (hinst : Cond.instanceMethod objectInit ∈ Ts) (hcode : Cond.code objectInit ⟨#[0xb1]⟩ 1 none ∈ Ts) (hfr : 1 ≤ R.frames) (hlo : (st.map fun v => v.category).sum + 12 ≤ R.locals) (hdg : decode cc pc = .ok (.invokespecial idx, 3)) (k : zG p l e R s m args below meth c D nL A cells slots Q (w) (pc + 3) lv (st)) : zG p l e R s m args below meth c D nL A cells slots Q (w) (pc) lv (.ref a :: st) := fun H locs ls hP hD hS hl => W.objInit X.1 X.2.1 X.2.2.2.2.1 (X.2.2.2.1 _ hlink) (X.2.2.2.1 _ hinst) (X.2.2.2.1 _ hcode) (g := F0 m pc ls (.ref a :: st)) (a := a) (rest := st) rfl (hl.1.trans X.2.2.1.symm) rfl hdg hfr (by show 2 * 0 + _ + 12 ≤ _; omega) (k H locs ls hP hD hS hl)
theorem zg_newa (X : zC p s m args meth c cc nL Ts own D tys A) {atype : ArrayType} {ty : FieldType} (hty : newarray.typeOf atype = ty) (harr : Cond.arrayClass ty ∈ Ts) {t0 : Nat} {cA : ClassId} (ht : tys[t0]? = some (cA, ty)) (hra : ∀ (U : State) (x : ClassId), va_RA U x ty → U.vm.findClass ("[" ++ ty.toString) = some x) {nn : Int32} {N' : Nat} {a0 : vp_A} (ha : ∀ x : ClassId, vp_cell x a0 = arrV x N' (fun _ => defaultValue ty)) (hn : ¬ nn < 0) (hN : nn.toNatClampNeg = N') (hbytes : N' * componentBytes ty ≤ 536870912) (hcells : cells + 1 ≤ R.cells) (hslots : slots + N' ≤ R.slots) (hdg : decode cc pc = .ok (.newarray atype, 2)) (k : ∀ q : Nat, zG p l e R s m args below meth c D nL A (cells + 1) (slots + N') Q (w ++ [(q, .inl (cA, a0))]) (pc + 2) lv (.ref q :: st)) : zG p l e R s m args below meth c D nL A cells slots Q (w) (pc) lv (.int nn :: st) := fun H locs ls hP hD hS hl => by
  subst hty
  refine va_newa X.1 X.2.1 (X.2.2.2.1 _ harr) rfl X.2.2.2.2.2.1 hP hD hS X.2.2.2.2.2.2.1 (a0 := a0) ha hn hN hbytes hcells hslots hdg (fun q cA' H1 hK1 hP1 hD1 hS1 => ?_)
  have h1 := (hK1.2 tys.length (cA', newarray.typeOf atype) (by simp)).2
  have h2 := (X.2.2.2.2.2.1.2 t0 _ ht).2
  have e9 : cA' = cA := Option.some.inj ((hra s cA' h1).symm.trans (hra s cA h2))
  subst e9
  exact k q H1 locs ls hP1 hD1 hS1 hl
theorem zg_new (X : zC p s m args meth c cc nL Ts own D tys A) (hin : ∀ w ∈ u_ws C T N, w ∈ Ts) {ty0 : Nat → FieldType} (hty : ∀ k, k < N → parseFieldDescriptor (T k).2.2.1 = some (ty0 k)) (hcl : Cond.classLink own index C ∈ Ts) (hinst : Cond.instantiable C N ∈ Ts) (hini : Cond.initialized C ∈ Ts) (hc : vwCl[ci]? = some (C, T, N)) (hfs : ∀ j, j < N → defaultValue (ty0 j) = vp_V fs j) (hcells : cells + 1 ≤ R.cells) (hslots : slots + N ≤ R.slots) (hdg : decode cc pc = .ok (.new index, 3)) (k : ∀ q : Nat, zG p l e R s m args below meth c D nL A (cells + 1) (slots + N) Q (w ++ [(q, .inr (ci, fs))]) (pc + 3) lv (.ref q :: st)) : zG p l e R s m args below meth c D nL A cells slots Q (w) (pc) lv (st) := fun H locs ls hP hD hS hl => va_new X.1 X.2.1 X.2.2.2.1 hin ty0 hty X.2.2.2.2.1 (X.2.2.2.1 _ hcl) (X.2.2.2.1 _ hinst) (X.2.2.2.1 _ hini) X.2.2.2.2.2.1 hP hD hS X.2.2.2.2.2.2.1 hc hfs hcells hslots hdg (fun q H1 hP1 hD1 hS1 => k q H1 locs ls hP1 hD1 hS1 hl)
theorem zg_fdiv (X : zC p s m args meth c cc nL Ts own D tys A) {x y : UInt32} (hne : FP.fdiv x y &&& 0x7fffffff ≤ 0x7f800000) (hdg : decode cc pc = .ok (.fdiv, 1)) (k : zG p l e R s m args below meth c D nL A cells slots Q (w) (pc + 1) lv (.float (FP.fdiv x y) :: st)) : zG p l e R s m args below meth c D nL A cells slots Q (w) (pc) lv (.float y :: .float x :: st) := fun H locs ls hP hD hS hl => lv_fdiv X.1 X.2.1 hdg hne (k H locs ls hP hD hS hl)
theorem zg_ddiv (X : zC p s m args meth c cc nL Ts own D tys A) {x y : UInt64} (hne : FP.ddiv x y &&& 0x7fffffffffffffff ≤ 0x7ff0000000000000) (hdg : decode cc pc = .ok (.ddiv, 1)) (k : zG p l e R s m args below meth c D nL A cells slots Q (w) (pc + 1) lv (.double (FP.ddiv x y) :: st)) : zG p l e R s m args below meth c D nL A cells slots Q (w) (pc) lv (.double y :: .double x :: st) := fun H locs ls hP hD hS hl => lv_ddiv X.1 X.2.1 hdg hne (k H locs ls hP hD hS hl)
theorem zg_f2d (X : zC p s m args meth c cc nL Ts own D tys A) {x : UInt32} (hne : FP.f2d x &&& 0x7fffffffffffffff ≤ 0x7ff0000000000000) (hdg : decode cc pc = .ok (.f2d, 1)) (k : zG p l e R s m args below meth c D nL A cells slots Q (w) (pc + 1) lv (.double (FP.f2d x) :: st)) : zG p l e R s m args below meth c D nL A cells slots Q (w) (pc) lv (.float x :: st) := fun H locs ls hP hD hS hl => lv_f2d X.1 X.2.1 hdg hne (k H locs ls hP hD hS hl)
theorem zg_fret (X : zC p s m args meth c cc nL Ts own D tys A) {v : UInt32} {post : UInt32 → va_W → Prop} {mc ms : Nat} (hr : meth.sig.returnType = some .float) (hdg : decode cc pc = .ok (.freturn, 1)) (hc : cells ≤ mc) (hs : slots ≤ ms) (hp : post v w) : zG p l e R s m args below meth c D nL A cells slots (MQ below (va_Qf post (zB D tys A) A) args s mc ms A) (w) (pc) lv ([.float v]) := fun H locs ls hP hD hS hl =>
  W.widen hc hs (W.fret (v := v) X.1 X.2.1 hr (fun t ht hW => ⟨⟨v, w, rfl, hp, by rw [ht]; exact hP, va_K.moved hW.alike X.2.2.2.2.2.1, hD⟩, hS.F ht⟩) hS.2.2 hdg (hlocks := X.2.2.2.2.2.2.2.2))
theorem zg_dret (X : zC p s m args meth c cc nL Ts own D tys A) {v : UInt64} {post : UInt64 → va_W → Prop} {mc ms : Nat} (hr : meth.sig.returnType = some .double) (hdg : decode cc pc = .ok (.dreturn, 1)) (hc : cells ≤ mc) (hs : slots ≤ ms) (hp : post v w) : zG p l e R s m args below meth c D nL A cells slots (MQ below (va_Qd post (zB D tys A) A) args s mc ms A) (w) (pc) lv ([.double v]) := fun H locs ls hP hD hS hl =>
  W.widen hc hs (W.dret (v := v) X.1 X.2.1 hr (fun t ht hW => ⟨⟨v, w, rfl, hp, by rw [ht]; exact hP, va_K.moved hW.alike X.2.2.2.2.2.1, hD⟩, hS.F ht⟩) hS.2.2 hdg (hlocks := X.2.2.2.2.2.2.2.2))
theorem zg_fstore (X : zC p s m args meth c cc nL Ts own D tys A) {i : Nat} {x : UInt32} (hdg : decode cc pc = .ok (.fstore i, 2)) (hn : i < nL) (k : zG p l e R s m args below meth c D nL A cells slots Q (w) (pc + 2) ((i, Value.float x) :: lvD lv i) (st)) : zG p l e R s m args below meth c D nL A cells slots Q (w) (pc) lv (.float x :: st) := fun H locs ls hP hD hS hl => lv_fstore X.1 X.2.1 hdg hl hn rfl (fun ls hl => k H locs ls hP hD hS (lvD_less hl))
theorem zg_dstore (X : zC p s m args meth c cc nL Ts own D tys A) {i : Nat} {x : UInt64} (hdg : decode cc pc = .ok (.dstore i, 2)) (hn : i + 1 < nL) (k : zG p l e R s m args below meth c D nL A cells slots Q (w) (pc + 2) ((i, Value.double x) :: lvE lv i) (st)) : zG p l e R s m args below meth c D nL A cells slots Q (w) (pc) lv (.double x :: st) := fun H locs ls hP hD hS hl => lv_dstore X.1 X.2.1 hdg hl hn rfl (fun ls hl => k H locs ls hP hD hS (lvE_less hl))
theorem zg_dald (X : zC p s m args meth c cc nL Ts own D tys A) {a n q0 t0 : Nat} {cA : ClassId} {f : Nat → UInt64} (ha : w[q0]? = some (a, .inl (cA, n, .inr (.inr (.inr (.inl f)))))) (ht : tys[t0]? = some (cA, .double)) {i : Int32} (hin : vp_in i n) (hdg : decode cc pc = .ok (.daload, 1)) (k : zG p l e R s m args below meth c D nL A cells slots Q (w) (pc + 1) lv (.double (f i.toNatClampNeg) :: st)) : zG p l e R s m args below meth c D nL A cells slots Q (w) (pc) lv (.int i :: .ref a :: st) := fun H locs ls hP hD hS hl => va_dald X.1 X.2.1 X.2.2.2.2.2.1 hP q0 t0 ha ht hin hdg (k H locs ls hP hD hS hl)
theorem zg_dast (X : zC p s m args meth c cc nL Ts own D tys A) {a n q0 t0 : Nat} {cA : ClassId} {f : Nat → UInt64} (ha : w[q0]? = some (a, .inl (cA, n, .inr (.inr (.inr (.inl f)))))) (ht : tys[t0]? = some (cA, .double)) {i : Int32} {x : UInt64} (hin : vp_in i n) (hdg : decode cc pc = .ok (.dastore, 1)) {w' : va_W} (hw : w.set q0 (a, .inl (cA, n, .inr (.inr (.inr (.inl (vf_upd f i.toNatClampNeg x)))))) = w') (k : zG p l e R s m args below meth c D nL A cells slots Q (w') (pc + 1) lv (st)) : zG p l e R s m args below meth c D nL A cells slots Q (w) (pc) lv (.double x :: .int i :: .ref a :: st) := fun H locs ls hP hD hS hl => va_dast X.1 X.2.1 X.2.2.2.2.2.1 hP hD hS q0 t0 ha ht hin hdg (fun H1 locs1 hP hD hS => by rw [hw] at hP hD; exact k H1 locs1 ls hP hD hS hl)
theorem zg_callVf (X : zC p s m args meth c cc nL Ts own D tys A) {post : UInt32 → va_W → Prop} (hM : zM l y ws rm D tys (.ref b :: As) wc mc ms (qF D tys post)) (fr : zFr D w wc J) (hg : GoodIn Ts (wsV own index C y ws)) (hw : ws = Cond.code y bytes maxL ret :: ws') (hrc : rm.cells = mc) (hrs : rm.slots = ms) (hy : y.cls = C ∧ y.cls ≠ "java/lang/invoke/MethodHandle" ∧ y.cls ≠ "java/lang/invoke/VarHandle" ∧ (parseMethodDescriptor y.desc).map (fun d => d.parameters.length) = some n) (hn : As.length = n) (hR : rm.frames + 1 ≤ R.frames ∧ 8 + (maxL + 11) + rm.locals ≤ R.locals) (hb : wc[q0]? = some (b, .inr (ci, fs))) (hcl : vwCl[ci]? = some (C, T, N)) (hst : st = As.reverse ++ .ref b :: rest) (hrm : (rest.map fun v => v.category).sum ≤ 8) (hf : cells + mc ≤ R.cells ∧ slots + ms ≤ R.slots) (hdg : decode cc pc = .ok (.invokevirtual index, 3)) (kk : ∀ (r : UInt32) (w1 : va_W), post r w1 → zG p l e R s m args below meth c D nL A (cells + mc) (slots + ms) Q (J w1) (pc + 3) lv (.float r :: rest)) : zG p l e R s m args below meth c D nL A cells slots Q (w) (pc) lv (st) := by
  subst hst
  intro H locs ls hP hD hS hl
  obtain ⟨hPc, hDc, hFc, hj⟩ := fr A H hP hD (fun q h => X.2.2.2.2.2.2.1 q (Nat.le_trans hS.1 h))
  refine va_callf (va_runV (As := As) (rest := rest) ⟨X.1, X.2.1, X.2.2.1, X.2.2.2.2.1, X.2.2.2.1⟩ (hM H.size) (cwV n X.2.2.2.1 hg hw hrc hrs hy hR) ⟨zP_blind, va_recv X.2.2.2.2.2.1 hPc hcl hb, fun U hU hW => ⟨rfl, zP_at X hPc hDc hFc hS hU hW⟩⟩ rfl hn hl.1 rfl (lv_room hrm) hdg hf) hS (fun q _ h => hFc q h) hFc (fun r w1 t H1 locs1 ht hvm hp hB hz hk hS1 => ?_)
  obtain ⟨hP1, -, hD1⟩ := hB
  rw [ht] at hP1
  obtain ⟨hP2, hD2⟩ := hj H1 w1 hk hP1 hD1
  exact kk r w1 hp H1 locs1 ls hP2 hD2 hS1 hl
theorem zg_callVd (X : zC p s m args meth c cc nL Ts own D tys A) {post : UInt64 → va_W → Prop} (hM : zM l y ws rm D tys (.ref b :: As) wc mc ms (qD D tys post)) (fr : zFr D w wc J) (hg : GoodIn Ts (wsV own index C y ws)) (hw : ws = Cond.code y bytes maxL ret :: ws') (hrc : rm.cells = mc) (hrs : rm.slots = ms) (hy : y.cls = C ∧ y.cls ≠ "java/lang/invoke/MethodHandle" ∧ y.cls ≠ "java/lang/invoke/VarHandle" ∧ (parseMethodDescriptor y.desc).map (fun d => d.parameters.length) = some n) (hn : As.length = n) (hR : rm.frames + 1 ≤ R.frames ∧ 8 + (maxL + 11) + rm.locals ≤ R.locals) (hb : wc[q0]? = some (b, .inr (ci, fs))) (hcl : vwCl[ci]? = some (C, T, N)) (hst : st = As.reverse ++ .ref b :: rest) (hrm : (rest.map fun v => v.category).sum ≤ 8) (hf : cells + mc ≤ R.cells ∧ slots + ms ≤ R.slots) (hdg : decode cc pc = .ok (.invokevirtual index, 3)) (kk : ∀ (r : UInt64) (w1 : va_W), post r w1 → zG p l e R s m args below meth c D nL A (cells + mc) (slots + ms) Q (J w1) (pc + 3) lv (.double r :: rest)) : zG p l e R s m args below meth c D nL A cells slots Q (w) (pc) lv (st) := by
  subst hst
  intro H locs ls hP hD hS hl
  obtain ⟨hPc, hDc, hFc, hj⟩ := fr A H hP hD (fun q h => X.2.2.2.2.2.2.1 q (Nat.le_trans hS.1 h))
  refine va_calld (va_runV (As := As) (rest := rest) ⟨X.1, X.2.1, X.2.2.1, X.2.2.2.2.1, X.2.2.2.1⟩ (hM H.size) (cwV n X.2.2.2.1 hg hw hrc hrs hy hR) ⟨zP_blind, va_recv X.2.2.2.2.2.1 hPc hcl hb, fun U hU hW => ⟨rfl, zP_at X hPc hDc hFc hS hU hW⟩⟩ rfl hn hl.1 rfl (lv_room hrm) hdg hf) hS (fun q _ h => hFc q h) hFc (fun r w1 t H1 locs1 ht hvm hp hB hz hk hS1 => ?_)
  obtain ⟨hP1, -, hD1⟩ := hB
  rw [ht] at hP1
  obtain ⟨hP2, hD2⟩ := hj H1 w1 hk hP1 hD1
  exact kk r w1 hp H1 locs1 ls hP2 hD2 hS1 hl
/-- a table of handlers that cover one stretch: handler, class's place, class's name -/
abbrev zTab (lo hi : Nat) (hs : List (Nat × Nat × String)) : List ExceptionTableEntry := tableOf (hs.map fun q => (lo, hi, q.1, q.2.1))
abbrev zTabOk (Ts : List Cond) (own : String) (hs : List (Nat × Nat × String)) : Prop := (∀ q ∈ hs, Cond.classLink own q.2.1 q.2.2 ∈ Ts ∧ q.2.1 ≠ 0 ∧ q.2.2 ∈ zCast) ∧ List.Pairwise (fun a b : Nat × Nat × String => a.2.2 ≠ b.2.2) hs
theorem zg_caught (X : zC p s m args meth c cc nL Ts own D tys A) {lo hi : Nat} {hs : List (Nat × Nat × String)} (htab : c.exceptionTable.toList = zTab lo hi hs) (hok : zTabOk Ts own hs) (hcov : lo ≤ pc ∧ pc < hi) {q : Nat × Nat × String} (hq : q ∈ hs) {H : Heap} {locs : List Loc} {ls : Array Slot} {ce : Cell} {q9 : Addr} (hce : H[q9]? = some ce) (hcv : ce.vm = .none) (hcl : s.vm.findClass q.2.2 = some ce.cls) (kk : W p l e R s m args below meth c H locs cells slots Q (F0 m q.1 ls [.ref q9])) : vx_W p l e R s m args below meth c H locs cells slots Q (F0 m pc ls rest) q9 := by
  obtain ⟨a, b, rfl⟩ := List.append_of_mem hq
  have hq1 := hok.1 q hq
  have hcv9 : covers (⟨lo, hi, q.1, q.2.1⟩ : ExceptionTableEntry) pc = true := by
    show (decide (lo ≤ pc) && decide (pc < hi)) = true
    rw [decide_eq_true hcov.1, decide_eq_true hcov.2]
    rfl
  refine vx_catch (own := own) (name := q.2.2) X.2.2.2.2.1 (zTab lo hi a) ⟨lo, hi, q.1, q.2.1⟩ (zTab lo hi b) ?_ ?_ hcv9 hq1.2.1 (X.2.2.2.1 _ hq1.1) (va_Nw.use rfl (X.2.2.2.2.2.2.2.1.2.2.2.2.1 _ hq1.2.2)) hce hcv hcl kk
  · rw [htab]
    show List.map _ (List.map _ (a ++ q :: b)) = _
    rw [List.map_append, List.map_append]
    rfl
  · intro z hz
    obtain ⟨z1, hz1, rfl⟩ := List.mem_map.mp hz
    obtain ⟨z2, hz2, rfl⟩ := List.mem_map.mp hz1
    have h2 := hok.1 z2 (List.mem_append_left _ hz2)
    have h3 := (List.pairwise_append.mp hok.2).2.2 z2 hz2 q List.mem_cons_self
    exact Or.inr ⟨h2.2.1, z2.2.2, X.2.2.2.1 _ h2.1, X.2.2.2.2.2.2.2.1.2.2.2.2.2.1 _ hq1.2.2 _ h2.2.2 (fun z => h3 z.symm)⟩
theorem zg_ccallVi (X : zC p s m args meth c cc nL Ts own D tys A) {post : Int32 → va_W → Prop} {ex : String → va_W → Prop} {lo hi : Nat} {hs : List (Nat × Nat × String)} (htab : c.exceptionTable.toList = zTab lo hi hs) (hok : zTabOk Ts own hs) (hcov : lo ≤ pc ∧ pc < hi) (hM : zMX l y ws rm D tys (.ref b :: As) wc mc ms (qI D tys post) (xE D tys ex)) (fr : zFr D w wc J) (hg : GoodIn Ts (wsV own index C y ws)) (hw : ws = Cond.code y bytes maxL ret :: ws') (hrc : rm.cells = mc) (hrs : rm.slots = ms) (hy : y.cls = C ∧ y.cls ≠ "java/lang/invoke/MethodHandle" ∧ y.cls ≠ "java/lang/invoke/VarHandle" ∧ (parseMethodDescriptor y.desc).map (fun d => d.parameters.length) = some n) (hn : As.length = n) (hR : rm.frames + 1 ≤ R.frames ∧ 8 + (maxL + 11) + rm.locals ≤ R.locals) (hb : wc[q0]? = some (b, .inr (ci, fs))) (hcl : vwCl[ci]? = some (C, T, N)) (hst : st = As.reverse ++ .ref b :: rest) (hrm : (rest.map fun v => v.category).sum ≤ 8) (hf : cells + mc ≤ R.cells ∧ slots + ms ≤ R.slots) (hdg : decode cc pc = .ok (.invokevirtual index, 3)) (kx : ∀ (E : String) (w1 : va_W), ex E w1 → ∃ q : Nat × Nat × String, q ∈ hs ∧ q.2.2 = E ∧ ∀ a : Nat, zG p l e R s m args below meth c D nL A (cells + mc) (slots + ms) Q (J w1) (q.1) lv ([.ref a])) (kk : ∀ (r : Int32) (w1 : va_W), post r w1 → zG p l e R s m args below meth c D nL A (cells + mc) (slots + ms) Q (J w1) (pc + 3) lv (.int r :: rest)) : zG p l e R s m args below meth c D nL A cells slots Q (w) (pc) lv (st) := by
  subst hst
  intro H locs ls hP hD hS hl
  obtain ⟨hPc, hDc, hFc, hj⟩ := fr A H hP hD (fun q h => X.2.2.2.2.2.2.1 q (Nat.le_trans hS.1 h))
  refine vx_calli (vx_runV (As := As) (rest := rest) ⟨X.1, X.2.1, X.2.2.1, X.2.2.2.2.1, X.2.2.2.1⟩ (hM H.size) (cwV n X.2.2.2.1 hg hw hrc hrs hy hR) ⟨zP_blind, va_recv X.2.2.2.2.2.1 hPc hcl hb, fun U hU hW => ⟨rfl, zP_at X hPc hDc hFc hS hU hW⟩⟩ rfl hn hl.1 rfl (lv_room hrm) hdg hf) hS (fun q _ h => hFc q h) hFc (fun q _ h => hFc q h) (fun E ce q9 w1 t H1 locs1 ht hvm _ hBX hz hk hS1 hce hcv hcl => ?_) (fun r w1 t H1 locs1 ht hvm hp hB hz hk hS1 => ?_)
  · obtain ⟨hE, hP1, hK1, hD1⟩ := hBX
    rw [ht] at hP1
    obtain ⟨hP2, hD2⟩ := hj H1 w1 hk hP1 hD1
    obtain ⟨q, hq, rfl, kq⟩ := kx E w1 hE
    exact zg_caught X htab hok hcov hq hce hcv hcl (kq q9 H1 locs1 ls hP2 hD2 hS1 hl)
  · obtain ⟨hP1, -, hD1⟩ := hB
    rw [ht] at hP1
    obtain ⟨hP2, hD2⟩ := hj H1 w1 hk hP1 hD1
    exact kk r w1 hp H1 locs1 ls hP2 hD2 hS1 hl
theorem zg_ccallVf (X : zC p s m args meth c cc nL Ts own D tys A) {post : UInt32 → va_W → Prop} {ex : String → va_W → Prop} {lo hi : Nat} {hs : List (Nat × Nat × String)} (htab : c.exceptionTable.toList = zTab lo hi hs) (hok : zTabOk Ts own hs) (hcov : lo ≤ pc ∧ pc < hi) (hM : zMX l y ws rm D tys (.ref b :: As) wc mc ms (qF D tys post) (xE D tys ex)) (fr : zFr D w wc J) (hg : GoodIn Ts (wsV own index C y ws)) (hw : ws = Cond.code y bytes maxL ret :: ws') (hrc : rm.cells = mc) (hrs : rm.slots = ms) (hy : y.cls = C ∧ y.cls ≠ "java/lang/invoke/MethodHandle" ∧ y.cls ≠ "java/lang/invoke/VarHandle" ∧ (parseMethodDescriptor y.desc).map (fun d => d.parameters.length) = some n) (hn : As.length = n) (hR : rm.frames + 1 ≤ R.frames ∧ 8 + (maxL + 11) + rm.locals ≤ R.locals) (hb : wc[q0]? = some (b, .inr (ci, fs))) (hcl : vwCl[ci]? = some (C, T, N)) (hst : st = As.reverse ++ .ref b :: rest) (hrm : (rest.map fun v => v.category).sum ≤ 8) (hf : cells + mc ≤ R.cells ∧ slots + ms ≤ R.slots) (hdg : decode cc pc = .ok (.invokevirtual index, 3)) (kx : ∀ (E : String) (w1 : va_W), ex E w1 → ∃ q : Nat × Nat × String, q ∈ hs ∧ q.2.2 = E ∧ ∀ a : Nat, zG p l e R s m args below meth c D nL A (cells + mc) (slots + ms) Q (J w1) (q.1) lv ([.ref a])) (kk : ∀ (r : UInt32) (w1 : va_W), post r w1 → zG p l e R s m args below meth c D nL A (cells + mc) (slots + ms) Q (J w1) (pc + 3) lv (.float r :: rest)) : zG p l e R s m args below meth c D nL A cells slots Q (w) (pc) lv (st) := by
  subst hst
  intro H locs ls hP hD hS hl
  obtain ⟨hPc, hDc, hFc, hj⟩ := fr A H hP hD (fun q h => X.2.2.2.2.2.2.1 q (Nat.le_trans hS.1 h))
  refine vx_callf (vx_runV (As := As) (rest := rest) ⟨X.1, X.2.1, X.2.2.1, X.2.2.2.2.1, X.2.2.2.1⟩ (hM H.size) (cwV n X.2.2.2.1 hg hw hrc hrs hy hR) ⟨zP_blind, va_recv X.2.2.2.2.2.1 hPc hcl hb, fun U hU hW => ⟨rfl, zP_at X hPc hDc hFc hS hU hW⟩⟩ rfl hn hl.1 rfl (lv_room hrm) hdg hf) hS (fun q _ h => hFc q h) hFc (fun q _ h => hFc q h) (fun E ce q9 w1 t H1 locs1 ht hvm _ hBX hz hk hS1 hce hcv hcl => ?_) (fun r w1 t H1 locs1 ht hvm hp hB hz hk hS1 => ?_)
  · obtain ⟨hE, hP1, hK1, hD1⟩ := hBX
    rw [ht] at hP1
    obtain ⟨hP2, hD2⟩ := hj H1 w1 hk hP1 hD1
    obtain ⟨q, hq, rfl, kq⟩ := kx E w1 hE
    exact zg_caught X htab hok hcov hq hce hcv hcl (kq q9 H1 locs1 ls hP2 hD2 hS1 hl)
  · obtain ⟨hP1, -, hD1⟩ := hB
    rw [ht] at hP1
    obtain ⟨hP2, hD2⟩ := hj H1 w1 hk hP1 hD1
    exact kk r w1 hp H1 locs1 ls hP2 hD2 hS1 hl
theorem zg_ccallVd (X : zC p s m args meth c cc nL Ts own D tys A) {post : UInt64 → va_W → Prop} {ex : String → va_W → Prop} {lo hi : Nat} {hs : List (Nat × Nat × String)} (htab : c.exceptionTable.toList = zTab lo hi hs) (hok : zTabOk Ts own hs) (hcov : lo ≤ pc ∧ pc < hi) (hM : zMX l y ws rm D tys (.ref b :: As) wc mc ms (qD D tys post) (xE D tys ex)) (fr : zFr D w wc J) (hg : GoodIn Ts (wsV own index C y ws)) (hw : ws = Cond.code y bytes maxL ret :: ws') (hrc : rm.cells = mc) (hrs : rm.slots = ms) (hy : y.cls = C ∧ y.cls ≠ "java/lang/invoke/MethodHandle" ∧ y.cls ≠ "java/lang/invoke/VarHandle" ∧ (parseMethodDescriptor y.desc).map (fun d => d.parameters.length) = some n) (hn : As.length = n) (hR : rm.frames + 1 ≤ R.frames ∧ 8 + (maxL + 11) + rm.locals ≤ R.locals) (hb : wc[q0]? = some (b, .inr (ci, fs))) (hcl : vwCl[ci]? = some (C, T, N)) (hst : st = As.reverse ++ .ref b :: rest) (hrm : (rest.map fun v => v.category).sum ≤ 8) (hf : cells + mc ≤ R.cells ∧ slots + ms ≤ R.slots) (hdg : decode cc pc = .ok (.invokevirtual index, 3)) (kx : ∀ (E : String) (w1 : va_W), ex E w1 → ∃ q : Nat × Nat × String, q ∈ hs ∧ q.2.2 = E ∧ ∀ a : Nat, zG p l e R s m args below meth c D nL A (cells + mc) (slots + ms) Q (J w1) (q.1) lv ([.ref a])) (kk : ∀ (r : UInt64) (w1 : va_W), post r w1 → zG p l e R s m args below meth c D nL A (cells + mc) (slots + ms) Q (J w1) (pc + 3) lv (.double r :: rest)) : zG p l e R s m args below meth c D nL A cells slots Q (w) (pc) lv (st) := by
  subst hst
  intro H locs ls hP hD hS hl
  obtain ⟨hPc, hDc, hFc, hj⟩ := fr A H hP hD (fun q h => X.2.2.2.2.2.2.1 q (Nat.le_trans hS.1 h))
  refine vx_calld (vx_runV (As := As) (rest := rest) ⟨X.1, X.2.1, X.2.2.1, X.2.2.2.2.1, X.2.2.2.1⟩ (hM H.size) (cwV n X.2.2.2.1 hg hw hrc hrs hy hR) ⟨zP_blind, va_recv X.2.2.2.2.2.1 hPc hcl hb, fun U hU hW => ⟨rfl, zP_at X hPc hDc hFc hS hU hW⟩⟩ rfl hn hl.1 rfl (lv_room hrm) hdg hf) hS (fun q _ h => hFc q h) hFc (fun q _ h => hFc q h) (fun E ce q9 w1 t H1 locs1 ht hvm _ hBX hz hk hS1 hce hcv hcl => ?_) (fun r w1 t H1 locs1 ht hvm hp hB hz hk hS1 => ?_)
  · obtain ⟨hE, hP1, hK1, hD1⟩ := hBX
    rw [ht] at hP1
    obtain ⟨hP2, hD2⟩ := hj H1 w1 hk hP1 hD1
    obtain ⟨q, hq, rfl, kq⟩ := kx E w1 hE
    exact zg_caught X htab hok hcov hq hce hcv hcl (kq q9 H1 locs1 ls hP2 hD2 hS1 hl)
  · obtain ⟨hP1, -, hD1⟩ := hB
    rw [ht] at hP1
    obtain ⟨hP2, hD2⟩ := hj H1 w1 hk hP1 hD1
    exact kk r w1 hp H1 locs1 ls hP2 hD2 hS1 hl
theorem zg_callSWi (X : zC p s m args meth c cc nL Ts own D tys A) {hh : List (Nat × Nat × Nat × Nat)} {post : Int32 → va_W → Prop} (hM : zM l y ws rm D tys As wc mc ms (qI D tys post)) (fr : zFr D w wc J) (hg : GoodIn Ts (va_wsS own index y ws)) (hw : ws = Cond.codeWith y bytes maxL ret hh :: ws') (hrc : rm.cells = mc) (hrs : rm.slots = ms) (hy : y.cls ≠ "java/lang/invoke/MethodHandle" ∧ y.cls ≠ "java/lang/invoke/VarHandle" ∧ (parseMethodDescriptor y.desc).map (fun d => d.parameters.length) = some n) (hn : As.length = n) (hR : rm.frames + 1 ≤ R.frames ∧ 8 + (maxL + 11) + rm.locals ≤ R.locals) (hst : st = As.reverse ++ rest) (hrm : (rest.map fun v => v.category).sum ≤ 8) (hf : cells + mc ≤ R.cells ∧ slots + ms ≤ R.slots) (hdg : decode cc pc = .ok (.invokestatic index, 3)) (kk : ∀ (r : Int32) (w1 : va_W), post r w1 → zG p l e R s m args below meth c D nL A (cells + mc) (slots + ms) Q (J w1) (pc + 3) lv (.int r :: rest)) : zG p l e R s m args below meth c D nL A cells slots Q (w) (pc) lv (st) := by
  subst hst
  intro H locs ls hP hD hS hl
  obtain ⟨hPc, hDc, hFc, hj⟩ := fr A H hP hD (fun q h => X.2.2.2.2.2.2.1 q (Nat.le_trans hS.1 h))
  refine va_calli (vx_runSW (hh := hh) (As := As) (rest := rest) ⟨X.1, X.2.1, X.2.2.1, X.2.2.2.2.1, X.2.2.2.1⟩ (hM H.size) (vx_cwSW n X.2.2.2.1 hg hw hrc hrs hy hR) ⟨zP_blind, fun U hU hW => ⟨rfl, zP_at X hPc hDc hFc hS hU hW⟩⟩ rfl hn hl.1 rfl (lv_room hrm) hdg hf) hS (fun q _ h => hFc q h) hFc (fun r w1 t H1 locs1 ht hvm hp hB hz hk hS1 => ?_)
  obtain ⟨hP1, -, hD1⟩ := hB
  rw [ht] at hP1
  obtain ⟨hP2, hD2⟩ := hj H1 w1 hk hP1 hD1
  exact kk r w1 hp H1 locs1 ls hP2 hD2 hS1 hl
theorem zg_sld (X : zC p s m args meth c cc nL Ts own D tys A) {b0 L : Nat} {xs : Nat → Int32} (hX : va_X b0 L xs s s.heap) (hbl : b0 < s.heap.size) (hbA : ¬ A b0) {i : Nat} (hi : i < L) (hL : L < 2 ^ 31) (hdg : decode cc pc = .ok (.iaload, 1)) (k : zG p l e R s m args below meth c D nL A cells slots Q (w) (pc + 1) lv (.int (xs i) :: st)) : zG p l e R s m args below meth c D nL A cells slots Q (w) (pc) lv (.int (nI i) :: .ref b0 :: st) := fun H locs ls hP hD hS hl => va_sld X.1 X.2.1 hX hbl hbA hS (vp_in_nI hi hL) hdg (by rw [nI_clamp (by omega)]; exact k H locs ls hP hD hS hl)
theorem zg_slen (X : zC p s m args meth c cc nL Ts own D tys A) {b0 L : Nat} {xs : Nat → Int32} (hX : va_X b0 L xs s s.heap) (hbl : b0 < s.heap.size) (hbA : ¬ A b0) (hdg : decode cc pc = .ok (.arraylength, 1)) (k : zG p l e R s m args below meth c D nL A cells slots Q (w) (pc + 1) lv (.int (nI L) :: st)) : zG p l e R s m args below meth c D nL A cells slots Q (w) (pc) lv (.ref b0 :: st) := fun H locs ls hP hD hS hl => va_slen X.1 X.2.1 hX hbl hbA hS hdg (k H locs ls hP hD hS hl)
theorem zg_tabOut (X : zC p s m args meth c cc nL Ts own D tys A) {dflt lo hi : Int} {offs : Array Int} {len : Nat} {x : Int32} {tgt : Nat} (hdg : decode cc pc = .ok (.tableswitch dflt lo hi offs, len)) (h : x.toInt < lo ∨ hi < x.toInt) (ht : (pc : Int) + dflt = (tgt : Int)) (k : zG p l e R s m args below meth c D nL A cells slots Q (w) (tgt) lv (st)) : zG p l e R s m args below meth c D nL A cells slots Q (w) (pc) lv (.int x :: st) := fun H locs ls hP hD hS hl => lv_tableOut X.1 X.2.1 hdg h ht (k H locs ls hP hD hS hl)
theorem zg_tabIn (X : zC p s m args meth c cc nL Ts own D tys A) {dflt lo hi : Int} {offs : Array Int} {len : Nat} {x : Int32} {off : Int} {tgt : Nat} (hdg : decode cc pc = .ok (.tableswitch dflt lo hi offs, len)) (h1 : ¬ x.toInt < lo) (h2 : ¬ hi < x.toInt) (ho : offs[(x.toInt - lo).toNat]? = some off) (ht : (pc : Int) + off = (tgt : Int)) (k : zG p l e R s m args below meth c D nL A cells slots Q (w) (tgt) lv (st)) : zG p l e R s m args below meth c D nL A cells slots Q (w) (pc) lv (.int x :: st) := fun H locs ls hP hD hS hl => lv_tableIn X.1 X.2.1 hdg h1 h2 ho ht (k H locs ls hP hD hS hl)
end ZG3
theorem zg_ofL {l : Launch} {D : va_G} {tys : List (ClassId × FieldType)} {y : MethodName} {ws ws' : List Cond} {rm : Room} {mc ms maxL : Nat} {ret : Option FieldType} {cc : ByteArray} {av : List Value} {w : va_W} {QF : (Nat → Prop) → Array Value → State → Outcome → State → Prop} {hh : List (Nat × Nat × Nat × Nat)} (hy : plainName y.cls = true) (hw : ws = Cond.codeWith y cc maxL ret hh :: ws') (hlen : (lg_sl av).length ≤ maxL)
    (body : ∀ (p : Program) (e : Env) (s : State) (m : MethodId) (below : List Frame) (meth : Method) (c : Code) (A : Nat → Prop), c.exceptionTable.toList = tableOf hh → meth.sig.returnType = ret → zC p s m av.toArray meth c cc maxL ws y.cls D tys A → zG p l e (headSpec ws rm).room s m av.toArray below meth c D maxL A 0 0 (MQ below (QF A) av.toArray s mc ms A) w 0 (lv_args 0 av) []) : zM l y ws rm D tys av w mc ms QF := by
  intro sz
  refine va_MetW (cc := cc) (maxL := maxL) (ret := ret) (hh := hh) hy hw ?_
  intro p e s m args below meth c s₁ B hml hv
  obtain ⟨rfl, hsz, hP, hK, hD0, hZ⟩ := hv
  subst hsz
  have hD := hD0.self (sz := s.heap.size)
  have hts := atoms_spec (ws := ws) B.pre
  have htab := vx_table (x := y) B (hts _ (by rw [hw]; exact List.mem_cons_self))
  rw [lg_entry_eq]
  exact body p e s m below meth c (va_A w s.heap.size) htab B.returns ⟨B.exec, B.bytes, hml, hts, findClass_of_methodNamed B.named, hK, fun q h => Or.inr h, hZ, B.notSynchronized⟩ s.heap [] _ hP hD va_S.rf (lv_entry av hlen)
