/-! Entries of methods, calls and throws over the G layer. -/
/-- a contract: from the cells wc the method y returns as QF says -/
def zM (l : Launch) (y : MethodName) (ws : List Cond) (rm : Room) (D : va_G) (tys : List (ClassId × FieldType)) (av : List Value) (w : va_W) (mc ms : Nat) (QF : (Nat → Prop) → Array Value → State → Outcome → State → Prop) : Prop :=
  ∀ sz : Nat, Met l y ws rm (va_Pc av (zP D tys w sz)) (QF (va_A w sz)) mc ms (va_A w sz)
/-- .. or throws as XF says -/
def zMX (l : Launch) (y : MethodName) (ws : List Cond) (rm : Room) (D : va_G) (tys : List (ClassId × FieldType)) (av : List Value) (w : va_W) (mc ms : Nat) (QF : (Nat → Prop) → Array Value → State → Outcome → State → Prop) (XF : (Nat → Prop) → String → State → State → Prop) : Prop :=
  ∀ sz : Nat, vx_Met l y ws rm (va_Pc av (zP D tys w sz)) (QF (va_A w sz)) (XF (va_A w sz)) mc ms (va_A w sz)
abbrev qI (D : va_G) (tys : List (ClassId × FieldType)) (post : Int32 → va_W → Prop) : (Nat → Prop) → Array Value → State → Outcome → State → Prop := fun A => va_Qi post (zB D tys A) A
abbrev qL (D : va_G) (tys : List (ClassId × FieldType)) (post : Int64 → va_W → Prop) : (Nat → Prop) → Array Value → State → Outcome → State → Prop := fun A => va_Ql post (zB D tys A) A
abbrev qF (D : va_G) (tys : List (ClassId × FieldType)) (post : UInt32 → va_W → Prop) : (Nat → Prop) → Array Value → State → Outcome → State → Prop := fun A => va_Qf post (zB D tys A) A
abbrev qD (D : va_G) (tys : List (ClassId × FieldType)) (post : UInt64 → va_W → Prop) : (Nat → Prop) → Array Value → State → Outcome → State → Prop := fun A => va_Qd post (zB D tys A) A
abbrev qV (D : va_G) (tys : List (ClassId × FieldType)) (post : va_W → Prop) : (Nat → Prop) → Array Value → State → Outcome → State → Prop := fun A => va_Qv post (zB D tys A) A
abbrev xE (D : va_G) (tys : List (ClassId × FieldType)) (ex : String → va_W → Prop) : (Nat → Prop) → String → State → State → Prop := fun A => vx_X (fun _ : va_W => True) (fun E u t => ex E u ∧ zB D tys A u t) A
theorem zg_of {l : Launch} {D : va_G} {tys : List (ClassId × FieldType)} {y : MethodName} {ws ws' : List Cond} {rm : Room} {mc ms maxL : Nat} {ret : Option FieldType} {cc : ByteArray} {av : List Value} {w : va_W} {QF : (Nat → Prop) → Array Value → State → Outcome → State → Prop} (hy : plainName y.cls = true) (hw : ws = Cond.code y cc maxL ret :: ws') (hlen : (lg_sl av).length ≤ maxL)
    (body : ∀ (p : Program) (e : Env) (s : State) (m : MethodId) (below : List Frame) (meth : Method) (c : Code) (A : Nat → Prop), meth.name = y.name → meth.sig.returnType = ret → zC p s m av.toArray meth c cc maxL ws y.cls D tys A → zG p l e (headSpec ws rm).room s m av.toArray below meth c D maxL A 0 0 (MQ below (QF A) av.toArray s mc ms A) w 0 (lv_args 0 av) []) : zM l y ws rm D tys av w mc ms QF := by
  intro sz
  refine Met.ofW (cc := cc) (maxL := maxL) (ret := ret) hy hw ?_
  intro p e s m args below meth c s₁ B hml hv
  obtain ⟨rfl, hsz, hP, hK, hD0, hZ⟩ := hv
  subst hsz
  have hD := hD0.self (sz := s.heap.size)
  rw [lg_entry_eq]
  exact body p e s m below meth c (va_A w s.heap.size) (name_of_methodNamed B.named B.method).1 B.returns ⟨B.exec, B.bytes, hml, atoms_spec (ws := ws) B.pre, findClass_of_methodNamed B.named, hK, fun q h => Or.inr h, hZ, B.notSynchronized⟩ s.heap [] _ hP hD va_S.rf (lv_entry av hlen)
theorem zg_ofx {l : Launch} {D : va_G} {tys : List (ClassId × FieldType)} {y : MethodName} {ws ws' : List Cond} {rm : Room} {mc ms maxL : Nat} {ret : Option FieldType} {cc : ByteArray} {av : List Value} {w : va_W} {QF : (Nat → Prop) → Array Value → State → Outcome → State → Prop} {XF : (Nat → Prop) → String → State → State → Prop} (hy : plainName y.cls = true) (hw : ws = Cond.code y cc maxL ret :: ws') (hlen : (lg_sl av).length ≤ maxL)
    (body : ∀ (p : Program) (e : Env) (s : State) (m : MethodId) (below : List Frame) (meth : Method) (c : Code) (A : Nat → Prop), (∀ x ∈ c.exceptionTable.toList, False) → meth.sig.returnType = ret → zC p s m av.toArray meth c cc maxL ws y.cls D tys A → zG p l e (headSpec ws rm).room s m av.toArray below meth c D maxL A 0 0 (vx_MQ below (QF A) (XF A) av.toArray s mc ms A) w 0 (lv_args 0 av) []) : zMX l y ws rm D tys av w mc ms QF XF := by
  intro sz
  refine vx_ofW (cc := cc) (maxL := maxL) (ret := ret) hy hw ?_
  intro p e s m args below meth c s₁ B hml hno hv
  obtain ⟨rfl, hsz, hP, hK, hD0, hZ⟩ := hv
  subst hsz
  have hD := hD0.self (sz := s.heap.size)
  rw [lg_entry_eq]
  exact body p e s m below meth c (va_A w s.heap.size) hno B.returns ⟨B.exec, B.bytes, hml, atoms_spec (ws := ws) B.pre, findClass_of_methodNamed B.named, hK, fun q h => Or.inr h, hZ, B.notSynchronized⟩ s.heap [] _ hP hD va_S.rf (lv_entry av hlen)
/-- how a callee's cells lie in the caller's, and what comes back -/
def zFr (D : va_G) (w wc : va_W) (J : va_W → va_W) : Prop := ∀ (A : Nat → Prop) (H : Heap), va_P D vwCl w H → va_D A w → (∀ q, H.size ≤ q → A q) → va_P D vwCl wc H ∧ va_D A wc ∧ (∀ q, va_A wc H.size q → A q) ∧ ∀ (H1 : Heap) (w1 : va_W), (∀ q : Nat, q < H.size → ¬ va_A wc H.size q → H1[q]? = H[q]?) → va_P D vwCl w1 H1 → va_D (va_A wc H.size) w1 → va_P D vwCl (J w1) H1 ∧ va_D A (J w1)
theorem zFr.rf {D : va_G} {w : va_W} : zFr D w w (fun x => x) := fun A H hP hD hA => by
  have hf : ∀ q, va_A w H.size q → A q := by
    rintro q (⟨k, e, h⟩ | h)
    · exact hD.2 k (q, e) h
    · exact hA q h
  exact ⟨hP, hD, hf, fun H1 w1 _ hP1 hD1 => ⟨hP1, hD1.1, fun k q h => hf _ (hD1.2 k q h)⟩⟩
theorem zFr.of {D : va_G} {w wc wr : va_W} (isC isR : List Nat) (hn1 : va_nd isC = true) (hC : isC.map (fun i => w[i]?) = wc.map some) (hR : isR.map (fun i => w[i]?) = wr.map some) (hn : va_nd isR = true) (hdis : ∀ i ∈ isR, i ∉ isC) : zFr D w wc (fun w1 => wr ++ w1) := fun A H hP hD hA => by
  have hF := va_free (H0 := H) (H := H) (locs := []) hD va_S.rf hA isC hC
  have hsub : va_P D vwCl wc H := by
    refine hP.sub isC ?_
    have h1 : isC.filterMap (fun i => w[i]?) = (isC.map (fun i => w[i]?)).filterMap id := by rw [List.filterMap_map]; rfl
    rw [h1, hC, List.filterMap_map]
    exact List.filterMap_some
  exact ⟨hsub, hD.sub isC hn1 hC, hF, fun H1 w1 hk hP1 hD1 => va_join hP hD isC isR hC hR hn hdis hk hF hP1 hD1⟩
section ZC
variable {p : Program} {l : Launch} {e : Env} {R : Room} {s : State} {m : MethodId} {args : Array Value} {below : List Frame} {meth : Method} {c : Code} {cc : ByteArray} {nL : Nat} {Ts : List Cond} {own : String} {D : va_G} {tys : List (ClassId × FieldType)} {A : Nat → Prop} {cells slots : Nat} {Q : State → Prop} {w : va_W} {pc : Nat} {lv : List (Nat × Value)} {st : List Value}
variable {y : MethodName} {bytes : ByteArray} {maxL : Nat} {ret : Option FieldType} {ws ws' : List Cond} {rm : Room} {mc ms n index : Nat} {wc : va_W} {J : va_W → va_W} {As rest : List Value} {b : Nat} {C : String} {T : u_T} {N ci q0 : Nat} {fs : List Value}
theorem zP_blind {sz : Nat} {av : List Value} (a : Array Value) (U : State) (g : JFrame) (mk : MethodId) (h : va_Pc av (zP D tys w sz) a U) : va_Pc av (zP D tys w sz) a (U.calling g mk a) := by
  obtain ⟨h0, h1, h2, h3, h4, h5⟩ := h
  exact ⟨h0, h1, h2, va_K.moved (u := U) (U := U.calling g mk a) (Vm.Alike.refl U.vm) h3, h4, h5.call⟩
theorem zP_at (X : zC p s m args meth c cc nL Ts own D tys A) {H : Heap} {locs : List Loc} (hPc : va_P D vwCl wc H) (hDc : va_D A wc) (hFc : ∀ q, va_A wc H.size q → A q) (hS : va_S A s.heap H locs) {U : State} (hU : U.heap = H) (hW : s.WarmedH U.vm) : zP D tys wc H.size U :=
  ⟨by rw [hU], by rw [hU]; exact hPc, va_K.moved hW.alike X.2.2.2.2.2.1, hDc.weaken (fun _ _ _ _ => trivial), by rw [hU]; exact X.2.2.2.2.2.2.2.1.warm hS hFc hW⟩
theorem zg_callVi (X : zC p s m args meth c cc nL Ts own D tys A) {post : Int32 → va_W → Prop} (hM : zM l y ws rm D tys (.ref b :: As) wc mc ms (qI D tys post)) (fr : zFr D w wc J) (hg : GoodIn Ts (wsV own index C y ws)) (hw : ws = Cond.code y bytes maxL ret :: ws') (hrc : rm.cells = mc) (hrs : rm.slots = ms) (hy : y.cls = C ∧ y.cls ≠ "java/lang/invoke/MethodHandle" ∧ y.cls ≠ "java/lang/invoke/VarHandle" ∧ (parseMethodDescriptor y.desc).map (fun d => d.parameters.length) = some n) (hn : As.length = n) (hR : rm.frames + 1 ≤ R.frames ∧ 8 + (maxL + 11) + rm.locals ≤ R.locals) (hb : wc[q0]? = some (b, .inr (ci, fs))) (hcl : vwCl[ci]? = some (C, T, N)) (hst : st = As.reverse ++ .ref b :: rest) (hrm : (rest.map fun v => v.category).sum ≤ 8) (hf : cells + mc ≤ R.cells ∧ slots + ms ≤ R.slots) (hdg : decode cc pc = .ok (.invokevirtual index, 3)) (kk : ∀ (r : Int32) (w1 : va_W), post r w1 → zG p l e R s m args below meth c D nL A (cells + mc) (slots + ms) Q (J w1) (pc + 3) lv (.int r :: rest)) : zG p l e R s m args below meth c D nL A cells slots Q w (pc) lv (st) := by
  subst hst
  intro H locs ls hP hD hS hl
  obtain ⟨hPc, hDc, hFc, hj⟩ := fr A H hP hD (fun q h => X.2.2.2.2.2.2.1 q (Nat.le_trans hS.1 h))
  refine va_calli (va_runV (As := As) (rest := rest) ⟨X.1, X.2.1, X.2.2.1, X.2.2.2.2.1, X.2.2.2.1⟩ (hM H.size) (cwV n X.2.2.2.1 hg hw hrc hrs hy hR) ⟨zP_blind, va_recv X.2.2.2.2.2.1 hPc hcl hb, fun U hU hW => ⟨rfl, zP_at X hPc hDc hFc hS hU hW⟩⟩ rfl hn hl.1 rfl (lv_room hrm) hdg hf) hS (fun q _ h => hFc q h) hFc (fun r w1 t H1 locs1 ht hvm hp hB hz hk hS1 => ?_)
  obtain ⟨hP1, -, hD1⟩ := hB
  rw [ht] at hP1
  obtain ⟨hP2, hD2⟩ := hj H1 w1 hk hP1 hD1
  exact kk r w1 hp H1 locs1 ls hP2 hD2 hS1 hl
theorem zg_callVv (X : zC p s m args meth c cc nL Ts own D tys A) {post : va_W → Prop} (hM : zM l y ws rm D tys (.ref b :: As) wc mc ms (qV D tys post)) (fr : zFr D w wc J) (hg : GoodIn Ts (wsV own index C y ws)) (hw : ws = Cond.code y bytes maxL ret :: ws') (hrc : rm.cells = mc) (hrs : rm.slots = ms) (hy : y.cls = C ∧ y.cls ≠ "java/lang/invoke/MethodHandle" ∧ y.cls ≠ "java/lang/invoke/VarHandle" ∧ (parseMethodDescriptor y.desc).map (fun d => d.parameters.length) = some n) (hn : As.length = n) (hR : rm.frames + 1 ≤ R.frames ∧ 8 + (maxL + 11) + rm.locals ≤ R.locals) (hb : wc[q0]? = some (b, .inr (ci, fs))) (hcl : vwCl[ci]? = some (C, T, N)) (hst : st = As.reverse ++ .ref b :: rest) (hrm : (rest.map fun v => v.category).sum ≤ 8) (hf : cells + mc ≤ R.cells ∧ slots + ms ≤ R.slots) (hdg : decode cc pc = .ok (.invokevirtual index, 3)) (kk : ∀ (w1 : va_W), post w1 → zG p l e R s m args below meth c D nL A (cells + mc) (slots + ms) Q (J w1) (pc + 3) lv ( rest)) : zG p l e R s m args below meth c D nL A cells slots Q w (pc) lv (st) := by
  subst hst
  intro H locs ls hP hD hS hl
  obtain ⟨hPc, hDc, hFc, hj⟩ := fr A H hP hD (fun q h => X.2.2.2.2.2.2.1 q (Nat.le_trans hS.1 h))
  refine va_callv (va_runV (As := As) (rest := rest) ⟨X.1, X.2.1, X.2.2.1, X.2.2.2.2.1, X.2.2.2.1⟩ (hM H.size) (cwV n X.2.2.2.1 hg hw hrc hrs hy hR) ⟨zP_blind, va_recv X.2.2.2.2.2.1 hPc hcl hb, fun U hU hW => ⟨rfl, zP_at X hPc hDc hFc hS hU hW⟩⟩ rfl hn hl.1 rfl (lv_room hrm) hdg hf) hS (fun q _ h => hFc q h) hFc (fun w1 t H1 locs1 ht hvm hp hB hz hk hS1 => ?_)
  obtain ⟨hP1, -, hD1⟩ := hB
  rw [ht] at hP1
  obtain ⟨hP2, hD2⟩ := hj H1 w1 hk hP1 hD1
  exact kk w1 hp H1 locs1 ls hP2 hD2 hS1 hl
theorem zg_callVl (X : zC p s m args meth c cc nL Ts own D tys A) {post : Int64 → va_W → Prop} (hM : zM l y ws rm D tys (.ref b :: As) wc mc ms (qL D tys post)) (fr : zFr D w wc J) (hg : GoodIn Ts (wsV own index C y ws)) (hw : ws = Cond.code y bytes maxL ret :: ws') (hrc : rm.cells = mc) (hrs : rm.slots = ms) (hy : y.cls = C ∧ y.cls ≠ "java/lang/invoke/MethodHandle" ∧ y.cls ≠ "java/lang/invoke/VarHandle" ∧ (parseMethodDescriptor y.desc).map (fun d => d.parameters.length) = some n) (hn : As.length = n) (hR : rm.frames + 1 ≤ R.frames ∧ 8 + (maxL + 11) + rm.locals ≤ R.locals) (hb : wc[q0]? = some (b, .inr (ci, fs))) (hcl : vwCl[ci]? = some (C, T, N)) (hst : st = As.reverse ++ .ref b :: rest) (hrm : (rest.map fun v => v.category).sum ≤ 8) (hf : cells + mc ≤ R.cells ∧ slots + ms ≤ R.slots) (hdg : decode cc pc = .ok (.invokevirtual index, 3)) (kk : ∀ (r : Int64) (w1 : va_W), post r w1 → zG p l e R s m args below meth c D nL A (cells + mc) (slots + ms) Q (J w1) (pc + 3) lv (.long r :: rest)) : zG p l e R s m args below meth c D nL A cells slots Q w (pc) lv (st) := by
  subst hst
  intro H locs ls hP hD hS hl
  obtain ⟨hPc, hDc, hFc, hj⟩ := fr A H hP hD (fun q h => X.2.2.2.2.2.2.1 q (Nat.le_trans hS.1 h))
  refine va_calll (va_runV (As := As) (rest := rest) ⟨X.1, X.2.1, X.2.2.1, X.2.2.2.2.1, X.2.2.2.1⟩ (hM H.size) (cwV n X.2.2.2.1 hg hw hrc hrs hy hR) ⟨zP_blind, va_recv X.2.2.2.2.2.1 hPc hcl hb, fun U hU hW => ⟨rfl, zP_at X hPc hDc hFc hS hU hW⟩⟩ rfl hn hl.1 rfl (lv_room hrm) hdg hf) hS (fun q _ h => hFc q h) hFc (fun r w1 t H1 locs1 ht hvm hp hB hz hk hS1 => ?_)
  obtain ⟨hP1, -, hD1⟩ := hB
  rw [ht] at hP1
  obtain ⟨hP2, hD2⟩ := hj H1 w1 hk hP1 hD1
  exact kk r w1 hp H1 locs1 ls hP2 hD2 hS1 hl
theorem zg_callSi (X : zC p s m args meth c cc nL Ts own D tys A) {post : Int32 → va_W → Prop} (hM : zM l y ws rm D tys (As) wc mc ms (qI D tys post)) (fr : zFr D w wc J) (hg : GoodIn Ts (va_wsS own index y ws)) (hw : ws = Cond.code y bytes maxL ret :: ws') (hrc : rm.cells = mc) (hrs : rm.slots = ms) (hy : y.cls ≠ "java/lang/invoke/MethodHandle" ∧ y.cls ≠ "java/lang/invoke/VarHandle" ∧ (parseMethodDescriptor y.desc).map (fun d => d.parameters.length) = some n) (hn : As.length = n) (hR : rm.frames + 1 ≤ R.frames ∧ 8 + (maxL + 11) + rm.locals ≤ R.locals) (hst : st = As.reverse ++ rest) (hrm : (rest.map fun v => v.category).sum ≤ 8) (hf : cells + mc ≤ R.cells ∧ slots + ms ≤ R.slots) (hdg : decode cc pc = .ok (.invokestatic index, 3)) (kk : ∀ (r : Int32) (w1 : va_W), post r w1 → zG p l e R s m args below meth c D nL A (cells + mc) (slots + ms) Q (J w1) (pc + 3) lv (.int r :: rest)) : zG p l e R s m args below meth c D nL A cells slots Q w (pc) lv (st) := by
  subst hst
  intro H locs ls hP hD hS hl
  obtain ⟨hPc, hDc, hFc, hj⟩ := fr A H hP hD (fun q h => X.2.2.2.2.2.2.1 q (Nat.le_trans hS.1 h))
  refine va_calli (va_runS (As := As) (rest := rest) ⟨X.1, X.2.1, X.2.2.1, X.2.2.2.2.1, X.2.2.2.1⟩ (hM H.size) (va_cwS n X.2.2.2.1 hg hw hrc hrs hy hR) ⟨zP_blind, fun U hU hW => ⟨rfl, zP_at X hPc hDc hFc hS hU hW⟩⟩ rfl hn hl.1 rfl (lv_room hrm) hdg hf) hS (fun q _ h => hFc q h) hFc (fun r w1 t H1 locs1 ht hvm hp hB hz hk hS1 => ?_)
  obtain ⟨hP1, -, hD1⟩ := hB
  rw [ht] at hP1
  obtain ⟨hP2, hD2⟩ := hj H1 w1 hk hP1 hD1
  exact kk r w1 hp H1 locs1 ls hP2 hD2 hS1 hl
theorem zg_callSv (X : zC p s m args meth c cc nL Ts own D tys A) {post : va_W → Prop} (hM : zM l y ws rm D tys (As) wc mc ms (qV D tys post)) (fr : zFr D w wc J) (hg : GoodIn Ts (va_wsS own index y ws)) (hw : ws = Cond.code y bytes maxL ret :: ws') (hrc : rm.cells = mc) (hrs : rm.slots = ms) (hy : y.cls ≠ "java/lang/invoke/MethodHandle" ∧ y.cls ≠ "java/lang/invoke/VarHandle" ∧ (parseMethodDescriptor y.desc).map (fun d => d.parameters.length) = some n) (hn : As.length = n) (hR : rm.frames + 1 ≤ R.frames ∧ 8 + (maxL + 11) + rm.locals ≤ R.locals) (hst : st = As.reverse ++ rest) (hrm : (rest.map fun v => v.category).sum ≤ 8) (hf : cells + mc ≤ R.cells ∧ slots + ms ≤ R.slots) (hdg : decode cc pc = .ok (.invokestatic index, 3)) (kk : ∀ (w1 : va_W), post w1 → zG p l e R s m args below meth c D nL A (cells + mc) (slots + ms) Q (J w1) (pc + 3) lv ( rest)) : zG p l e R s m args below meth c D nL A cells slots Q w (pc) lv (st) := by
  subst hst
  intro H locs ls hP hD hS hl
  obtain ⟨hPc, hDc, hFc, hj⟩ := fr A H hP hD (fun q h => X.2.2.2.2.2.2.1 q (Nat.le_trans hS.1 h))
  refine va_callv (va_runS (As := As) (rest := rest) ⟨X.1, X.2.1, X.2.2.1, X.2.2.2.2.1, X.2.2.2.1⟩ (hM H.size) (va_cwS n X.2.2.2.1 hg hw hrc hrs hy hR) ⟨zP_blind, fun U hU hW => ⟨rfl, zP_at X hPc hDc hFc hS hU hW⟩⟩ rfl hn hl.1 rfl (lv_room hrm) hdg hf) hS (fun q _ h => hFc q h) hFc (fun w1 t H1 locs1 ht hvm hp hB hz hk hS1 => ?_)
  obtain ⟨hP1, -, hD1⟩ := hB
  rw [ht] at hP1
  obtain ⟨hP2, hD2⟩ := hj H1 w1 hk hP1 hD1
  exact kk w1 hp H1 locs1 ls hP2 hD2 hS1 hl
theorem zg_callSNi (X : zC p s m args meth c cc nL Ts own D tys A) {post : Int32 → va_W → Prop} (hM : zM l y ws rm D tys (As) wc mc ms (qI D tys post)) (fr : zFr D w wc J) (hg : GoodIn Ts ws) {host : String} (hnest : (own, index, y, host) ∈ zNest) (hstat : Cond.static y ∈ Ts) (hini : Cond.initialized y.cls ∈ Ts) (hw : ws = Cond.code y bytes maxL ret :: ws') (hrc : rm.cells = mc) (hrs : rm.slots = ms) (hy : y.cls ≠ "java/lang/invoke/MethodHandle" ∧ y.cls ≠ "java/lang/invoke/VarHandle" ∧ (parseMethodDescriptor y.desc).map (fun d => d.parameters.length) = some n) (hn : As.length = n) (hR : rm.frames + 1 ≤ R.frames ∧ 8 + (maxL + 11) + rm.locals ≤ R.locals) (hst : st = As.reverse ++ rest) (hrm : (rest.map fun v => v.category).sum ≤ 8) (hf : cells + mc ≤ R.cells ∧ slots + ms ≤ R.slots) (hdg : decode cc pc = .ok (.invokestatic index, 3)) (kk : ∀ (r : Int32) (w1 : va_W), post r w1 → zG p l e R s m args below meth c D nL A (cells + mc) (slots + ms) Q (J w1) (pc + 3) lv (.int r :: rest)) : zG p l e R s m args below meth c D nL A cells slots Q w (pc) lv (st) := by
  subst hst
  intro H locs ls hP hD hS hl
  obtain ⟨hPc, hDc, hFc, hj⟩ := fr A H hP hD (fun q h => X.2.2.2.2.2.2.1 q (Nat.le_trans hS.1 h))
  refine va_calli (va_runSN (As := As) (rest := rest) ⟨X.1, X.2.1, X.2.2.1, X.2.2.2.2.1, X.2.2.2.1⟩ (hM H.size) ⟨va_cnB (host := host) n X.2.2.2.1 hg hw hrc hrs (X.2.2.2.2.2.2.2.1.2.2.2.1 _ hnest) (X.2.2.2.1 _ hini) hy hR, X.2.2.2.1 _ hstat, trivial⟩ ⟨zP_blind, fun U hU hW => ⟨rfl, zP_at X hPc hDc hFc hS hU hW⟩⟩ rfl hn hl.1 rfl (lv_room hrm) hdg hf) hS (fun q _ h => hFc q h) hFc (fun r w1 t H1 locs1 ht hvm hp hB hz hk hS1 => ?_)
  obtain ⟨hP1, -, hD1⟩ := hB
  rw [ht] at hP1
  obtain ⟨hP2, hD2⟩ := hj H1 w1 hk hP1 hD1
  exact kk r w1 hp H1 locs1 ls hP2 hD2 hS1 hl
theorem zg_callIv (X : zC p s m args meth c cc nL Ts own D tys A) {post : va_W → Prop} (hM : zM l y ws rm D tys (.ref b :: As) wc mc ms (qV D tys post)) (fr : zFr D w wc J) (hg : GoodIn Ts ws) (hini : Cond.initialized y.cls ∈ Ts) (hlk : Cond.methodLink own index y ∈ Ts) (hinst : Cond.instanceMethod y ∈ Ts) (hnm : y.name = "<init>") (hw : ws = Cond.code y bytes maxL none :: ws') (hrc : rm.cells = mc) (hrs : rm.slots = ms) (hy : y.cls ≠ "java/lang/invoke/MethodHandle" ∧ y.cls ≠ "java/lang/invoke/VarHandle" ∧ (parseMethodDescriptor y.desc).map (fun d => d.parameters.length) = some n) (hn : As.length = n) (hR : rm.frames + 1 ≤ R.frames ∧ 8 + (maxL + 11) + rm.locals ≤ R.locals) (hst : st = As.reverse ++ .ref b :: rest) (hrm : (rest.map fun v => v.category).sum ≤ 8) (hf : cells + mc ≤ R.cells ∧ slots + ms ≤ R.slots) (hdg : decode cc pc = .ok (.invokespecial index, 3)) (kk : ∀ (w1 : va_W), post w1 → zG p l e R s m args below meth c D nL A (cells + mc) (slots + ms) Q (J w1) (pc + 3) lv ( rest)) : zG p l e R s m args below meth c D nL A cells slots Q w (pc) lv (st) := by
  subst hst
  intro H locs ls hP hD hS hl
  obtain ⟨hPc, hDc, hFc, hj⟩ := fr A H hP hD (fun q h => X.2.2.2.2.2.2.1 q (Nat.le_trans hS.1 h))
  refine va_callv (va_runI (As := As) (rest := rest) ⟨X.1, X.2.1, X.2.2.1, X.2.2.2.2.1, X.2.2.2.1⟩ (hM H.size) (cwI n X.2.2.2.1 hg hw hrc hrs (X.2.2.2.1 _ hini) (X.2.2.2.1 _ hlk) (X.2.2.2.1 _ hinst) hnm hy hR) ⟨zP_blind, fun U hU hW => ⟨rfl, zP_at X hPc hDc hFc hS hU hW⟩⟩ rfl hn hl.1 rfl (lv_room hrm) hdg hf) hS (fun q _ h => hFc q h) hFc (fun w1 t H1 locs1 ht hvm hp hB hz hk hS1 => ?_)
  obtain ⟨hP1, -, hD1⟩ := hB
  rw [ht] at hP1
  obtain ⟨hP2, hD2⟩ := hj H1 w1 hk hP1 hD1
  exact kk w1 hp H1 locs1 ls hP2 hD2 hS1 hl
theorem zg_callINv (X : zC p s m args meth c cc nL Ts own D tys A) {post : va_W → Prop} (hM : zM l y ws rm D tys (.ref b :: As) wc mc ms (qV D tys post)) (fr : zFr D w wc J) (hg : GoodIn Ts ws) {host : String} (hnest : (own, index, y, host) ∈ zNest) (hini : Cond.initialized y.cls ∈ Ts) (hinst : Cond.instanceMethod y ∈ Ts) (hnm : y.name = "<init>") (hw : ws = Cond.code y bytes maxL none :: ws') (hrc : rm.cells = mc) (hrs : rm.slots = ms) (hy : y.cls ≠ "java/lang/invoke/MethodHandle" ∧ y.cls ≠ "java/lang/invoke/VarHandle" ∧ (parseMethodDescriptor y.desc).map (fun d => d.parameters.length) = some n) (hn : As.length = n) (hR : rm.frames + 1 ≤ R.frames ∧ 8 + (maxL + 11) + rm.locals ≤ R.locals) (hst : st = As.reverse ++ .ref b :: rest) (hrm : (rest.map fun v => v.category).sum ≤ 8) (hf : cells + mc ≤ R.cells ∧ slots + ms ≤ R.slots) (hdg : decode cc pc = .ok (.invokespecial index, 3)) (kk : ∀ (w1 : va_W), post w1 → zG p l e R s m args below meth c D nL A (cells + mc) (slots + ms) Q (J w1) (pc + 3) lv ( rest)) : zG p l e R s m args below meth c D nL A cells slots Q w (pc) lv (st) := by
  subst hst
  intro H locs ls hP hD hS hl
  obtain ⟨hPc, hDc, hFc, hj⟩ := fr A H hP hD (fun q h => X.2.2.2.2.2.2.1 q (Nat.le_trans hS.1 h))
  refine va_callv (va_runIN (As := As) (rest := rest) ⟨X.1, X.2.1, X.2.2.1, X.2.2.2.2.1, X.2.2.2.1⟩ (hM H.size) ⟨va_cnB (host := host) n X.2.2.2.1 hg hw hrc hrs (X.2.2.2.2.2.2.2.1.2.2.2.1 _ hnest) (X.2.2.2.1 _ hini) hy hR, hnm, X.2.2.2.1 _ hinst⟩ ⟨zP_blind, fun U hU hW => ⟨rfl, zP_at X hPc hDc hFc hS hU hW⟩⟩ rfl hn hl.1 rfl (lv_room hrm) hdg hf) hS (fun q _ h => hFc q h) hFc (fun w1 t H1 locs1 ht hvm hp hB hz hk hS1 => ?_)
  obtain ⟨hP1, -, hD1⟩ := hB
  rw [ht] at hP1
  obtain ⟨hP2, hD2⟩ := hj H1 w1 hk hP1 hD1
  exact kk w1 hp H1 locs1 ls hP2 hD2 hS1 hl
theorem zg_xcallVv (X : zC p s m args meth c cc nL Ts own D tys A) {post : va_W → Prop} {ex ex2 : String → va_W → Prop} {Qc : Array Value → State → Outcome → State → Prop} {mc0 ms0 : Nat} (hno : ∀ x ∈ c.exceptionTable.toList, False) (hM : zMX l y ws rm D tys (.ref b :: As) wc mc ms (qV D tys post) (xE D tys ex)) (fr : zFr D w wc J) (hg : GoodIn Ts (wsV own index C y ws)) (hw : ws = Cond.code y bytes maxL ret :: ws') (hrc : rm.cells = mc) (hrs : rm.slots = ms) (hy : y.cls = C ∧ y.cls ≠ "java/lang/invoke/MethodHandle" ∧ y.cls ≠ "java/lang/invoke/VarHandle" ∧ (parseMethodDescriptor y.desc).map (fun d => d.parameters.length) = some n) (hn : As.length = n) (hR : rm.frames + 1 ≤ R.frames ∧ 8 + (maxL + 11) + rm.locals ≤ R.locals) (hb : wc[q0]? = some (b, .inr (ci, fs))) (hcl : vwCl[ci]? = some (C, T, N)) (hst : st = As.reverse ++ .ref b :: rest) (hrm : (rest.map fun v => v.category).sum ≤ 8) (hf : cells + mc ≤ R.cells ∧ slots + ms ≤ R.slots) (hm : cells + mc ≤ mc0 ∧ slots + ms ≤ ms0) (hdg : decode cc pc = .ok (.invokevirtual index, 3)) (hex : ∀ E w1, ex E w1 → ex2 E (J w1)) (kk : ∀ (w1 : va_W), post w1 → zG p l e R s m args below meth c D nL A (cells + mc) (slots + ms) (vx_MQ below Qc (xE D tys ex2 A) args s mc0 ms0 A) (J w1) (pc + 3) lv ( rest)) : zG p l e R s m args below meth c D nL A cells slots (vx_MQ below Qc (xE D tys ex2 A) args s mc0 ms0 A) w (pc) lv (st) := by
  subst hst
  intro H locs ls hP hD hS hl
  obtain ⟨hPc, hDc, hFc, hj⟩ := fr A H hP hD (fun q h => X.2.2.2.2.2.2.1 q (Nat.le_trans hS.1 h))
  refine vx_callv (vx_runV (As := As) (rest := rest) ⟨X.1, X.2.1, X.2.2.1, X.2.2.2.2.1, X.2.2.2.1⟩ (hM H.size) (cwV n X.2.2.2.1 hg hw hrc hrs hy hR) ⟨zP_blind, va_recv X.2.2.2.2.2.1 hPc hcl hb, fun U hU hW => ⟨rfl, zP_at X hPc hDc hFc hS hU hW⟩⟩ rfl hn hl.1 rfl (lv_room hrm) hdg hf) hS (fun q _ h => hFc q h) hFc (fun q _ h => hFc q h) (fun E ce q9 w1 t H1 locs1 ht hvm _ hBX hz hk hS1 hce hcv hcl => ?_) (fun w1 t H1 locs1 ht hvm hp hB hz hk hS1 => ?_)
  · obtain ⟨hE, hP1, hK1, hD1⟩ := hBX
    rw [ht] at hP1
    obtain ⟨hP2, hD2⟩ := hj H1 w1 hk hP1 hD1
    exact vx_out (fun x hx => (hno x hx).elim) X.2.2.2.2.2.2.2.2 hce hcv hcl (fun t' ht' ha' => ⟨J w1, trivial, ⟨hex E w1 hE, by rw [ht']; exact hP2, va_K.moved ha' X.2.2.2.2.2.1, hD2⟩, hS1.F ht'⟩) hS1.2.2 hm.1 hm.2
  · obtain ⟨hP1, -, hD1⟩ := hB
    rw [ht] at hP1
    obtain ⟨hP2, hD2⟩ := hj H1 w1 hk hP1 hD1
    exact kk w1 hp H1 locs1 ls hP2 hD2 hS1 hl
theorem zg_throw (X : zC p s m args meth c cc nL Ts own D tys A) (hl0 : l.stackTraces = false) {cls text : String} {names : List String} {ik is ic mc0 ms0 : Nat} {ex : String → va_W → Prop} {Qc : Array Value → State → Outcome → State → Prop} (hno : ∀ x ∈ c.exceptionTable.toList, False) (hcls : Bundle.fit cls = true) (hnames : ∀ n ∈ names, Bundle.fit n = true) (hk : Cond.classLink own ik cls ∈ Ts) (hini : Cond.initialized cls ∈ Ts) (hstr : (own, is, text) ∈ zStr) (hat : ∀ w ∈ (vx_atS own ic cls names).filter goodWord, w ∈ Ts) (hat2 : ∀ w ∈ (vx_atS own ic cls names).filter (fun w => !goodWord w), w ∈ (Cond.castable cls cls :: zDecl.map (fun q => Cond.declares q) : List Cond)) (hcs : cls ∈ zCast) (hgood : ∀ w ∈ Cond.classLink own ik cls :: Cond.initialized cls :: vx_atS own ic cls names, vx_ot w = true)
    (d0 : decode cc pc = .ok (.new ik, 3)) (d3 : decode cc (pc + 3) = .ok (.dup, 1)) (d4 : decode cc (pc + 4) = .ok (.ldc is, 2)) (d6 : decode cc (pc + 6) = .ok (.invokespecial ic, 3)) (d9 : decode cc (pc + 9) = .ok (.athrow, 1))
    (hR : names.length + 3 < R.frames ∧ (st.map fun v => v.category).sum + (13 * (names.length + 1) + 43) ≤ R.locals ∧ cells + 1 ≤ R.cells ∧ slots + 6 ≤ R.slots) (hm : cells + 1 ≤ mc0 ∧ slots + 6 ≤ ms0) (hx : ex cls w) : zG p l e R s m args below meth c D nL A cells slots (vx_MQ below Qc (xE D tys ex A) args s mc0 ms0 A) w (pc) lv (st) := fun H locs ls hP hD hS hl => by
  obtain ⟨sa, hsa⟩ := X.2.2.2.2.2.2.2.1.2.2.1 _ hstr
  refine vx_throwS (text := text) (is := is) (sa := sa) X.1 X.2.1 hl0 X.2.2.2.2.1 hcls hnames (X.2.2.2.1 _ hk) (X.2.2.2.1 _ hini) hsa (vx_hat (fun w hw => X.2.2.2.1 _ (hat w hw)) hat2 (vx_c (va_Nw.use rfl (X.2.2.2.2.2.2.2.1.2.2.2.2.1 _ hcs)) (fun w hw => by
    obtain ⟨q, hq, rfl⟩ := List.mem_map.mp hw
    exact va_Nw.use rfl (X.2.2.2.2.2.2.2.1.2.2.2.2.2.2 _ hq)))) hgood X.2.2.2.2.2.2.2.1.1 X.2.2.2.2.2.2.2.1.2.1 hS (hl.1.trans X.2.2.1.symm) d0 d3 d4 d6 d9 (fun x hx => (hno x hx).elim) hR.1 hR.2.1 hR.2.2.1 hR.2.2.2 X.2.2.2.2.2.2.2.2 (fun t ha hz ho => ?_) hS.2.2 hm.1 hm.2
  have hk9 : ∀ (k : Nat) (x : Nat × va_E), w[k]? = some x → t.heap[x.1]? = H[x.1]? := fun k x hx9 => ho x.1 ((hP k x hx9).lt)
  exact ⟨w, trivial, ⟨hx, hP.kept hk9, va_K.moved ha X.2.2.2.2.2.1, hD⟩, Nat.le_trans hS.1 hz, fun q h1 h2 => (ho q (Nat.lt_of_lt_of_le h1 hS.1)).trans (hS.2.1 q h1 h2)⟩
theorem zg_throwW (X : zC p s m args meth c cc nL Ts own D tys A) (hl0 : l.stackTraces = false) {cls text : String} {names : List String} {ik is ic mc0 ms0 : Nat} {ex : String → va_W → Prop} {Qc : Array Value → State → Outcome → State → Prop} (hno : ∀ x ∈ c.exceptionTable.toList, False) (hcls : Bundle.fit cls = true) (hnames : ∀ n ∈ names, Bundle.fit n = true) (hk : Cond.classLink own ik cls ∈ Ts) (hini : Cond.initialized cls ∈ Ts) (hstr : (own, is, text) ∈ zStr) (hat : ∀ w ∈ (vx_atS own ic cls names).filter goodWord, w ∈ Ts) (hat2 : ∀ w ∈ (vx_atS own ic cls names).filter (fun w => !goodWord w), w ∈ (Cond.castable cls cls :: zDecl.map (fun q => Cond.declares q) : List Cond)) (hcs : cls ∈ zCast) (hgood : ∀ w ∈ Cond.classLink own ik cls :: Cond.initialized cls :: vx_atS own ic cls names, vx_ot w = true)
    (d0 : decode cc pc = .ok (.new ik, 3)) (d3 : decode cc (pc + 3) = .ok (.dup, 1)) (d4 : decode cc (pc + 4) = .ok (.ldc_w is, 3)) (d6 : decode cc (pc + 7) = .ok (.invokespecial ic, 3)) (d9 : decode cc (pc + 10) = .ok (.athrow, 1))
    (hR : names.length + 3 < R.frames ∧ (st.map fun v => v.category).sum + (13 * (names.length + 1) + 43) ≤ R.locals ∧ cells + 1 ≤ R.cells ∧ slots + 6 ≤ R.slots) (hm : cells + 1 ≤ mc0 ∧ slots + 6 ≤ ms0) (hx : ex cls w) : zG p l e R s m args below meth c D nL A cells slots (vx_MQ below Qc (xE D tys ex A) args s mc0 ms0 A) w (pc) lv (st) := fun H locs ls hP hD hS hl => by
  obtain ⟨sa, hsa⟩ := X.2.2.2.2.2.2.2.1.2.2.1 _ hstr
  refine vx_throwSW (text := text) (is := is) (sa := sa) X.1 X.2.1 hl0 X.2.2.2.2.1 hcls hnames (X.2.2.2.1 _ hk) (X.2.2.2.1 _ hini) hsa (vx_hat (fun w hw => X.2.2.2.1 _ (hat w hw)) hat2 (vx_c (va_Nw.use rfl (X.2.2.2.2.2.2.2.1.2.2.2.2.1 _ hcs)) (fun w hw => by
    obtain ⟨q, hq, rfl⟩ := List.mem_map.mp hw
    exact va_Nw.use rfl (X.2.2.2.2.2.2.2.1.2.2.2.2.2.2 _ hq)))) hgood X.2.2.2.2.2.2.2.1.1 X.2.2.2.2.2.2.2.1.2.1 hS (hl.1.trans X.2.2.1.symm) d0 d3 d4 d6 d9 (fun x hx => (hno x hx).elim) hR.1 hR.2.1 hR.2.2.1 hR.2.2.2 X.2.2.2.2.2.2.2.2 (fun t ha hz ho => ?_) hS.2.2 hm.1 hm.2
  have hk9 : ∀ (k : Nat) (x : Nat × va_E), w[k]? = some x → t.heap[x.1]? = H[x.1]? := fun k x hx9 => ho x.1 ((hP k x hx9).lt)
  exact ⟨w, trivial, ⟨hx, hP.kept hk9, va_K.moved ha X.2.2.2.2.2.1, hD⟩, Nat.le_trans hS.1 hz, fun q h1 h2 => (ho q (Nat.lt_of_lt_of_le h1 hS.1)).trans (hS.2.1 q h1 h2)⟩
end ZC
