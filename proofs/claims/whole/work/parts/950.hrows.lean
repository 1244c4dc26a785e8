/-! The worlds of the law and of its helpers, and their calls. -/
def wH (ad : Nat → Nat) (ao : Nat) (T : Nat → ClassId) (σ : ZS) (f : Nat → Int64) : va_W := wC ad T σ ++ [(ao, .inl (T 3, 1, .inr (.inl f)))]
def wHd (ad : Nat → Nat) (ao : Nat) (T : Nat → ClassId) (σ : ZS) (g : Nat → UInt64) : va_W := wC ad T σ ++ [(ao, .inl (T 4, 1, .inr (.inr (.inr (.inl g)))))]
def wL (adC adM : Nat → Nat) (aL aD : Nat) (T : Nat → ClassId) (σ τ : ZS) (f : Nat → Int64) (g : Nat → UInt64) : va_W := wC adC T σ ++ (wM adM T τ ++ [(aL, .inl (T 3, 1, .inr (.inl f))), (aD, .inl (T 4, 1, .inr (.inr (.inr (.inl g)))))])
section ZH
variable {p : Program} {l : Launch} {e : Env} {R : Room} {s : State} {m : MethodId} {args : Array Value} {below : List Frame} {meth : Method} {c : Code} {cc : ByteArray} {nL : Nat} {Ts : List Cond} {own : String} {D : va_G} {T : Nat → ClassId} {A : Nat → Prop} {cells slots : Nat} {Q : State → Prop} {pc : Nat} {lv : List (Nat × Value)} {st : List Value}
variable {y : MethodName} {bytes : ByteArray} {maxL : Nat} {ret : Option FieldType} {ws ws' : List Cond} {rm : Room} {mc ms n index : Nat} {As rest : List Value} {ad adC adM : Nat → Nat} {ao aL aD : Nat} {σ τ : ZS} {f : Nat → Int64} {g : Nat → UInt64} {hh : List (Nat × Nat × Nat × Nat)}
theorem zg_hcVi (X : zC p s m args meth c cc nL Ts own D (zT T) A) {lo hi : Nat} {hs : List (Nat × Nat × String)} (htab : c.exceptionTable.toList = zTab lo hi hs) (hok : zTabOk Ts own hs) (hcov : lo ≤ pc ∧ pc < hi) {r : ZR} (hM : zMX l y ws rm D (zT T) (.ref (ad 0) :: As) (wC ad T σ) mc ms (qI D (zT T) (fun v w => ∃ t, r = .inr (v, t) ∧ w = wC ad T t)) (xE D (zT T) (fun E w => r = .inl E ∧ w = wC ad T σ))) (hg : GoodIn Ts (wsV own index RX6 y ws)) (hw : ws = Cond.code y bytes maxL ret :: ws') (hrc : rm.cells = mc) (hrs : rm.slots = ms) (hy : y.cls = RX6 ∧ y.cls ≠ "java/lang/invoke/MethodHandle" ∧ y.cls ≠ "java/lang/invoke/VarHandle" ∧ (parseMethodDescriptor y.desc).map (fun d => d.parameters.length) = some n) (hn : As.length = n) (hR : rm.frames + 1 ≤ R.frames ∧ 8 + (maxL + 11) + rm.locals ≤ R.locals) (hst : st = As.reverse ++ .ref (ad 0) :: rest) (hrm : (rest.map fun v => v.category).sum ≤ 8) (hf : cells + mc ≤ R.cells ∧ slots + ms ≤ R.slots) (hdg : decode cc pc = .ok (.invokevirtual index, 3)) (kx : ∀ E : String, r = .inl E → ∃ q : Nat × Nat × String, q ∈ hs ∧ q.2.2 = E ∧ ∀ a : Nat, zG p l e R s m args below meth c D nL A (cells + mc) (slots + ms) Q (wH ad ao T σ f) (q.1) lv ([.ref a])) (kk : ∀ (v : Int32) (t : ZS), r = .inr (v, t) → zG p l e R s m args below meth c D nL A (cells + mc) (slots + ms) Q (wH ad ao T t f) (pc + 3) lv (.int v :: rest)) : zG p l e R s m args below meth c D nL A cells slots Q (wH ad ao T σ f) (pc) lv (st) :=
  zg_ccallVi X htab hok hcov hM (zFr.of (wr := [(ao, .inl (T 3, 1, .inr (.inl f)))]) [0, 1, 2, 3, 4, 5, 6, 7, 8, 9, 10, 11, 12, 13, 14, 15, 16, 17, 18, 19, 20, 21, 22, 23, 24, 25, 26, 27, 28, 29, 30, 31] [32] (by decide) rfl rfl (by decide) (by decide)) hg hw hrc hrs hy hn hR (q0 := 0) (ci := 8) (T := TX6) (N := 9) rfl rfl hst hrm hf hdg (fun E w1 h => by obtain ⟨h1, rfl⟩ := h; obtain ⟨q, hq, e9, kq⟩ := kx E h1; exact ⟨q, hq, e9, fun a => zg_perm [1, 2, 3, 4, 5, 6, 7, 8, 9, 10, 11, 12, 13, 14, 15, 16, 17, 18, 19, 20, 21, 22, 23, 24, 25, 26, 27, 28, 29, 30, 31, 32, 0] (by decide) (w' := wH ad ao T σ f) rfl (kq a)⟩) (fun v w1 h => by obtain ⟨t, e9, rfl⟩ := h; exact zg_perm [1, 2, 3, 4, 5, 6, 7, 8, 9, 10, 11, 12, 13, 14, 15, 16, 17, 18, 19, 20, 21, 22, 23, 24, 25, 26, 27, 28, 29, 30, 31, 32, 0] (by decide) (w' := wH ad ao T t f) rfl (kk v t e9))
theorem zg_hcVf (X : zC p s m args meth c cc nL Ts own D (zT T) A) {lo hi : Nat} {hs : List (Nat × Nat × String)} (htab : c.exceptionTable.toList = zTab lo hi hs) (hok : zTabOk Ts own hs) (hcov : lo ≤ pc ∧ pc < hi) {r : String ⊕ UInt32} (hM : zMX l y ws rm D (zT T) (.ref (ad 0) :: As) (wC ad T σ) mc ms (qF D (zT T) (fun v w => r = .inr v ∧ w = wC ad T σ)) (xE D (zT T) (fun E w => r = .inl E ∧ w = wC ad T σ))) (hg : GoodIn Ts (wsV own index RX6 y ws)) (hw : ws = Cond.code y bytes maxL ret :: ws') (hrc : rm.cells = mc) (hrs : rm.slots = ms) (hy : y.cls = RX6 ∧ y.cls ≠ "java/lang/invoke/MethodHandle" ∧ y.cls ≠ "java/lang/invoke/VarHandle" ∧ (parseMethodDescriptor y.desc).map (fun d => d.parameters.length) = some n) (hn : As.length = n) (hR : rm.frames + 1 ≤ R.frames ∧ 8 + (maxL + 11) + rm.locals ≤ R.locals) (hst : st = As.reverse ++ .ref (ad 0) :: rest) (hrm : (rest.map fun v => v.category).sum ≤ 8) (hf : cells + mc ≤ R.cells ∧ slots + ms ≤ R.slots) (hdg : decode cc pc = .ok (.invokevirtual index, 3)) (kx : ∀ E : String, r = .inl E → ∃ q : Nat × Nat × String, q ∈ hs ∧ q.2.2 = E ∧ ∀ a : Nat, zG p l e R s m args below meth c D nL A (cells + mc) (slots + ms) Q (wHd ad ao T σ g) (q.1) lv ([.ref a])) (kk : ∀ v : UInt32, r = .inr v → zG p l e R s m args below meth c D nL A (cells + mc) (slots + ms) Q (wHd ad ao T σ g) (pc + 3) lv (.float v :: rest)) : zG p l e R s m args below meth c D nL A cells slots Q (wHd ad ao T σ g) (pc) lv (st) :=
  zg_ccallVf X htab hok hcov hM (zFr.of (wr := [(ao, .inl (T 4, 1, .inr (.inr (.inr (.inl g)))))]) [0, 1, 2, 3, 4, 5, 6, 7, 8, 9, 10, 11, 12, 13, 14, 15, 16, 17, 18, 19, 20, 21, 22, 23, 24, 25, 26, 27, 28, 29, 30, 31] [32] (by decide) rfl rfl (by decide) (by decide)) hg hw hrc hrs hy hn hR (q0 := 0) (ci := 8) (T := TX6) (N := 9) rfl rfl hst hrm hf hdg (fun E w1 h => by obtain ⟨h1, rfl⟩ := h; obtain ⟨q, hq, e9, kq⟩ := kx E h1; exact ⟨q, hq, e9, fun a => zg_perm [1, 2, 3, 4, 5, 6, 7, 8, 9, 10, 11, 12, 13, 14, 15, 16, 17, 18, 19, 20, 21, 22, 23, 24, 25, 26, 27, 28, 29, 30, 31, 32, 0] (by decide) (w' := wHd ad ao T σ g) rfl (kq a)⟩) (fun v w1 h => by obtain ⟨e9, rfl⟩ := h; exact zg_perm [1, 2, 3, 4, 5, 6, 7, 8, 9, 10, 11, 12, 13, 14, 15, 16, 17, 18, 19, 20, 21, 22, 23, 24, 25, 26, 27, 28, 29, 30, 31, 32, 0] (by decide) (w' := wHd ad ao T σ g) rfl (kk v e9))
theorem zg_hcVd (X : zC p s m args meth c cc nL Ts own D (zT T) A) {lo hi : Nat} {hs : List (Nat × Nat × String)} (htab : c.exceptionTable.toList = zTab lo hi hs) (hok : zTabOk Ts own hs) (hcov : lo ≤ pc ∧ pc < hi) {r : String ⊕ UInt64} (hM : zMX l y ws rm D (zT T) (.ref (ad 0) :: As) (wC ad T σ) mc ms (qD D (zT T) (fun v w => r = .inr v ∧ w = wC ad T σ)) (xE D (zT T) (fun E w => r = .inl E ∧ w = wC ad T σ))) (hg : GoodIn Ts (wsV own index RX6 y ws)) (hw : ws = Cond.code y bytes maxL ret :: ws') (hrc : rm.cells = mc) (hrs : rm.slots = ms) (hy : y.cls = RX6 ∧ y.cls ≠ "java/lang/invoke/MethodHandle" ∧ y.cls ≠ "java/lang/invoke/VarHandle" ∧ (parseMethodDescriptor y.desc).map (fun d => d.parameters.length) = some n) (hn : As.length = n) (hR : rm.frames + 1 ≤ R.frames ∧ 8 + (maxL + 11) + rm.locals ≤ R.locals) (hst : st = As.reverse ++ .ref (ad 0) :: rest) (hrm : (rest.map fun v => v.category).sum ≤ 8) (hf : cells + mc ≤ R.cells ∧ slots + ms ≤ R.slots) (hdg : decode cc pc = .ok (.invokevirtual index, 3)) (kx : ∀ E : String, r = .inl E → ∃ q : Nat × Nat × String, q ∈ hs ∧ q.2.2 = E ∧ ∀ a : Nat, zG p l e R s m args below meth c D nL A (cells + mc) (slots + ms) Q (wHd ad ao T σ g) (q.1) lv ([.ref a])) (kk : ∀ v : UInt64, r = .inr v → zG p l e R s m args below meth c D nL A (cells + mc) (slots + ms) Q (wHd ad ao T σ g) (pc + 3) lv (.double v :: rest)) : zG p l e R s m args below meth c D nL A cells slots Q (wHd ad ao T σ g) (pc) lv (st) :=
  zg_ccallVd X htab hok hcov hM (zFr.of (wr := [(ao, .inl (T 4, 1, .inr (.inr (.inr (.inl g)))))]) [0, 1, 2, 3, 4, 5, 6, 7, 8, 9, 10, 11, 12, 13, 14, 15, 16, 17, 18, 19, 20, 21, 22, 23, 24, 25, 26, 27, 28, 29, 30, 31] [32] (by decide) rfl rfl (by decide) (by decide)) hg hw hrc hrs hy hn hR (q0 := 0) (ci := 8) (T := TX6) (N := 9) rfl rfl hst hrm hf hdg (fun E w1 h => by obtain ⟨h1, rfl⟩ := h; obtain ⟨q, hq, e9, kq⟩ := kx E h1; exact ⟨q, hq, e9, fun a => zg_perm [1, 2, 3, 4, 5, 6, 7, 8, 9, 10, 11, 12, 13, 14, 15, 16, 17, 18, 19, 20, 21, 22, 23, 24, 25, 26, 27, 28, 29, 30, 31, 32, 0] (by decide) (w' := wHd ad ao T σ g) rfl (kq a)⟩) (fun v w1 h => by obtain ⟨e9, rfl⟩ := h; exact zg_perm [1, 2, 3, 4, 5, 6, 7, 8, 9, 10, 11, 12, 13, 14, 15, 16, 17, 18, 19, 20, 21, 22, 23, 24, 25, 26, 27, 28, 29, 30, 31, 32, 0] (by decide) (w' := wHd ad ao T σ g) rfl (kk v e9))
theorem zg_lawS (X : zC p s m args meth c cc nL Ts own D (zT T) A) {P : Int32 → ZS → (Nat → Int64) → Prop} (hM : zM l y ws rm D (zT T) As (wH adC aL T σ f) mc ms (qI D (zT T) (fun v w => ∃ t f', P v t f' ∧ w = wH adC aL T t f'))) (hg : GoodIn Ts (va_wsS own index y ws)) (hw : ws = Cond.codeWith y bytes maxL ret hh :: ws') (hrc : rm.cells = mc) (hrs : rm.slots = ms) (hy : y.cls ≠ "java/lang/invoke/MethodHandle" ∧ y.cls ≠ "java/lang/invoke/VarHandle" ∧ (parseMethodDescriptor y.desc).map (fun d => d.parameters.length) = some n) (hn : As.length = n) (hR : rm.frames + 1 ≤ R.frames ∧ 8 + (maxL + 11) + rm.locals ≤ R.locals) (hst : st = As.reverse ++ rest) (hrm : (rest.map fun v => v.category).sum ≤ 8) (hf : cells + mc ≤ R.cells ∧ slots + ms ≤ R.slots) (hdg : decode cc pc = .ok (.invokestatic index, 3)) (kk : ∀ (v : Int32) (t : ZS) (f' : Nat → Int64), P v t f' → zG p l e R s m args below meth c D nL A (cells + mc) (slots + ms) Q (wL adC adM aL aD T t τ f' g) (pc + 3) lv (.int v :: rest)) : zG p l e R s m args below meth c D nL A cells slots Q (wL adC adM aL aD T σ τ f g) (pc) lv (st) :=
  zg_callSWi X hM (zFr.of (wr := (wM adM T τ ++ [(aD, .inl (T 4, 1, .inr (.inr (.inr (.inl g)))))])) [0, 1, 2, 3, 4, 5, 6, 7, 8, 9, 10, 11, 12, 13, 14, 15, 16, 17, 18, 19, 20, 21, 22, 23, 24, 25, 26, 27, 28, 29, 30, 31, 55] [32, 33, 34, 35, 36, 37, 38, 39, 40, 41, 42, 43, 44, 45, 46, 47, 48, 49, 50, 51, 52, 53, 54, 56] (by decide) rfl rfl (by decide) (by decide)) hg hw hrc hrs hy hn hR hst hrm hf hdg (fun v w1 h => by obtain ⟨t, f', hP, rfl⟩ := h; exact zg_perm [24, 25, 26, 27, 28, 29, 30, 31, 32, 33, 34, 35, 36, 37, 38, 39, 40, 41, 42, 43, 44, 45, 46, 47, 48, 49, 50, 51, 52, 53, 54, 55, 0, 1, 2, 3, 4, 5, 6, 7, 8, 9, 10, 11, 12, 13, 14, 15, 16, 17, 18, 19, 20, 21, 22, 56, 23] (by decide) (w' := wL adC adM aL aD T t τ f' g) rfl (kk v t f' hP))
theorem zg_lawSd (X : zC p s m args meth c cc nL Ts own D (zT T) A) {P : Int32 → ZS → (Nat → UInt64) → Prop} (hM : zM l y ws rm D (zT T) As (wHd adC aD T σ g) mc ms (qI D (zT T) (fun v w => ∃ t g', P v t g' ∧ w = wHd adC aD T t g'))) (hg : GoodIn Ts (va_wsS own index y ws)) (hw : ws = Cond.codeWith y bytes maxL ret hh :: ws') (hrc : rm.cells = mc) (hrs : rm.slots = ms) (hy : y.cls ≠ "java/lang/invoke/MethodHandle" ∧ y.cls ≠ "java/lang/invoke/VarHandle" ∧ (parseMethodDescriptor y.desc).map (fun d => d.parameters.length) = some n) (hn : As.length = n) (hR : rm.frames + 1 ≤ R.frames ∧ 8 + (maxL + 11) + rm.locals ≤ R.locals) (hst : st = As.reverse ++ rest) (hrm : (rest.map fun v => v.category).sum ≤ 8) (hf : cells + mc ≤ R.cells ∧ slots + ms ≤ R.slots) (hdg : decode cc pc = .ok (.invokestatic index, 3)) (kk : ∀ (v : Int32) (t : ZS) (g' : Nat → UInt64), P v t g' → zG p l e R s m args below meth c D nL A (cells + mc) (slots + ms) Q (wL adC adM aL aD T t τ f g') (pc + 3) lv (.int v :: rest)) : zG p l e R s m args below meth c D nL A cells slots Q (wL adC adM aL aD T σ τ f g) (pc) lv (st) :=
  zg_callSWi X hM (zFr.of (wr := (wM adM T τ ++ [(aL, .inl (T 3, 1, .inr (.inl f)))])) [0, 1, 2, 3, 4, 5, 6, 7, 8, 9, 10, 11, 12, 13, 14, 15, 16, 17, 18, 19, 20, 21, 22, 23, 24, 25, 26, 27, 28, 29, 30, 31, 56] [32, 33, 34, 35, 36, 37, 38, 39, 40, 41, 42, 43, 44, 45, 46, 47, 48, 49, 50, 51, 52, 53, 54, 55] (by decide) rfl rfl (by decide) (by decide)) hg hw hrc hrs hy hn hR hst hrm hf hdg (fun v w1 h => by obtain ⟨t, g', hP, rfl⟩ := h; exact zg_perm [24, 25, 26, 27, 28, 29, 30, 31, 32, 33, 34, 35, 36, 37, 38, 39, 40, 41, 42, 43, 44, 45, 46, 47, 48, 49, 50, 51, 52, 53, 54, 55, 0, 1, 2, 3, 4, 5, 6, 7, 8, 9, 10, 11, 12, 13, 14, 15, 16, 17, 18, 19, 20, 21, 22, 23, 56] (by decide) (w' := wL adC adM aL aD T t τ f g') rfl (kk v t g' hP))
theorem zg_lawMi (X : zC p s m args meth c cc nL Ts own D (zT T) A) {post : Int32 → va_W → Prop} (hM : zM l y ws rm D (zT T) (.ref (adM 0) :: As) (wM adM T τ) mc ms (qI D (zT T) post)) (hg : GoodIn Ts (wsV own index RX7 y ws)) (hw : ws = Cond.code y bytes maxL ret :: ws') (hrc : rm.cells = mc) (hrs : rm.slots = ms) (hy : y.cls = RX7 ∧ y.cls ≠ "java/lang/invoke/MethodHandle" ∧ y.cls ≠ "java/lang/invoke/VarHandle" ∧ (parseMethodDescriptor y.desc).map (fun d => d.parameters.length) = some n) (hn : As.length = n) (hR : rm.frames + 1 ≤ R.frames ∧ 8 + (maxL + 11) + rm.locals ≤ R.locals) (hst : st = As.reverse ++ .ref (adM 0) :: rest) (hrm : (rest.map fun v => v.category).sum ≤ 8) (hf : cells + mc ≤ R.cells ∧ slots + ms ≤ R.slots) (hdg : decode cc pc = .ok (.invokevirtual index, 3)) (kk : ∀ (v : Int32) (w1 : va_W), post v w1 → ∃ t, w1 = wM adM T t ∧ zG p l e R s m args below meth c D nL A (cells + mc) (slots + ms) Q (wL adC adM aL aD T σ t f g) (pc + 3) lv (.int v :: rest)) : zG p l e R s m args below meth c D nL A cells slots Q (wL adC adM aL aD T σ τ f g) (pc) lv (st) :=
  zg_callVi X hM (zFr.of (wr := (wC adC T σ ++ [(aL, .inl (T 3, 1, .inr (.inl f))), (aD, .inl (T 4, 1, .inr (.inr (.inr (.inl g)))))])) [32, 33, 34, 35, 36, 37, 38, 39, 40, 41, 42, 43, 44, 45, 46, 47, 48, 49, 50, 51, 52, 53, 54] [0, 1, 2, 3, 4, 5, 6, 7, 8, 9, 10, 11, 12, 13, 14, 15, 16, 17, 18, 19, 20, 21, 22, 23, 24, 25, 26, 27, 28, 29, 30, 31, 55, 56] (by decide) rfl rfl (by decide) (by decide)) hg hw hrc hrs hy hn hR (q0 := 0) (ci := 9) (T := TX7) (N := 37) rfl rfl hst hrm hf hdg (fun v w1 h => by obtain ⟨t, rfl, k9⟩ := kk v w1 h; exact zg_perm [0, 1, 2, 3, 4, 5, 6, 7, 8, 9, 10, 11, 12, 13, 14, 15, 16, 17, 18, 19, 20, 21, 22, 23, 24, 25, 26, 27, 28, 29, 30, 31, 34, 35, 36, 37, 38, 39, 40, 41, 42, 43, 44, 45, 46, 47, 48, 49, 50, 51, 52, 53, 54, 55, 56, 32, 33] (by decide) (w' := wL adC adM aL aD T σ t f g) rfl k9)
theorem zg_lawMl (X : zC p s m args meth c cc nL Ts own D (zT T) A) {post : Int64 → va_W → Prop} (hM : zM l y ws rm D (zT T) (.ref (adM 0) :: As) (wM adM T τ) mc ms (qL D (zT T) post)) (hg : GoodIn Ts (wsV own index RX7 y ws)) (hw : ws = Cond.code y bytes maxL ret :: ws') (hrc : rm.cells = mc) (hrs : rm.slots = ms) (hy : y.cls = RX7 ∧ y.cls ≠ "java/lang/invoke/MethodHandle" ∧ y.cls ≠ "java/lang/invoke/VarHandle" ∧ (parseMethodDescriptor y.desc).map (fun d => d.parameters.length) = some n) (hn : As.length = n) (hR : rm.frames + 1 ≤ R.frames ∧ 8 + (maxL + 11) + rm.locals ≤ R.locals) (hst : st = As.reverse ++ .ref (adM 0) :: rest) (hrm : (rest.map fun v => v.category).sum ≤ 8) (hf : cells + mc ≤ R.cells ∧ slots + ms ≤ R.slots) (hdg : decode cc pc = .ok (.invokevirtual index, 3)) (kk : ∀ (v : Int64) (w1 : va_W), post v w1 → ∃ t, w1 = wM adM T t ∧ zG p l e R s m args below meth c D nL A (cells + mc) (slots + ms) Q (wL adC adM aL aD T σ t f g) (pc + 3) lv (.long v :: rest)) : zG p l e R s m args below meth c D nL A cells slots Q (wL adC adM aL aD T σ τ f g) (pc) lv (st) :=
  zg_callVl X hM (zFr.of (wr := (wC adC T σ ++ [(aL, .inl (T 3, 1, .inr (.inl f))), (aD, .inl (T 4, 1, .inr (.inr (.inr (.inl g)))))])) [32, 33, 34, 35, 36, 37, 38, 39, 40, 41, 42, 43, 44, 45, 46, 47, 48, 49, 50, 51, 52, 53, 54] [0, 1, 2, 3, 4, 5, 6, 7, 8, 9, 10, 11, 12, 13, 14, 15, 16, 17, 18, 19, 20, 21, 22, 23, 24, 25, 26, 27, 28, 29, 30, 31, 55, 56] (by decide) rfl rfl (by decide) (by decide)) hg hw hrc hrs hy hn hR (q0 := 0) (ci := 9) (T := TX7) (N := 37) rfl rfl hst hrm hf hdg (fun v w1 h => by obtain ⟨t, rfl, k9⟩ := kk v w1 h; exact zg_perm [0, 1, 2, 3, 4, 5, 6, 7, 8, 9, 10, 11, 12, 13, 14, 15, 16, 17, 18, 19, 20, 21, 22, 23, 24, 25, 26, 27, 28, 29, 30, 31, 34, 35, 36, 37, 38, 39, 40, 41, 42, 43, 44, 45, 46, 47, 48, 49, 50, 51, 52, 53, 54, 55, 56, 32, 33] (by decide) (w' := wL adC adM aL aD T σ t f g) rfl k9)
theorem zg_lawMf (X : zC p s m args meth c cc nL Ts own D (zT T) A) {post : UInt32 → va_W → Prop} (hM : zM l y ws rm D (zT T) (.ref (adM 0) :: As) (wM adM T τ) mc ms (qF D (zT T) post)) (hg : GoodIn Ts (wsV own index RX7 y ws)) (hw : ws = Cond.code y bytes maxL ret :: ws') (hrc : rm.cells = mc) (hrs : rm.slots = ms) (hy : y.cls = RX7 ∧ y.cls ≠ "java/lang/invoke/MethodHandle" ∧ y.cls ≠ "java/lang/invoke/VarHandle" ∧ (parseMethodDescriptor y.desc).map (fun d => d.parameters.length) = some n) (hn : As.length = n) (hR : rm.frames + 1 ≤ R.frames ∧ 8 + (maxL + 11) + rm.locals ≤ R.locals) (hst : st = As.reverse ++ .ref (adM 0) :: rest) (hrm : (rest.map fun v => v.category).sum ≤ 8) (hf : cells + mc ≤ R.cells ∧ slots + ms ≤ R.slots) (hdg : decode cc pc = .ok (.invokevirtual index, 3)) (kk : ∀ (v : UInt32) (w1 : va_W), post v w1 → ∃ t, w1 = wM adM T t ∧ zG p l e R s m args below meth c D nL A (cells + mc) (slots + ms) Q (wL adC adM aL aD T σ t f g) (pc + 3) lv (.float v :: rest)) : zG p l e R s m args below meth c D nL A cells slots Q (wL adC adM aL aD T σ τ f g) (pc) lv (st) :=
  zg_callVf X hM (zFr.of (wr := (wC adC T σ ++ [(aL, .inl (T 3, 1, .inr (.inl f))), (aD, .inl (T 4, 1, .inr (.inr (.inr (.inl g)))))])) [32, 33, 34, 35, 36, 37, 38, 39, 40, 41, 42, 43, 44, 45, 46, 47, 48, 49, 50, 51, 52, 53, 54] [0, 1, 2, 3, 4, 5, 6, 7, 8, 9, 10, 11, 12, 13, 14, 15, 16, 17, 18, 19, 20, 21, 22, 23, 24, 25, 26, 27, 28, 29, 30, 31, 55, 56] (by decide) rfl rfl (by decide) (by decide)) hg hw hrc hrs hy hn hR (q0 := 0) (ci := 9) (T := TX7) (N := 37) rfl rfl hst hrm hf hdg (fun v w1 h => by obtain ⟨t, rfl, k9⟩ := kk v w1 h; exact zg_perm [0, 1, 2, 3, 4, 5, 6, 7, 8, 9, 10, 11, 12, 13, 14, 15, 16, 17, 18, 19, 20, 21, 22, 23, 24, 25, 26, 27, 28, 29, 30, 31, 34, 35, 36, 37, 38, 39, 40, 41, 42, 43, 44, 45, 46, 47, 48, 49, 50, 51, 52, 53, 54, 55, 56, 32, 33] (by decide) (w' := wL adC adM aL aD T σ t f g) rfl k9)
theorem zg_lawMd (X : zC p s m args meth c cc nL Ts own D (zT T) A) {post : UInt64 → va_W → Prop} (hM : zM l y ws rm D (zT T) (.ref (adM 0) :: As) (wM adM T τ) mc ms (qD D (zT T) post)) (hg : GoodIn Ts (wsV own index RX7 y ws)) (hw : ws = Cond.code y bytes maxL ret :: ws') (hrc : rm.cells = mc) (hrs : rm.slots = ms) (hy : y.cls = RX7 ∧ y.cls ≠ "java/lang/invoke/MethodHandle" ∧ y.cls ≠ "java/lang/invoke/VarHandle" ∧ (parseMethodDescriptor y.desc).map (fun d => d.parameters.length) = some n) (hn : As.length = n) (hR : rm.frames + 1 ≤ R.frames ∧ 8 + (maxL + 11) + rm.locals ≤ R.locals) (hst : st = As.reverse ++ .ref (adM 0) :: rest) (hrm : (rest.map fun v => v.category).sum ≤ 8) (hf : cells + mc ≤ R.cells ∧ slots + ms ≤ R.slots) (hdg : decode cc pc = .ok (.invokevirtual index, 3)) (kk : ∀ (v : UInt64) (w1 : va_W), post v w1 → ∃ t, w1 = wM adM T t ∧ zG p l e R s m args below meth c D nL A (cells + mc) (slots + ms) Q (wL adC adM aL aD T σ t f g) (pc + 3) lv (.double v :: rest)) : zG p l e R s m args below meth c D nL A cells slots Q (wL adC adM aL aD T σ τ f g) (pc) lv (st) :=
  zg_callVd X hM (zFr.of (wr := (wC adC T σ ++ [(aL, .inl (T 3, 1, .inr (.inl f))), (aD, .inl (T 4, 1, .inr (.inr (.inr (.inl g)))))])) [32, 33, 34, 35, 36, 37, 38, 39, 40, 41, 42, 43, 44, 45, 46, 47, 48, 49, 50, 51, 52, 53, 54] [0, 1, 2, 3, 4, 5, 6, 7, 8, 9, 10, 11, 12, 13, 14, 15, 16, 17, 18, 19, 20, 21, 22, 23, 24, 25, 26, 27, 28, 29, 30, 31, 55, 56] (by decide) rfl rfl (by decide) (by decide)) hg hw hrc hrs hy hn hR (q0 := 0) (ci := 9) (T := TX7) (N := 37) rfl rfl hst hrm hf hdg (fun v w1 h => by obtain ⟨t, rfl, k9⟩ := kk v w1 h; exact zg_perm [0, 1, 2, 3, 4, 5, 6, 7, 8, 9, 10, 11, 12, 13, 14, 15, 16, 17, 18, 19, 20, 21, 22, 23, 24, 25, 26, 27, 28, 29, 30, 31, 34, 35, 36, 37, 38, 39, 40, 41, 42, 43, 44, 45, 46, 47, 48, 49, 50, 51, 52, 53, 54, 55, 56, 32, 33] (by decide) (w' := wL adC adM aL aD T σ t f g) rfl k9)
theorem zg_lawXi (X : zC p s m args meth c cc nL Ts own D (zT T) A) {v0 : Int32} (hM : zM l y ws rm D (zT T) (.ref (adC 0) :: As) (wC adC T σ) mc ms (qI D (zT T) (fun v w => v = v0 ∧ w = wC adC T σ))) (hg : GoodIn Ts (wsV own index RX6 y ws)) (hw : ws = Cond.code y bytes maxL ret :: ws') (hrc : rm.cells = mc) (hrs : rm.slots = ms) (hy : y.cls = RX6 ∧ y.cls ≠ "java/lang/invoke/MethodHandle" ∧ y.cls ≠ "java/lang/invoke/VarHandle" ∧ (parseMethodDescriptor y.desc).map (fun d => d.parameters.length) = some n) (hn : As.length = n) (hR : rm.frames + 1 ≤ R.frames ∧ 8 + (maxL + 11) + rm.locals ≤ R.locals) (hst : st = As.reverse ++ .ref (adC 0) :: rest) (hrm : (rest.map fun v => v.category).sum ≤ 8) (hf : cells + mc ≤ R.cells ∧ slots + ms ≤ R.slots) (hdg : decode cc pc = .ok (.invokevirtual index, 3)) (kk : zG p l e R s m args below meth c D nL A (cells + mc) (slots + ms) Q (wL adC adM aL aD T σ τ f g) (pc + 3) lv (.int v0 :: rest)) : zG p l e R s m args below meth c D nL A cells slots Q (wL adC adM aL aD T σ τ f g) (pc) lv (st) :=
  zg_callVi X hM (zFr.of (wr := (wM adM T τ ++ [(aL, .inl (T 3, 1, .inr (.inl f))), (aD, .inl (T 4, 1, .inr (.inr (.inr (.inl g)))))])) [0, 1, 2, 3, 4, 5, 6, 7, 8, 9, 10, 11, 12, 13, 14, 15, 16, 17, 18, 19, 20, 21, 22, 23, 24, 25, 26, 27, 28, 29, 30, 31] [32, 33, 34, 35, 36, 37, 38, 39, 40, 41, 42, 43, 44, 45, 46, 47, 48, 49, 50, 51, 52, 53, 54, 55, 56] (by decide) rfl rfl (by decide) (by decide)) hg hw hrc hrs hy hn hR (q0 := 0) (ci := 8) (T := TX6) (N := 9) rfl rfl hst hrm hf hdg (fun v w1 h => by obtain ⟨rfl, rfl⟩ := h; exact zg_perm [25, 26, 27, 28, 29, 30, 31, 32, 33, 34, 35, 36, 37, 38, 39, 40, 41, 42, 43, 44, 45, 46, 47, 48, 49, 50, 51, 52, 53, 54, 55, 56, 0, 1, 2, 3, 4, 5, 6, 7, 8, 9, 10, 11, 12, 13, 14, 15, 16, 17, 18, 19, 20, 21, 22, 23, 24] (by decide) (w' := wL adC adM aL aD T σ τ f g) rfl kk)
theorem zg_lawXl (X : zC p s m args meth c cc nL Ts own D (zT T) A) {v0 : Int64} (hM : zM l y ws rm D (zT T) (.ref (adC 0) :: As) (wC adC T σ) mc ms (qL D (zT T) (fun v w => v = v0 ∧ w = wC adC T σ))) (hg : GoodIn Ts (wsV own index RX6 y ws)) (hw : ws = Cond.code y bytes maxL ret :: ws') (hrc : rm.cells = mc) (hrs : rm.slots = ms) (hy : y.cls = RX6 ∧ y.cls ≠ "java/lang/invoke/MethodHandle" ∧ y.cls ≠ "java/lang/invoke/VarHandle" ∧ (parseMethodDescriptor y.desc).map (fun d => d.parameters.length) = some n) (hn : As.length = n) (hR : rm.frames + 1 ≤ R.frames ∧ 8 + (maxL + 11) + rm.locals ≤ R.locals) (hst : st = As.reverse ++ .ref (adC 0) :: rest) (hrm : (rest.map fun v => v.category).sum ≤ 8) (hf : cells + mc ≤ R.cells ∧ slots + ms ≤ R.slots) (hdg : decode cc pc = .ok (.invokevirtual index, 3)) (kk : zG p l e R s m args below meth c D nL A (cells + mc) (slots + ms) Q (wL adC adM aL aD T σ τ f g) (pc + 3) lv (.long v0 :: rest)) : zG p l e R s m args below meth c D nL A cells slots Q (wL adC adM aL aD T σ τ f g) (pc) lv (st) :=
  zg_callVl X hM (zFr.of (wr := (wM adM T τ ++ [(aL, .inl (T 3, 1, .inr (.inl f))), (aD, .inl (T 4, 1, .inr (.inr (.inr (.inl g)))))])) [0, 1, 2, 3, 4, 5, 6, 7, 8, 9, 10, 11, 12, 13, 14, 15, 16, 17, 18, 19, 20, 21, 22, 23, 24, 25, 26, 27, 28, 29, 30, 31] [32, 33, 34, 35, 36, 37, 38, 39, 40, 41, 42, 43, 44, 45, 46, 47, 48, 49, 50, 51, 52, 53, 54, 55, 56] (by decide) rfl rfl (by decide) (by decide)) hg hw hrc hrs hy hn hR (q0 := 0) (ci := 8) (T := TX6) (N := 9) rfl rfl hst hrm hf hdg (fun v w1 h => by obtain ⟨rfl, rfl⟩ := h; exact zg_perm [25, 26, 27, 28, 29, 30, 31, 32, 33, 34, 35, 36, 37, 38, 39, 40, 41, 42, 43, 44, 45, 46, 47, 48, 49, 50, 51, 52, 53, 54, 55, 56, 0, 1, 2, 3, 4, 5, 6, 7, 8, 9, 10, 11, 12, 13, 14, 15, 16, 17, 18, 19, 20, 21, 22, 23, 24] (by decide) (w' := wL adC adM aL aD T σ τ f g) rfl kk)
end ZH
/-- what a helper answers, the class's answer r at hand: 0 and the value kept, or the exception's place in the list -/
def lR (cv : Int32 → Int64) (xs : List String) (σ : ZS) (r : ZR) (v : Int32) (t : ZS) (f : Nat → Int64) : Prop := (∃ r0, r = .inr (r0, t) ∧ v = 0 ∧ f 0 = cv r0) ∨ (∃ E k, r = .inl E ∧ xs[k]? = some E ∧ v = nI (k + 1) ∧ t = σ)
def lRd {α : Type} (cv : α → UInt64) (σ : ZS) (r : String ⊕ α) (v : Int32) (t : ZS) (g : Nat → UInt64) : Prop := t = σ ∧ ((∃ x, r = .inr x ∧ v = 0 ∧ g 0 = cv x) ∨ (r = .inl eAR ∧ v = 1))
def cvI (x : Int32) : Int64 := x.toInt64
def cvB (x : Int32) : Int64 := if x = 0 then 0 else 1
abbrev lwNd (xs : List String) : Prop := xs.length < 100 ∧ ∀ i, i < xs.length → ∀ j, j < xs.length → xs[i]? = xs[j]? → i = j
theorem lw_agree {cv : Int32 → Int64} {xs : List String} {σ t u : ZS} {r : ZR} {v b : Int32} {f : Nat → Int64} (hx : lwNd xs) (hk : ∀ v0 s0, r = .inr (v0, s0) → zV s0) (hV : zV σ) (hl : lR cv xs σ r v u f) (hm : mR xs σ r b t) : t.2.1 8 = v ∧ (v = 0 → f 0 = cv b) ∧ (∀ (ad : Nat → Nat) (T : Nat → ClassId), wC ad T u = wC ad T t) ∧ zV t := by
  rcases hl with ⟨r0, e, hv, hf⟩ | ⟨E, k, e, hk1, hv, hu⟩
  · rcases hm with ⟨s0, e2, ho, h7, h8⟩ | ⟨E, k, e2, -⟩
    · rw [e] at e2
      have e3 := Prod.ext_iff.mp (Sum.inr.inj e2)
      have e4 : r0 = b := e3.1
      have e5 : u = s0 := e3.2
      subst e4
      subst e5
      exact ⟨h8.trans hv.symm, fun _ => hf, fun ad T => (wC_ovl ho).symm, zV_ovl ho h7 (hk _ _ e)⟩
    · rw [e] at e2
      cases e2
  · rcases hm with ⟨s0, e2, -⟩ | ⟨E2, k2, e2, hk2, ho, h7, h8⟩
    · rw [e] at e2
      cases e2
    · rw [e] at e2
      cases e2
      have l1 : k < xs.length := (List.getElem?_eq_some_iff.mp hk1).1
      have l2 : k2 < xs.length := (List.getElem?_eq_some_iff.mp hk2).1
      have e9 : k = k2 := hx.2 k l1 k2 l2 (hk1.trans hk2.symm)
      subst e9
      subst hu
      exact ⟨h8.trans hv.symm, fun h0 => absurd (hv.symm.trans h0) (nI_ne0 (by omega) (by have := hx.1; omega)), fun ad T => (wC_ovl ho).symm, zV_ovl ho h7 hV⟩
theorem lw_agreeD {α : Type} {cv : α → UInt64} {σ t u : ZS} {r : String ⊕ α} {v : Int32} {b : α} {g : Nat → UInt64} (hV : zV σ) (hl : lRd cv σ r v u g) (hm : mF σ r b t) : t.2.1 8 = v ∧ (v = 0 → g 0 = cv b ∧ r = .inr b) ∧ (∀ (ad : Nat → Nat) (T : Nat → ClassId), wC ad T u = wC ad T t) ∧ zV t := by
  obtain ⟨rfl, hl⟩ := hl
  rcases hl with ⟨x, e, hv, hg⟩ | ⟨e, hv⟩
  · rcases hm with ⟨e2, ho, h7, h8⟩ | ⟨e2, -⟩
    · have e3 : x = b := Sum.inr.inj (e.symm.trans e2)
      subst e3
      exact ⟨h8.trans hv.symm, fun _ => ⟨hg, e⟩, fun ad T => (wC_ovl ho).symm, zV_ovl ho h7 hV⟩
    · rw [e] at e2
      cases e2
  · rcases hm with ⟨e2, -⟩ | ⟨e2, ho, h7, h8⟩
    · rw [e] at e2
      cases e2
    · exact ⟨h8.trans hv.symm, fun h0 => absurd (hv.symm.trans h0) (by decide), fun ad T => (wC_ovl ho).symm, zV_ovl ho h7 hV⟩
theorem lg_cmp_self (x : Int64) : lg_cmp x x = 0 := by
  unfold lg_cmp
  rw [if_neg (by rw [gt_iff_lt, Int64.lt_iff_toInt_lt]; omega), if_pos rfl]
theorem rsh_nn {σ : ZS} {b : UInt32} (h : sp_rsh σ = .inr b) : FP.Core.fIsNaN b = false := by
  unfold sp_rsh at h
  by_cases h0 : σ.2.1 4 = 0
  · rw [if_pos h0] at h
    cases h
  · rw [if_neg h0] at h
    cases h
    exact fl_fdiv h0
theorem mrN_le {σ : ZS} : ∀ n, mrN σ n ≤ n
  | 0 => Nat.le_refl 0
  | n + 1 => by
    have := mrN_le (σ := σ) n
    show (if σ.2.2 11 n = 120 then mrN σ n else mrN σ n + 1) ≤ n + 1
    split <;> omega
theorem mrk_nn {σ : ZS} (hI : zI σ) {b : UInt64} (h : sp_mrk σ = .inr b) : FP.Core.dIsNaN b = false := by
  unfold sp_mrk at h
  by_cases h0 : mrN σ (σ.1 3) = 0
  · rw [if_pos h0] at h
    cases h
  · rw [if_neg h0] at h
    cases h
    have := mrN_le (σ := σ) (σ.1 3)
    have := hI.bd.2.2.2.1
    exact fl_ddiv (nI_ne0 (by omega) (by omega))
theorem zV.u6 {σ : ZS} (hV : zV σ) : σ.1 6 < 2 ^ 31 := by
  have h1 : σ.1 6 = cntP (σ.2.2 17) (σ.1 4) := hV.1.1.2.1
  have h2 := cntP_le (f := σ.2.2 17) (σ.1 4)
  have h3 := hV.1.1.1.bd.2.2.2.2.1
  omega
theorem zx_standIn {σ : ZS} {x : Int32} {E : String} (h : sp_standIn σ x = .inl E) : E = eNS := by
  unfold sp_standIn at h
  repeat' split at h
  all_goals cases h
  all_goals first
    | exact rfl
theorem zx_isMember {σ : ZS} {x y : Int32} {E : String} (h : sp_isMember σ x y = .inl E) : E = eNS := by
  unfold sp_isMember at h
  repeat' split at h
  all_goals cases h
  all_goals first
    | exact rfl
theorem zx_members {σ : ZS} {x : Int32} {E : String} (h : sp_members σ x = .inl E) : E = eNS := by
  unfold sp_members at h
  repeat' split at h
  all_goals cases h
  all_goals first
    | exact rfl
theorem zx_holds {σ : ZS} {x y : Int32} {E : String} (h : sp_holds σ x y = .inl E) : E = eNS := by
  unfold sp_holds at h
  repeat' split at h
  all_goals cases h
  all_goals first
    | exact rfl
theorem zx_holdsByPaths {σ : ZS} {x y : Int32} {E : String} (h : sp_holdsByPaths σ x y = .inl E) : E = eNS := by
  unfold sp_holdsByPaths at h
  repeat' split at h
  all_goals cases h
  all_goals first
    | exact rfl
theorem zx_rightsOf {σ : ZS} {x : Int32} {E : String} (h : sp_rightsOf σ x = .inl E) : E = eNS := by
  unfold sp_rightsOf at h
  repeat' split at h
  all_goals cases h
  all_goals first
    | exact rfl
theorem zx_holdersOf {σ : ZS} {x : Int32} {E : String} (h : sp_holdersOf σ x = .inl E) : E = eNS := by
  unfold sp_holdersOf at h
  repeat' split at h
  all_goals cases h
  all_goals first
    | exact rfl
theorem zx_rightBits {σ : ZS} {x : Int32} {E : String} (h : sp_rightBits σ x = .inl E) : E = eNS := by
  unfold sp_rightBits at h
  repeat' split at h
  all_goals cases h
  all_goals first
    | exact rfl
theorem zx_apart {σ : ZS} {x y : Int32} {E : String} (h : sp_apart σ x y = .inl E) : E = eNS := by
  unfold sp_apart at h
  repeat' split at h
  all_goals cases h
  all_goals first
    | exact rfl
theorem zx_isDenied {σ : ZS} {x y : Int32} {E : String} (h : sp_isDenied σ x y = .inl E) : E = eNS := by
  unfold sp_isDenied at h
  repeat' split at h
  all_goals cases h
  all_goals first
    | exact rfl
theorem zx_paths {σ : ZS} {x y : Int32} {E : String} (h : sp_paths σ x y = .inl E) : E = eNS := by
  unfold sp_paths at h
  repeat' split at h
  all_goals cases h
  all_goals first
    | exact rfl
theorem zx_pathLength {σ : ZS} {x y : Int32} {E : String} (h : sp_pathLength σ x y = .inl E) : E = eNS ∨ E = eIS := by
  unfold sp_pathLength at h
  repeat' split at h
  all_goals cases h
  all_goals first
    | exact Or.inl rfl
    | exact Or.inr (rfl)
theorem zx_pathAt {σ : ZS} {x y z : Int32} {E : String} (h : sp_pathAt σ x y z = .inl E) : E = eNS ∨ E = eIS ∨ E = eIO := by
  unfold sp_pathAt at h
  repeat' split at h
  all_goals cases h
  all_goals first
    | exact Or.inl rfl
    | exact Or.inr (Or.inl rfl)
    | exact Or.inr (Or.inr (rfl))
theorem zx_riskOf {σ : ZS} {x : Int32} {E : String} (h : sp_riskOf σ x = .inl E) : E = eNS ∨ E = eIS := by
  unfold sp_riskOf at h
  repeat' split at h
  all_goals cases h
  all_goals first
    | exact Or.inl rfl
    | exact Or.inr (rfl)
theorem zx_riskFor {σ : ZS} {x y : Int32} {E : String} (h : sp_riskFor σ x y = .inl E) : E = eNS := by
  unfold sp_riskFor at h
  repeat' split at h
  all_goals cases h
  all_goals first
    | exact rfl
theorem zx_reviewerOf {σ : ZS} {x : Int32} {E : String} (h : sp_reviewerOf σ x = .inl E) : E = eNS := by
  unfold sp_reviewerOf at h
  repeat' split at h
  all_goals cases h
  all_goals first
    | exact rfl
theorem zx_stateOf {σ : ZS} {x : Int32} {E : String} (h : sp_stateOf σ x = .inl E) : E = eNS := by
  unfold sp_stateOf at h
  repeat' split at h
  all_goals cases h
  all_goals first
    | exact rfl
theorem zx_dueDay {σ : ZS} {x : Int32} {E : String} (h : sp_dueDay σ x = .inl E) : E = eNS ∨ E = eIS := by
  unfold sp_dueDay at h
  repeat' split at h
  all_goals cases h
  all_goals first
    | exact Or.inl rfl
    | exact Or.inr (rfl)
theorem zx_lastUse {σ : ZS} {x : Int32} {E : String} (h : sp_lastUse σ x = .inl E) : E = eNS := by
  unfold sp_lastUse at h
  repeat' split at h
  all_goals cases h
  all_goals first
    | exact rfl
theorem zx_isBlocked {σ : ZS} {x : Int32} {E : String} (h : sp_isBlocked σ x = .inl E) : E = eNS := by
  unfold sp_isBlocked at h
  repeat' split at h
  all_goals cases h
  all_goals first
    | exact rfl
theorem zx_grantOf {σ : ZS} {x : Int32} {E : String} (h : sp_grantOf σ x = .inl E) : E = eNS := by
  unfold sp_grantOf at h
  repeat' split at h
  all_goals cases h
  all_goals first
    | exact rfl
theorem zx_verdict {σ : ZS} {x : Int32} {E : String} (h : sp_verdict σ x = .inl E) : E = eNS := by
  unfold sp_verdict at h
  repeat' split at h
  all_goals cases h
  all_goals first
    | exact rfl
theorem zx_decider {σ : ZS} {x : Int32} {E : String} (h : sp_decider σ x = .inl E) : E = eNS ∨ E = eIS := by
  unfold sp_decider at h
  repeat' split at h
  all_goals cases h
  all_goals first
    | exact Or.inl rfl
    | exact Or.inr (rfl)
theorem zx_signAt {σ : ZS} {x : Int32} {E : String} (h : sp_signAt σ x = .inl E) : E = eNS := by
  unfold sp_signAt at h
  repeat' split at h
  all_goals cases h
  all_goals first
    | exact rfl
theorem zx_sealAt {σ : ZS} {x : Int32} {E : String} (h : sp_sealAt σ x = .inl E) : E = eNS := by
  unfold sp_sealAt at h
  repeat' split at h
  all_goals cases h
  all_goals first
    | exact rfl
theorem zx_sealByReplay {σ : ZS} {x : Int32} {E : String} (h : sp_sealByReplay σ x = .inl E) : E = eNS := by
  unfold sp_sealByReplay at h
  repeat' split at h
  all_goals cases h
  all_goals first
    | exact rfl
theorem zx_nextItem {σ : ZS} {x : Int32} {E : String} (h : sp_nextItem σ x = .inl E) : E = eNS ∨ E = eIS := by
  unfold sp_nextItem at h
  repeat' split at h
  all_goals cases h
  all_goals first
    | exact Or.inl rfl
    | exact Or.inr (rfl)
theorem zx_addPerson {σ : ZS} {x y : Int32} {E : String} (h : sp_addPerson σ x y = .inl E) : E = eIA ∨ E = eNS ∨ E = eIS := by
  unfold sp_addPerson at h
  repeat' split at h
  all_goals cases h
  all_goals first
    | exact Or.inl rfl
    | exact Or.inr (Or.inl rfl)
    | exact Or.inr (Or.inr (rfl))
theorem zx_setAbsent {σ : ZS} {x y : Int32} {E : String} (h : sp_setAbsent σ x y = .inl E) : E = eNS := by
  unfold sp_setAbsent at h
  repeat' split at h
  all_goals cases h
  all_goals first
    | exact rfl
theorem zx_setSubstitute {σ : ZS} {x y : Int32} {E : String} (h : sp_setSubstitute σ x y = .inl E) : E = eNS ∨ E = eIA := by
  unfold sp_setSubstitute at h
  repeat' split at h
  all_goals cases h
  all_goals first
    | exact Or.inl rfl
    | exact Or.inr (rfl)
theorem zx_addGroup {σ : ZS} {x : Int32} {E : String} (h : sp_addGroup σ x = .inl E) : E = eNS ∨ E = eIS := by
  unfold sp_addGroup at h
  repeat' split at h
  all_goals cases h
  all_goals first
    | exact Or.inl rfl
    | exact Or.inr (rfl)
theorem zx_addMember {σ : ZS} {x y : Int32} {E : String} (h : sp_addMember σ x y = .inl E) : E = eNS ∨ E = eIS := by
  unfold sp_addMember at h
  repeat' split at h
  all_goals cases h
  all_goals first
    | exact Or.inl rfl
    | exact Or.inr (rfl)
theorem zx_removeMember {σ : ZS} {x y : Int32} {E : String} (h : sp_removeMember σ x y = .inl E) : E = eNS ∨ E = eIS := by
  unfold sp_removeMember at h
  repeat' split at h
  all_goals cases h
  all_goals first
    | exact Or.inl rfl
    | exact Or.inr (rfl)
theorem zx_nest {σ : ZS} {x y : Int32} {E : String} (h : sp_nest σ x y = .inl E) : E = eNS ∨ E = eUO ∨ E = eIS := by
  unfold sp_nest at h
  repeat' split at h
  all_goals cases h
  all_goals first
    | exact Or.inl rfl
    | exact Or.inr (Or.inl rfl)
    | exact Or.inr (Or.inr (rfl))
theorem zx_addRight {σ : ZS} {x y z : Int32} {E : String} (h : sp_addRight σ x y z = .inl E) : E = eIA ∨ E = eNS ∨ E = eIS := by
  unfold sp_addRight at h
  repeat' split at h
  all_goals cases h
  all_goals first
    | exact Or.inl rfl
    | exact Or.inr (Or.inl rfl)
    | exact Or.inr (Or.inr (rfl))
theorem zx_grantPerson {σ : ZS} {x y : Int32} {E : String} (h : sp_grantPerson σ x y = .inl E) : E = eNS ∨ E = eIS := by
  unfold sp_grantPerson at h
  repeat' split at h
  all_goals cases h
  all_goals first
    | exact Or.inl rfl
    | exact Or.inr (rfl)
theorem zx_grantGroup {σ : ZS} {x y : Int32} {E : String} (h : sp_grantGroup σ x y = .inl E) : E = eNS ∨ E = eIS := by
  unfold sp_grantGroup at h
  repeat' split at h
  all_goals cases h
  all_goals first
    | exact Or.inl rfl
    | exact Or.inr (rfl)
theorem zx_use {σ : ZS} {x y : Int32} {E : String} (h : sp_use σ x y = .inl E) : E = eNS ∨ E = eIS := by
  unfold sp_use at h
  repeat' split at h
  all_goals cases h
  all_goals first
    | exact Or.inl rfl
    | exact Or.inr (rfl)
theorem zx_pass {σ : ZS} {x : Int32} {E : String} (h : sp_pass σ x = .inl E) : E = eIA := by
  unfold sp_pass at h
  repeat' split at h
  all_goals cases h
  all_goals first
    | exact rfl
theorem zx_setLimit {σ : ZS} {x : Int32} {E : String} (h : sp_setLimit σ x = .inl E) : E = eIA := by
  unfold sp_setLimit at h
  repeat' split at h
  all_goals cases h
  all_goals first
    | exact rfl
theorem zx_setGrace {σ : ZS} {x : Int32} {E : String} (h : sp_setGrace σ x = .inl E) : E = eIA := by
  unfold sp_setGrace at h
  repeat' split at h
  all_goals cases h
  all_goals first
    | exact rfl
theorem zx_openCampaign {σ : ZS} {x : Int32} {E : String} (h : sp_openCampaign σ x = .inl E) : E = eIA ∨ E = eIS := by
  unfold sp_openCampaign at h
  repeat' split at h
  all_goals cases h
  all_goals first
    | exact Or.inl rfl
    | exact Or.inr (rfl)
theorem zx_answer {σ : ZS} {x y z : Int32} {E : String} (h : sp_answer σ x y z = .inl E) : E = eIS ∨ E = eNS ∨ E = eIA ∨ E = eUO := by
  unfold sp_answer at h
  repeat' split at h
  all_goals cases h
  all_goals first
    | exact Or.inl rfl
    | exact Or.inr (Or.inl rfl)
    | exact Or.inr (Or.inr (Or.inl rfl))
    | exact Or.inr (Or.inr (Or.inr (rfl)))
