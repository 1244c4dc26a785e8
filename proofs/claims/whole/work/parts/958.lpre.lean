/-! The law's cases. -/
abbrev lw0 (b : Nat) (adC adM : Nat → Nat) (aL aD i : Nat) : List (Nat × Value) := [(0, .ref b), (1, .ref (adC 0)), (2, .ref (adM 0)), (3, .ref aL), (4, .ref aD), (5, .int (nI i))]
theorem lw_add (a b : Nat) : nI a + nI b = nI (a + b) := (Int32.ofNat_add a b).symm
theorem lw_cmp {x y : Int64} (h : x = y) : lg_cmp x y = 0 := by rw [h]; exact lg_cmp_self _
section LK
variable {p : Program} {l : Launch} {e : Env} {s : State} {m : MethodId} {b : Nat} {below : List Frame} {meth : Method} {c : Code} {D : va_G} {T : Nat → ClassId} {A : Nat → Prop} {Q : State → Prop} {adC adM : Nat → Nat} {aL aD : Nat} {xs : Nat → Int32} {L : Nat}
theorem lw_k {x1 x2 y1 y2 i : Nat} {u t : ZS} {f : Nat → Int64} {g : Nat → UInt64} {lv : List (Nat × Value)} (hlv : lvA lv (lw0 b adC adM aL aD i)) (hw : wC adC T u = wC adC T t) (h1 : x1 ≤ x2) (h2 : y1 ≤ y2) (k : zG p l e room_1 s m #[Value.ref b] below meth c D 9 A x2 y2 Q (wL adC adM aL aD T t t f g) 3268 (lw0 b adC adM aL aD i) []) : zG p l e room_1 s m #[Value.ref b] below meth c D 9 A x1 y1 Q (wL adC adM aL aD T u t f g) 3268 lv [] := zg_lv hlv (zg_widen h1 h2 (zg_w (by unfold wL; rw [hw]) k))
end LK
theorem bI_dec {P : Prop} [Decidable P] : bI P = bI (decide P = true) := by
  by_cases h : P
  · rw [bI_t h, bI_t (decide_eq_true h)]
  · rw [bI_f h, bI_f (by rw [decide_eq_false h]; exact Bool.false_ne_true)]
theorem lw_dcmp {x y : UInt64} (h : x = y) (hn : FP.Core.dIsNaN y = false) : Op.cmpValue (FP.dcmp x y) .l = 0 := by rw [h, fl_cmp hn]; rfl
