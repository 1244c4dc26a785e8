/-! The law, from its entry. -/
theorem ls_RJ0 : (∀ w ∈ u_ws RJ0 TJ0 2, w ∈ lw_tbl) ∧ Cond.instantiable RJ0 4 ∈ lw_tbl := by decide +kernel
theorem ls_RJx00060 : (∀ w ∈ u_ws RJx00060 TJx00060 6, w ∈ lw_tbl) ∧ Cond.instantiable RJx00060 6 ∈ lw_tbl := by decide +kernel
theorem ls_RX0 : (∀ w ∈ u_ws RX0 TX0 8, w ∈ lw_tbl) ∧ Cond.instantiable RX0 8 ∈ lw_tbl := by decide +kernel
theorem ls_RX1 : (∀ w ∈ u_ws RX1 TX1 5, w ∈ lw_tbl) ∧ Cond.instantiable RX1 5 ∈ lw_tbl := by decide +kernel
theorem ls_RX2 : (∀ w ∈ u_ws RX2 TX2 7, w ∈ lw_tbl) ∧ Cond.instantiable RX2 7 ∈ lw_tbl := by decide +kernel
theorem ls_RX3 : (∀ w ∈ u_ws RX3 TX3 5, w ∈ lw_tbl) ∧ Cond.instantiable RX3 5 ∈ lw_tbl := by decide +kernel
theorem ls_RX4 : (∀ w ∈ u_ws RX4 TX4 5, w ∈ lw_tbl) ∧ Cond.instantiable RX4 5 ∈ lw_tbl := by decide +kernel
theorem ls_RX5 : (∀ w ∈ u_ws RX5 TX5 5, w ∈ lw_tbl) ∧ Cond.instantiable RX5 5 ∈ lw_tbl := by decide +kernel
theorem ls_RX6 : (∀ w ∈ u_ws RX6 TX6 9, w ∈ lw_tbl) ∧ Cond.instantiable RX6 9 ∈ lw_tbl := by decide +kernel
theorem ls_RX7 : (∀ w ∈ u_ws RX7 TX7 37, w ∈ lw_tbl) ∧ Cond.instantiable RX7 37 ∈ lw_tbl := by decide +kernel
theorem ls_K {args : Array Value} {s : State} (hts : ∀ w ∈ lw_tbl, w.before args s = true) : ∃ D : va_G, ∀ (c : Nat) (q : vw_C), vwCl[c]? = some q → u_Kn s q.1 q.2.1 q.2.2 (D.1 c) (D.2 c) := by
  have h : ∀ c : Nat, ∃ cC : ClassId, ∃ iS : Nat → Nat, ∀ q : vw_C, vwCl[c]? = some q → u_Kn s q.1 q.2.1 q.2.2 cC iS := fun c => by
    match c with
    | 0 =>
      obtain ⟨cC, iS, h⟩ := u_known (n := 4) hts ls_RJ0.1 (hts _ ls_RJ0.2)
      exact ⟨cC, iS, fun q hq => by obtain rfl := Option.some.inj hq; exact h⟩
    | 1 =>
      obtain ⟨cC, iS, h⟩ := u_known (n := 6) hts ls_RJx00060.1 (hts _ ls_RJx00060.2)
      exact ⟨cC, iS, fun q hq => by obtain rfl := Option.some.inj hq; exact h⟩
    | 2 =>
      obtain ⟨cC, iS, h⟩ := u_known (n := 8) hts ls_RX0.1 (hts _ ls_RX0.2)
      exact ⟨cC, iS, fun q hq => by obtain rfl := Option.some.inj hq; exact h⟩
    | 3 =>
      obtain ⟨cC, iS, h⟩ := u_known (n := 5) hts ls_RX1.1 (hts _ ls_RX1.2)
      exact ⟨cC, iS, fun q hq => by obtain rfl := Option.some.inj hq; exact h⟩
    | 4 =>
      obtain ⟨cC, iS, h⟩ := u_known (n := 7) hts ls_RX2.1 (hts _ ls_RX2.2)
      exact ⟨cC, iS, fun q hq => by obtain rfl := Option.some.inj hq; exact h⟩
    | 5 =>
      obtain ⟨cC, iS, h⟩ := u_known (n := 5) hts ls_RX3.1 (hts _ ls_RX3.2)
      exact ⟨cC, iS, fun q hq => by obtain rfl := Option.some.inj hq; exact h⟩
    | 6 =>
      obtain ⟨cC, iS, h⟩ := u_known (n := 5) hts ls_RX4.1 (hts _ ls_RX4.2)
      exact ⟨cC, iS, fun q hq => by obtain rfl := Option.some.inj hq; exact h⟩
    | 7 =>
      obtain ⟨cC, iS, h⟩ := u_known (n := 5) hts ls_RX5.1 (hts _ ls_RX5.2)
      exact ⟨cC, iS, fun q hq => by obtain rfl := Option.some.inj hq; exact h⟩
    | 8 =>
      obtain ⟨cC, iS, h⟩ := u_known (n := 9) hts ls_RX6.1 (hts _ ls_RX6.2)
      exact ⟨cC, iS, fun q hq => by obtain rfl := Option.some.inj hq; exact h⟩
    | 9 =>
      obtain ⟨cC, iS, h⟩ := u_known (n := 37) hts ls_RX7.1 (hts _ ls_RX7.2)
      exact ⟨cC, iS, fun q hq => by obtain rfl := Option.some.inj hq; exact h⟩
    | k + 10 => exact ⟨0, fun _ => 0, fun q hq => absurd hq (by simp [vwCl])⟩
  exact ⟨(fun c => Classical.choose (h c), fun c => Classical.choose (Classical.choose_spec (h c))), fun c => Classical.choose_spec (Classical.choose_spec (h c))⟩
def lsT : List FieldType := [.int, .char, .boolean, .long, .double]
theorem ls_arr : ∀ t ∈ lsT, Cond.arrayClass t ∈ lw_tbl := by decide +kernel
theorem ls_A {args : Array Value} {s : State} {ty : FieldType} (h : (Cond.arrayClass ty).before args s = true) (hp : ty ∈ lsT) : ∃ cA : ClassId, ArrOfT s cA ty ∧ va_RA s cA ty := by
  obtain ⟨cA, k, comp, h1, h2, h3⟩ := Cond.arrayClass_spec h
  refine ⟨cA, fun n z => ⟨fun _ h => (nomatch h), k, h2, comp, h3⟩, ?_⟩
  simp only [lsT, List.mem_cons, List.not_mem_nil, or_false] at hp
  rcases hp with rfl | rfl | rfl | rfl | rfl <;> exact h1
theorem ls_T {args : Array Value} {s : State} (hts : ∀ w ∈ lw_tbl, w.before args s = true) : ∃ T : Nat → ClassId, ∀ (k : Nat) (q : ClassId × FieldType), (zT T)[k]? = some q → ArrOfT s q.1 q.2 ∧ va_RA s q.1 q.2 := by
  have h : ∀ k : Nat, ∃ cA : ClassId, ∀ ty : FieldType, lsT[k]? = some ty → ArrOfT s cA ty ∧ va_RA s cA ty := fun k => by
    cases hk : lsT[k]? with
    | none => exact ⟨0, fun ty h => nomatch h⟩
    | some ty =>
      have hm : ty ∈ lsT := List.mem_of_getElem? hk
      obtain ⟨cA, h1⟩ := ls_A (hts _ (ls_arr ty hm)) hm
      exact ⟨cA, fun t9 h9 => by obtain rfl := Option.some.inj h9; exact h1⟩
  refine ⟨fun k => Classical.choose (h k), fun k q hq => ?_⟩
  have hs := Classical.choose_spec (h k)
  match k, hq with
  | 0, hq => obtain rfl := Option.some.inj hq; exact hs _ rfl
  | 1, hq => obtain rfl := Option.some.inj hq; exact hs _ rfl
  | 2, hq => obtain rfl := Option.some.inj hq; exact hs _ rfl
  | 3, hq => obtain rfl := Option.some.inj hq; exact hs _ rfl
  | 4, hq => obtain rfl := Option.some.inj hq; exact hs _ rfl
  | k + 5, hq => exact absurd hq (by simp [zT])
theorem ls_str : ∀ q ∈ zStr, Cond.stringRef q.1 q.2.1 q.2.2 ∈ lw_tbl ∧ Cond.exactly (.string q.1 q.2.1) "java/lang/String" ∈ flatC (Jvm.Cond.and given_1 narrow_1) := by decide +kernel
theorem ls_nest : ∀ q ∈ zNest, Cond.methodLinkNest q.1 q.2.1 q.2.2.1 q.2.2.2 ∈ lw_tbl ∧ (Cond.methodLinkNest q.1 q.2.1 q.2.2.1 q.2.2.2).onTables = true := by decide +kernel
theorem ls_cast : ∀ q ∈ zCast, Cond.castable q q ∈ lw_tbl ∧ (Cond.castable q q).onTables = true := by decide +kernel
theorem ls_no : ∀ q ∈ zCast, ∀ r ∈ zCast, q ≠ r → (Cond.castable q r).not ∈ flatC (Jvm.Cond.and given_1 narrow_1) := by decide +kernel
theorem ls_decl : ∀ q ∈ zDecl, Cond.declares q ∈ lw_tbl ∧ (Cond.declares q).onTables = true := by decide +kernel
theorem ls_stat : Cond.laysStatic Bundle.tN "UNASSIGNED_STACK" Bundle.steD ∈ lw_tbl ∧ Cond.laysStatic Bundle.tN "SUPPRESSED_SENTINEL" Bundle.listD ∈ lw_tbl ∧ Cond.initialized Bundle.tN ∈ lw_tbl ∧ Cond.isRef (.static Bundle.tN "UNASSIGNED_STACK" Bundle.steD) ∈ flatC (Jvm.Cond.and given_1 narrow_1) ∧ Cond.isRef (.static Bundle.tN "SUPPRESSED_SENTINEL" Bundle.listD) ∈ flatC (Jvm.Cond.and given_1 narrow_1) := by decide +kernel
theorem ls_X {args : Array Value} {s : State} (hts : ∀ w ∈ lw_tbl, w.before args s = true) (hg : (Jvm.Cond.and given_1 narrow_1).before args s = true) : zX (fun q => s.heap.size ≤ q) s s.heap := by
  have hf := flat_of_before _ hg
  have hA : ∀ a : Nat, a < s.heap.size → ¬ s.heap.size ≤ a := fun a h => Nat.not_le.mpr h
  refine ⟨vx_Zqof (hts _ ls_stat.1) (hts _ ls_stat.2.2.1) (hf _ ls_stat.2.2.2.1) hA, vx_Zqof (hts _ ls_stat.2.1) (hts _ ls_stat.2.2.1) (hf _ ls_stat.2.2.2.2) hA, fun q hq => ?_, fun q hq => va_Nw.of (ls_nest q hq).2 (hts _ (ls_nest q hq).1), fun q hq => va_Nw.of (ls_cast q hq).2 (hts _ (ls_cast q hq).1), fun q hq r hr hne => va_Nc.of (hf _ (ls_no q hq r hr hne)), fun q hq => va_Nw.of (ls_decl q hq).2 (hts _ (ls_decl q hq).1)⟩
  obtain ⟨a, -, -, -, h1, -⟩ := Cond.exactly_spec (hf _ (ls_str q hq).2)
  exact ⟨a, vk_R.of (hts _ (ls_str q hq).1) h1⟩
theorem lsR_in : ∀ w ∈ wsLR ++ lwH, w ∈ lw_tbl := List.forall_mem_append.mpr ⟨wsLR_in, lwH_in⟩
theorem ls_w6 : (∀ w ∈ u_ws RX6 TX6 9, w ∈ wsLR ++ lwH) ∧ Cond.classLink RL 8 RX6 ∈ wsLR ++ lwH ∧ Cond.instantiable RX6 9 ∈ wsLR ++ lwH ∧ Cond.initialized RX6 ∈ wsLR ++ lwH ∧ Cond.methodLink RL 167 yX6_init ∈ wsLR ++ lwH ∧ Cond.instanceMethod yX6_init ∈ wsLR ++ lwH := by decide +kernel
theorem ls_w7 : (∀ w ∈ u_ws RX7 TX7 37, w ∈ wsLR ++ lwH) ∧ Cond.classLink RL 168 RX7 ∈ wsLR ++ lwH ∧ Cond.instantiable RX7 37 ∈ wsLR ++ lwH ∧ Cond.initialized RX7 ∈ wsLR ++ lwH ∧ Cond.methodLink RL 170 yX7_init ∈ wsLR ++ lwH ∧ Cond.instanceMethod yX7_init ∈ wsLR ++ lwH := by decide +kernel
theorem ls_wa : Cond.arrayClass .long ∈ wsLR ++ lwH ∧ Cond.arrayClass .double ∈ wsLR ++ lwH := by decide +kernel
set_option maxHeartbeats 4000000 in
theorem ls_walk {p : Program} {l : Launch} {e : Env} {s : State} {m : MethodId} {b : Nat} {below : List Frame} {meth : Method} {c : Code} {D : va_G} {T : Nat → ClassId} {xs : Nat → Int32} {L : Nat} (X : zC p s m #[Value.ref b] meth c cL_law 9 (wsLR ++ lwH) RL D (zT T) (fun q => s.heap.size ≤ q)) (hfl : l.stackTraces = false) (hX : va_X b L xs s s.heap) (hbl : b < s.heap.size) (hL : L ≤ 2048) (hr : meth.sig.returnType = ret) : zG p l e room_1 s m #[Value.ref b] below meth c D 9 (fun q => s.heap.size ≤ q) 0 0 (lw_Z below #[Value.ref b] s) [] 0 [(0, .ref b)] [] := by
  refine zg_new X ls_w6.1 (ty0 := tyX6) tyX6_ok ls_w6.2.1 ls_w6.2.2.1 ls_w6.2.2.2.1 (ci := 8) rfl (fs := [.null, .null, .null, .null, .null, .null, .int 0, .int 0, .int 0]) (fun j hj => match j, hj with | 0, _ => rfl | 1, _ => rfl | 2, _ => rfl | 3, _ => rfl | 4, _ => rfl | 5, _ => rfl | 6, _ => rfl | 7, _ => rfl | 8, _ => rfl | j + 9, hj => absurd hj (by omega)) (Nat.le_of_ble_eq_true rfl) (Nat.le_of_ble_eq_true rfl) dL_law_0 (fun h6 => ?_)
  refine zg_dup X dL_law_3 rfl ?_
  refine zg_callIv X (k_X6_init l D T h6) zFr.rf (lh_m gL_law_X6_init) ls_w6.2.2.2.1 ls_w6.2.2.2.2.1 ls_w6.2.2.2.2.2 rfl rfl rfl rfl (by decide +kernel) rfl ⟨(Nat.le_of_ble_eq_true rfl), (Nat.le_of_ble_eq_true rfl)⟩ rfl (Nat.le_of_ble_eq_true rfl) ⟨(Nat.le_of_ble_eq_true rfl), (Nat.le_of_ble_eq_true rfl)⟩ dL_law_4 (fun w1 hp => ?_)
  obtain ⟨adC, e6, rfl⟩ := hp
  refine zg_astore_n X dL_law_7 (by decide) ?_
  refine zg_new X ls_w7.1 (ty0 := tyX7) tyX7_ok ls_w7.2.1 ls_w7.2.2.1 ls_w7.2.2.2.1 (ci := 9) rfl (fs := [.int 0, .null, .null, .null, .null, .null, .null, .null, .null, .null, .null, .null, .null, .null, .null, .null, .null, .int 0, .int 0, .int 0, .int 0, .int 0, .int 0, .int 0, .int 0, .null, .null, .int 0, .null, .null, .null, .int 0, .int 0, .int 0, .int 0, .int 0, .null]) (fun j hj => match j, hj with | 0, _ => rfl | 1, _ => rfl | 2, _ => rfl | 3, _ => rfl | 4, _ => rfl | 5, _ => rfl | 6, _ => rfl | 7, _ => rfl | 8, _ => rfl | 9, _ => rfl | 10, _ => rfl | 11, _ => rfl | 12, _ => rfl | 13, _ => rfl | 14, _ => rfl | 15, _ => rfl | 16, _ => rfl | 17, _ => rfl | 18, _ => rfl | 19, _ => rfl | 20, _ => rfl | 21, _ => rfl | 22, _ => rfl | 23, _ => rfl | 24, _ => rfl | 25, _ => rfl | 26, _ => rfl | 27, _ => rfl | 28, _ => rfl | 29, _ => rfl | 30, _ => rfl | 31, _ => rfl | 32, _ => rfl | 33, _ => rfl | 34, _ => rfl | 35, _ => rfl | 36, _ => rfl | j + 37, hj => absurd hj (by omega)) (Nat.le_of_ble_eq_true rfl) (Nat.le_of_ble_eq_true rfl) dL_law_8 (fun h7 => ?_)
  refine zg_dup X dL_law_11 rfl ?_
  refine zg_callIv X (k_X7_init l D T h7) (zFr.of (wr := wC adC T z0) [32] [0, 1, 2, 3, 4, 5, 6, 7, 8, 9, 10, 11, 12, 13, 14, 15, 16, 17, 18, 19, 20, 21, 22, 23, 24, 25, 26, 27, 28, 29, 30, 31] (by decide) rfl rfl (by decide) (by decide)) (lh_m gL_law_X7_init) ls_w7.2.2.2.1 ls_w7.2.2.2.2.1 ls_w7.2.2.2.2.2 rfl rfl rfl rfl (by decide +kernel) rfl ⟨(Nat.le_of_ble_eq_true rfl), (Nat.le_of_ble_eq_true rfl)⟩ rfl (Nat.le_of_ble_eq_true rfl) ⟨(Nat.le_of_ble_eq_true rfl), (Nat.le_of_ble_eq_true rfl)⟩ dL_law_12 (fun w1 hp => ?_)
  obtain ⟨adM, e7, rfl⟩ := hp
  refine zg_astore_n X dL_law_15 (by decide) ?_
  refine zg_iconst X (v := 1) dL_law_16 (by decide) ?_
  refine zg_newa X (atype := .long) (ty := .long) rfl ls_wa.1 (t0 := 3) rfl (fun _ _ h => h) (N' := 1) (a0 := (1, .inr (.inl (fun _ => 0)))) (fun _ => rfl) (by decide) (by decide) (Nat.le_of_ble_eq_true rfl) (Nat.le_of_ble_eq_true rfl) (Nat.le_of_ble_eq_true rfl) dL_law_17 (fun aL => ?_)
  refine zg_astore_n X dL_law_19 (by decide) ?_
  refine zg_iconst X (v := 1) dL_law_20 (by decide) ?_
  refine zg_newa X (atype := .double) (ty := .double) rfl ls_wa.2 (t0 := 4) rfl (fun _ _ h => h) (N' := 1) (a0 := (1, .inr (.inr (.inr (.inl (fun _ => 0)))))) (fun _ => rfl) (by decide) (by decide) (Nat.le_of_ble_eq_true rfl) (Nat.le_of_ble_eq_true rfl) (Nat.le_of_ble_eq_true rfl) dL_law_21 (fun aD => ?_)
  refine zg_astore X dL_law_23 (by decide) ?_
  refine zg_iconst X (v := 0) dL_law_25 (by decide) ?_
  refine zg_istore X dL_law_26 (by decide) ?_
  subst e6
  subst e7
  refine zg_w (w' := wL adC adM aL aD T z0 z0 (fun _ => 0) (fun _ => 0)) rfl ?_
  refine zg_lv (lv' := lw0 b adC adM aL aD 0) ⟨rfl, rfl, rfl, rfl, rfl, rfl, trivial⟩ ?_
  exact lw_loop X hfl hX hbl (Nat.not_le.mpr hbl) hL hr (fun q h => h) 512 0 _ _ z0 _ _ (by omega) (by omega) zV_0 (Nat.le_of_ble_eq_true rfl) (Nat.le_of_ble_eq_true rfl)
/-- from the entry, for every script of at most 2048 ints, the law comes to its end with true -/
theorem whole_start {p : Program} {e : Env} {s : State} {m : MethodId} {below : List Frame} {meth : Method} {c : Code} (l : Launch) (hflags : l.flags = flags0) {b L : Nat} {xs : Nat → Int32} (hL : L ≤ 2048) (C0 : lw_At p s m meth c b L xs) : W p l e room_1 s m #[Value.ref b] below meth c s.heap [] 0 0 (lw_Z below #[Value.ref b] s) (entryFrame m ([Value.ref b] : List Value).toArray 9) := by
  obtain ⟨hx, hcb, hr, hml, hown, hts, hXs, hbl, hlk, hgv⟩ := C0
  have hfl : l.stackTraces = false := by
    show (!l.flags.contains noTraceFlag) = false
    rw [hflags]
    decide +kernel
  obtain ⟨D, hD⟩ := ls_K hts
  obtain ⟨T, hT⟩ := ls_T hts
  have X : zC p s m #[Value.ref b] meth c cL_law 9 (wsLR ++ lwH) RL D (zT T) (fun q => s.heap.size ≤ q) := ⟨hx, hcb, hml, fun w hw => hts w (lsR_in w hw), hown, ⟨hD, hT⟩, fun q h => h, ls_X hts hgv, hlk⟩
  rw [lg_entry_eq]
  exact ls_walk X hfl hXs hbl hL hr s.heap [] _ (fun k q h => (nomatch h)) ⟨fun i j p q h => (nomatch h), fun k q h => (nomatch h)⟩ va_S.rf (lv_entry [.ref b] (Nat.le_of_ble_eq_true rfl))
