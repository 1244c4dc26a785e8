/-! The law's loop. -/
theorem lw_cond {L i : Nat} (hL : L ≤ 2048) (hi : i ≤ 2048) : nI L - 4 < nI i ↔ L < i + 4 := by
  rw [Int32.lt_iff_toInt_lt, Int32.toInt_sub, nI_toInt (by omega), nI_toInt (by omega)]
  have h4 : Int32.toInt 4 = 4 := rfl
  rw [h4]
  have e : ((L : Int) - 4).bmod (2 ^ 32) = (L : Int) - 4 := by
    rw [Int.bmod_eq_of_le] <;> omega
  rw [e]
  omega
section LL
variable {p : Program} {l : Launch} {e : Env} {s : State} {m : MethodId} {b : Nat} {below : List Frame} {meth : Method} {c : Code} {D : va_G} {T : Nat → ClassId} {A : Nat → Prop} {adC adM : Nat → Nat} {aL aD : Nat} {xs : Nat → Int32} {L : Nat}
theorem lw_head {i cells slots : Nat} {Q : State → Prop} {w : va_W} (X : zC p s m #[Value.ref b] meth c cL_law 9 (wsLR ++ lwH) RL D (zT T) A) (hfl : l.stackTraces = false) (hX : va_X b L xs s s.heap) (hbl : b < s.heap.size) (hbA : ¬ A b) (hL : L ≤ 2048) (hi : i ≤ 2048) (kt : L < i + 4 → zG p l e room_1 s m #[Value.ref b] below meth c D 9 A cells slots Q w 3274 (lw0 b adC adM aL aD i) []) (kf : i + 4 ≤ L → zG p l e room_1 s m #[Value.ref b] below meth c D 9 A cells slots Q w 37 (lw0 b adC adM aL aD i) []) : zG p l e room_1 s m #[Value.ref b] below meth c D 9 A cells slots Q w 28 (lw0 b adC adM aL aD i) [] := by
  refine zg_iload X dL_law_28 rfl ?_
  refine zg_aload_n X dL_law_30 rfl ?_
  refine zg_slen X hX hbl hbA dL_law_31 ?_
  refine zg_iconst X (v := 4) dL_law_32 (by decide) ?_
  refine zg_isub X dL_law_33 ?_
  exact zg_icmp_gt X dL_law_34 (tgt := 3274) (by decide) (fun h => kt ((lw_cond hL hi).mp h)) (fun h => kf (Nat.le_of_not_lt (fun q => h ((lw_cond hL hi).mpr q))))
theorem lw_disp {i cells slots : Nat} {Q : State → Prop} {σ : ZS} {f : Nat → Int64} {g : Nat → UInt64} (X : zC p s m #[Value.ref b] meth c cL_law 9 (wsLR ++ lwH) RL D (zT T) A) (hfl : l.stackTraces = false) (hX : va_X b L xs s s.heap) (hbl : b < s.heap.size) (hbA : ¬ A b) (hL : L ≤ 2048) (hi : i + 4 ≤ L) (hV : zV σ) (hc : cells + 4 ≤ 603072) (hs : slots + 24 ≤ 7215210) (k : ∀ (t : ZS) (f' : Nat → Int64) (g' : Nat → UInt64), zV t → zG p l e room_1 s m #[Value.ref b] below meth c D 9 A (cells + 4) (slots + 24) Q (wL adC adM aL aD T t t f' g') 3268 (lw0 b adC adM aL aD i) []) {j : Nat} (hj : j < 64) : zG p l e room_1 s m #[Value.ref b] below meth c D 9 A cells slots Q (wL adC adM aL aD T σ σ f g) 44 (lw0 b adC adM aL aD i) [.int (nI j)] := by
  by_cases h0 : j = 0
  · subst h0
    exact zg_tabIn X dL_law_44 (off := 228) (tgt := 272) (by decide) (by decide) (by decide +kernel) (by decide) (lcase_0 X hfl hX hbl hbA hL hi hV hc hs k)
  by_cases h1 : j = 1
  · subst h1
    exact zg_tabIn X dL_law_44 (off := 296) (tgt := 340) (by decide) (by decide) (by decide +kernel) (by decide) (lcase_1 X hfl hX hbl hbA hL hi hV hc hs k)
  by_cases h2 : j = 2
  · subst h2
    exact zg_tabIn X dL_law_44 (off := 387) (tgt := 431) (by decide) (by decide) (by decide +kernel) (by decide) (lcase_2 X hfl hX hbl hbA hL hi hV hc hs k)
  by_cases h3 : j = 3
  · subst h3
    exact zg_tabIn X dL_law_44 (off := 455) (tgt := 499) (by decide) (by decide) (by decide +kernel) (by decide) (lcase_3 X hfl hX hbl hbA hL hi hV hc hs k)
  by_cases h4 : j = 4
  · subst h4
    exact zg_tabIn X dL_law_44 (off := 511) (tgt := 555) (by decide) (by decide) (by decide +kernel) (by decide) (lcase_4 X hfl hX hbl hbA hL hi hV hc hs k)
  by_cases h5 : j = 5
  · subst h5
    exact zg_tabIn X dL_law_44 (off := 579) (tgt := 623) (by decide) (by decide) (by decide +kernel) (by decide) (lcase_5 X hfl hX hbl hbA hL hi hV hc hs k)
  by_cases h6 : j = 6
  · subst h6
    exact zg_tabIn X dL_law_44 (off := 647) (tgt := 691) (by decide) (by decide) (by decide +kernel) (by decide) (lcase_6 X hfl hX hbl hbA hL hi hV hc hs k)
  by_cases h7 : j = 7
  · subst h7
    exact zg_tabIn X dL_law_44 (off := 715) (tgt := 759) (by decide) (by decide) (by decide +kernel) (by decide) (lcase_7 X hfl hX hbl hbA hL hi hV hc hs k)
  by_cases h8 : j = 8
  · subst h8
    exact zg_tabIn X dL_law_44 (off := 811) (tgt := 855) (by decide) (by decide) (by decide +kernel) (by decide) (lcase_8 X hfl hX hbl hbA hL hi hV hc hs k)
  by_cases h9 : j = 9
  · subst h9
    exact zg_tabIn X dL_law_44 (off := 879) (tgt := 923) (by decide) (by decide) (by decide +kernel) (by decide) (lcase_9 X hfl hX hbl hbA hL hi hV hc hs k)
  by_cases h10 : j = 10
  · subst h10
    exact zg_tabIn X dL_law_44 (off := 947) (tgt := 991) (by decide) (by decide) (by decide +kernel) (by decide) (lcase_10 X hfl hX hbl hbA hL hi hV hc hs k)
  by_cases h11 : j = 11
  · subst h11
    exact zg_tabIn X dL_law_44 (off := 1015) (tgt := 1059) (by decide) (by decide) (by decide +kernel) (by decide) (lcase_11 X hfl hX hbl hbA hL hi hV hc hs k)
  by_cases h12 : j = 12
  · subst h12
    exact zg_tabIn X dL_law_44 (off := 1071) (tgt := 1115) (by decide) (by decide) (by decide +kernel) (by decide) (lcase_12 X hfl hX hbl hbA hL hi hV hc hs k)
  by_cases h13 : j = 13
  · subst h13
    exact zg_tabIn X dL_law_44 (off := 1127) (tgt := 1171) (by decide) (by decide) (by decide +kernel) (by decide) (lcase_13 X hfl hX hbl hbA hL hi hV hc hs k)
  by_cases h14 : j = 14
  · subst h14
    exact zg_tabIn X dL_law_44 (off := 1183) (tgt := 1227) (by decide) (by decide) (by decide +kernel) (by decide) (lcase_14 X hfl hX hbl hbA hL hi hV hc hs k)
  by_cases h15 : j = 15
  · subst h15
    exact zg_tabIn X dL_law_44 (off := 1239) (tgt := 1283) (by decide) (by decide) (by decide +kernel) (by decide) (lcase_15 X hfl hX hbl hbA hL hi hV hc hs k)
  by_cases h16 : j = 16
  · subst h16
    exact zg_tabIn X dL_law_44 (off := 1321) (tgt := 1365) (by decide) (by decide) (by decide +kernel) (by decide) (lcase_16 X hfl hX hbl hbA hL hi hV hc hs k)
  by_cases h17 : j = 17
  · subst h17
    exact zg_tabIn X dL_law_44 (off := 1334) (tgt := 1378) (by decide) (by decide) (by decide +kernel) (by decide) (lcase_17 X hfl hX hbl hbA hL hi hV hc hs k)
  by_cases h18 : j = 18
  · subst h18
    exact zg_tabIn X dL_law_44 (off := 1347) (tgt := 1391) (by decide) (by decide) (by decide +kernel) (by decide) (lcase_18 X hfl hX hbl hbA hL hi hV hc hs k)
  by_cases h19 : j = 19
  · subst h19
    exact zg_tabIn X dL_law_44 (off := 1403) (tgt := 1447) (by decide) (by decide) (by decide +kernel) (by decide) (lcase_19 X hfl hX hbl hbA hL hi hV hc hs k)
  by_cases h20 : j = 20
  · subst h20
    exact zg_tabIn X dL_law_44 (off := 1478) (tgt := 1522) (by decide) (by decide) (by decide +kernel) (by decide) (lcase_20 X hfl hX hbl hbA hL hi hV hc hs k)
  by_cases h21 : j = 21
  · subst h21
    exact zg_tabIn X dL_law_44 (off := 1534) (tgt := 1578) (by decide) (by decide) (by decide +kernel) (by decide) (lcase_21 X hfl hX hbl hbA hL hi hV hc hs k)
  by_cases h22 : j = 22
  · subst h22
    exact zg_tabIn X dL_law_44 (off := 1609) (tgt := 1653) (by decide) (by decide) (by decide +kernel) (by decide) (lcase_22 X hfl hX hbl hbA hL hi hV hc hs k)
  by_cases h23 : j = 23
  · subst h23
    exact zg_tabIn X dL_law_44 (off := 1684) (tgt := 1728) (by decide) (by decide) (by decide +kernel) (by decide) (lcase_23 X hfl hX hbl hbA hL hi hV hc hs k)
  by_cases h24 : j = 24
  · subst h24
    exact zg_tabIn X dL_law_44 (off := 1740) (tgt := 1784) (by decide) (by decide) (by decide +kernel) (by decide) (lcase_24 X hfl hX hbl hbA hL hi hV hc hs k)
  by_cases h25 : j = 25
  · subst h25
    exact zg_tabIn X dL_law_44 (off := 1796) (tgt := 1840) (by decide) (by decide) (by decide +kernel) (by decide) (lcase_25 X hfl hX hbl hbA hL hi hV hc hs k)
  by_cases h26 : j = 26
  · subst h26
    exact zg_tabIn X dL_law_44 (off := 1852) (tgt := 1896) (by decide) (by decide) (by decide +kernel) (by decide) (lcase_26 X hfl hX hbl hbA hL hi hV hc hs k)
  by_cases h27 : j = 27
  · subst h27
    exact zg_tabIn X dL_law_44 (off := 1920) (tgt := 1964) (by decide) (by decide) (by decide +kernel) (by decide) (lcase_27 X hfl hX hbl hbA hL hi hV hc hs k)
  by_cases h28 : j = 28
  · subst h28
    exact zg_tabIn X dL_law_44 (off := 1995) (tgt := 2039) (by decide) (by decide) (by decide +kernel) (by decide) (lcase_28 X hfl hX hbl hbA hL hi hV hc hs k)
  by_cases h29 : j = 29
  · subst h29
    exact zg_tabIn X dL_law_44 (off := 2063) (tgt := 2107) (by decide) (by decide) (by decide +kernel) (by decide) (lcase_29 X hfl hX hbl hbA hL hi hV hc hs k)
  by_cases h30 : j = 30
  · subst h30
    exact zg_tabIn X dL_law_44 (off := 2131) (tgt := 2175) (by decide) (by decide) (by decide +kernel) (by decide) (lcase_30 X hfl hX hbl hbA hL hi hV hc hs k)
  by_cases h31 : j = 31
  · subst h31
    exact zg_tabIn X dL_law_44 (off := 2211) (tgt := 2255) (by decide) (by decide) (by decide +kernel) (by decide) (lcase_31 X hfl hX hbl hbA hL hi hV hc hs k)
  by_cases h32 : j = 32
  · subst h32
    exact zg_tabIn X dL_law_44 (off := 2267) (tgt := 2311) (by decide) (by decide) (by decide +kernel) (by decide) (lcase_32 X hfl hX hbl hbA hL hi hV hc hs k)
  by_cases h33 : j = 33
  · subst h33
    exact zg_tabIn X dL_law_44 (off := 2335) (tgt := 2379) (by decide) (by decide) (by decide +kernel) (by decide) (lcase_33 X hfl hX hbl hbA hL hi hV hc hs k)
  by_cases h34 : j = 34
  · subst h34
    exact zg_tabIn X dL_law_44 (off := 2391) (tgt := 2435) (by decide) (by decide) (by decide +kernel) (by decide) (lcase_34 X hfl hX hbl hbA hL hi hV hc hs k)
  by_cases h35 : j = 35
  · subst h35
    exact zg_tabIn X dL_law_44 (off := 2404) (tgt := 2448) (by decide) (by decide) (by decide +kernel) (by decide) (lcase_35 X hfl hX hbl hbA hL hi hV hc hs k)
  by_cases h36 : j = 36
  · subst h36
    exact zg_tabIn X dL_law_44 (off := 2460) (tgt := 2504) (by decide) (by decide) (by decide +kernel) (by decide) (lcase_36 X hfl hX hbl hbA hL hi hV hc hs k)
  by_cases h37 : j = 37
  · subst h37
    exact zg_tabIn X dL_law_44 (off := 2516) (tgt := 2560) (by decide) (by decide) (by decide +kernel) (by decide) (lcase_37 X hfl hX hbl hbA hL hi hV hc hs k)
  by_cases h38 : j = 38
  · subst h38
    exact zg_tabIn X dL_law_44 (off := 2572) (tgt := 2616) (by decide) (by decide) (by decide +kernel) (by decide) (lcase_38 X hfl hX hbl hbA hL hi hV hc hs k)
  by_cases h39 : j = 39
  · subst h39
    exact zg_tabIn X dL_law_44 (off := 2635) (tgt := 2679) (by decide) (by decide) (by decide +kernel) (by decide) (lcase_39 X hfl hX hbl hbA hL hi hV hc hs k)
  by_cases h40 : j = 40
  · subst h40
    exact zg_tabIn X dL_law_44 (off := 2648) (tgt := 2692) (by decide) (by decide) (by decide +kernel) (by decide) (lcase_40 X hfl hX hbl hbA hL hi hV hc hs k)
  by_cases h41 : j = 41
  · subst h41
    exact zg_tabIn X dL_law_44 (off := 2661) (tgt := 2705) (by decide) (by decide) (by decide +kernel) (by decide) (lcase_41 X hfl hX hbl hbA hL hi hV hc hs k)
  by_cases h42 : j = 42
  · subst h42
    exact zg_tabIn X dL_law_44 (off := 2674) (tgt := 2718) (by decide) (by decide) (by decide +kernel) (by decide) (lcase_42 X hfl hX hbl hbA hL hi hV hc hs k)
  by_cases h43 : j = 43
  · subst h43
    exact zg_tabIn X dL_law_44 (off := 2730) (tgt := 2774) (by decide) (by decide) (by decide +kernel) (by decide) (lcase_43 X hfl hX hbl hbA hL hi hV hc hs k)
  by_cases h44 : j = 44
  · subst h44
    exact zg_tabIn X dL_law_44 (off := 2786) (tgt := 2830) (by decide) (by decide) (by decide +kernel) (by decide) (lcase_44 X hfl hX hbl hbA hL hi hV hc hs k)
  by_cases h45 : j = 45
  · subst h45
    exact zg_tabIn X dL_law_44 (off := 2842) (tgt := 2886) (by decide) (by decide) (by decide +kernel) (by decide) (lcase_45 X hfl hX hbl hbA hL hi hV hc hs k)
  by_cases h46 : j = 46
  · subst h46
    exact zg_tabIn X dL_law_44 (off := 2898) (tgt := 2942) (by decide) (by decide) (by decide +kernel) (by decide) (lcase_46 X hfl hX hbl hbA hL hi hV hc hs k)
  by_cases h47 : j = 47
  · subst h47
    exact zg_tabIn X dL_law_44 (off := 2911) (tgt := 2955) (by decide) (by decide) (by decide +kernel) (by decide) (lcase_47 X hfl hX hbl hbA hL hi hV hc hs k)
  by_cases h48 : j = 48
  · subst h48
    exact zg_tabIn X dL_law_44 (off := 2967) (tgt := 3011) (by decide) (by decide) (by decide +kernel) (by decide) (lcase_48 X hfl hX hbl hbA hL hi hV hc hs k)
  by_cases h49 : j = 49
  · subst h49
    exact zg_tabIn X dL_law_44 (off := 3023) (tgt := 3067) (by decide) (by decide) (by decide +kernel) (by decide) (lcase_49 X hfl hX hbl hbA hL hi hV hc hs k)
  by_cases h50 : j = 50
  · subst h50
    exact zg_tabIn X dL_law_44 (off := 3079) (tgt := 3123) (by decide) (by decide) (by decide +kernel) (by decide) (lcase_50 X hfl hX hbl hbA hL hi hV hc hs k)
  by_cases h51 : j = 51
  · subst h51
    exact zg_tabIn X dL_law_44 (off := 3093) (tgt := 3137) (by decide) (by decide) (by decide +kernel) (by decide) (lcase_51 X hfl hX hbl hbA hL hi hV hc hs k)
  by_cases h52 : j = 52
  · subst h52
    exact zg_tabIn X dL_law_44 (off := 3159) (tgt := 3203) (by decide) (by decide) (by decide +kernel) (by decide) (lcase_52 X hfl hX hbl hbA hL hi hV hc hs k)
  have h64 : (nI j).toInt = j := nI_toInt (by omega)
  exact zg_tabOut X dL_law_44 (Or.inr (by rw [h64]; omega)) (tgt := 3268) (by decide) (zg_widen (by omega) (by omega) (k σ f g hV))
theorem lw_end {cells slots : Nat} {w : va_W} {lv : List (Nat × Value)} (X : zC p s m #[Value.ref b] meth c cL_law 9 (wsLR ++ lwH) RL D (zT T) A) (hr : meth.sig.returnType = ret) (hA : ∀ q, A q → s.heap.size ≤ q) (hc : cells ≤ 603072) (hs : slots ≤ 7215210) : zG p l e room_1 s m #[Value.ref b] below meth c D 9 A cells slots (lw_Z below #[Value.ref b] s) w 3274 lv [] := by
  refine zg_iconst X (v := 1) dL_law_3274 (by decide) (fun H locs ls hP hD hS hl => ?_)
  refine va_forget (fun q hq => hA _ (hS.2.2 q hq)) (W.widen hc hs (W.base ?_))
  exact lw_ret (Drawn.sameBut.refl s.drawn lw_cs) X.1 X.2.1 hr X.2.2.2.2.2.2.2.2 dL_law_3275
theorem lw_loop (X : zC p s m #[Value.ref b] meth c cL_law 9 (wsLR ++ lwH) RL D (zT T) A) (hfl : l.stackTraces = false) (hX : va_X b L xs s s.heap) (hbl : b < s.heap.size) (hbA : ¬ A b) (hL : L ≤ 2048) (hr : meth.sig.returnType = ret) (hA : ∀ q, A q → s.heap.size ≤ q) : ∀ (n i cells slots : Nat) (σ : ZS) (f : Nat → Int64) (g : Nat → UInt64), L < i + 4 * n + 4 → i ≤ 2048 → zV σ → cells + 4 * n ≤ 603072 → slots + 24 * n ≤ 7215210 → zG p l e room_1 s m #[Value.ref b] below meth c D 9 A cells slots (lw_Z below #[Value.ref b] s) (wL adC adM aL aD T σ σ f g) 28 (lw0 b adC adM aL aD i) [] := by
  intro n
  induction n with
  | zero =>
    intro i cells slots σ f g h1 hi hV hc hs
    exact lw_head X hfl hX hbl hbA hL hi (fun _ => lw_end X hr hA (by omega) (by omega)) (fun h => absurd h (by omega))
  | succ n ih =>
    intro i cells slots σ f g h1 hi hV hc hs
    refine lw_head X hfl hX hbl hbA hL hi (fun _ => lw_end X hr hA (by omega) (by omega)) (fun h4 => ?_)
    refine zg_aload_n X dL_law_37 rfl ?_
    refine zg_iload X dL_law_38 rfl ?_
    refine zg_sld X hX hbl hbA (i := i) (by omega) (by omega) dL_law_40 ?_
    refine zg_bipush X (v := 63) dL_law_41 (by decide) ?_
    refine zg_iand X dL_law_43 ?_
    obtain ⟨j, hj, ej⟩ := pk_andE (xs i) (m := 63) 6 (by decide)
    refine zg_top ej ?_
    refine lw_disp X hfl hX hbl hbA hL h4 hV (by omega) (by omega) (fun t f' g' hVt => ?_) (j := j) (by omega)
    refine zg_iinc X dL_law_3268 (by decide) rfl (v := nI (i + 4)) (lw_add i 4) ?_
    refine zg_goto X dL_law_3271 (tgt := 28) (by decide) ?_
    exact zg_lv (lv' := lw0 b adC adM aL aD (i + 4)) ⟨rfl, rfl, rfl, rfl, rfl, rfl, trivial⟩ (ih (i + 4) (cells + 4) (slots + 24) t f' g' (by omega) (by omega) hVt (by omega) (by omega))
end LL
