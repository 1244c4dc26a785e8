/-! The law's cases. -/
section LC
variable {p : Program} {l : Launch} {e : Env} {s : State} {m : MethodId} {b : Nat} {below : List Frame} {meth : Method} {c : Code} {D : va_G} {T : Nat → ClassId} {A : Nat → Prop} {cells slots : Nat} {Q : State → Prop} {adC adM : Nat → Nat} {aL aD : Nat} {σ : ZS} {f : Nat → Int64} {g : Nat → UInt64} {xs : Nat → Int32} {L i : Nat}
set_option maxHeartbeats 4000000 in
theorem lcase_42 (X : zC p s m #[Value.ref b] meth c cL_law 9 (wsLR ++ lwH) RL D (zT T) A) (hfl : l.stackTraces = false) (hX : va_X b L xs s s.heap) (hbl : b < s.heap.size) (hbA : ¬ A b) (hL : L ≤ 2048) (hi : i + 4 ≤ L) (hV : zV σ) (hc : cells + 4 ≤ 603072) (hs : slots + 24 ≤ 7215210) (k : ∀ (t : ZS) (f' : Nat → Int64) (g' : Nat → UInt64), zV t → zG p l e room_1 s m #[Value.ref b] below meth c D 9 A (cells + 4) (slots + 24) Q (wL adC adM aL aD T t t f' g') 3268 (lw0 b adC adM aL aD i) []) : zG p l e room_1 s m #[Value.ref b] below meth c D 9 A cells slots Q (wL adC adM aL aD T σ σ f g) 2718 (lw0 b adC adM aL aD i) [] := by
  refine zg_aload_n X dL_law_2718 rfl ?_
  refine zg_aload_n X dL_law_2719 rfl ?_
  refine zg_iload X dL_law_2720 rfl ?_
  refine zg_iconst X (v := nI 1) dL_law_2722 (by decide) ?_
  refine zg_iadd X dL_law_2723 ?_
  refine zg_top (lw_add i 1) ?_
  refine zg_sld X hX hbl hbA (i := i + 1) (by omega) (by omega) dL_law_2724 ?_
  refine zg_aload_n X dL_law_2725 rfl ?_
  refine zg_lawS X (k_L_grantOf l hfl D adC T σ hV (xs (i + 1)) aL f) (lh_S gL_law_L_grantOf) rfl rfl rfl qd_L_grantOf rfl ⟨Nat.le_of_ble_eq_true rfl, Nat.le_of_ble_eq_true rfl⟩ rfl (Nat.le_of_ble_eq_true rfl) ⟨by show _ ≤ 603072; omega, by show _ ≤ 7215210; omega⟩ dL_law_2726 (fun v u f1 hl => ?_)
  refine zg_istore X dL_law_2729 (by decide) ?_
  refine zg_aload_n X dL_law_2731 rfl ?_
  refine zg_aload_n X dL_law_2732 rfl ?_
  refine zg_iload X dL_law_2733 rfl ?_
  refine zg_iconst X (v := nI 1) dL_law_2735 (by decide) ?_
  refine zg_iadd X dL_law_2736 ?_
  refine zg_top (lw_add i 1) ?_
  refine zg_sld X hX hbl hbA (i := i + 1) (by omega) (by omega) dL_law_2737 ?_
  refine zg_lawMi X (k_X7_grantOf l D adM T σ hV.1.1.1 (xs (i + 1))) (lh_m gL_law_X7_grantOf) rfl rfl rfl qv_X7_grantOf rfl ⟨Nat.le_of_ble_eq_true rfl, Nat.le_of_ble_eq_true rfl⟩ rfl (Nat.le_of_ble_eq_true rfl) ⟨by show _ ≤ 603072; omega, by show _ ≤ 7215210; omega⟩ dL_law_2738 (fun b1 w1 h1 => ?_)
  obtain ⟨t1, hm, rfl⟩ := h1
  refine ⟨t1, rfl, ?_⟩
  obtain ⟨e8, hf0, hC0, hVt⟩ := lw_agree (by decide +kernel) (fun v0 s0 h => by rw [rd_grantOf h]; exact hV) hV hl hm
  have hCC : wC adC T u = wC adC T t1 := hC0 adC T
  refine zg_istore X dL_law_2741 (by decide) ?_
  refine zg_aload_n X dL_law_2743 rfl ?_
  refine zg_lawMi X (k_X7_thrown l D adM T t1) (lh_m gL_law_X7_thrown) rfl rfl rfl qv_X7_thrown rfl ⟨Nat.le_of_ble_eq_true rfl, Nat.le_of_ble_eq_true rfl⟩ rfl (Nat.le_of_ble_eq_true rfl) ⟨by show _ ≤ 603072; omega, by show _ ≤ 7215210; omega⟩ dL_law_2744 (fun b2 w2 h2 => ?_)
  obtain ⟨rfl, rfl⟩ := h2
  refine ⟨t1, rfl, ?_⟩
  refine zg_iload X dL_law_2747 rfl ?_
  refine zg_icmp_eq X dL_law_2749 (tgt := 2754) (by decide) (fun _ => ?_) (fun c9 => absurd e8 c9)
  refine zg_iload X dL_law_2754 rfl ?_
  refine zg_if_ne X dL_law_2756 (tgt := 2771) (by decide) (fun _ => ?_) (fun cv => ?_)
  · skip
    exact zg_goto X dL_law_2771 (tgt := 3268) (by decide) (lw_k ⟨rfl, rfl, rfl, rfl, rfl, rfl, trivial⟩ hCC (by omega) (by omega) (k t1 f1 g hVt))
  · skip
    refine zg_aload_n X dL_law_2759 rfl ?_
    refine zg_iconst X (v := 0) dL_law_2760 (by decide) ?_
    refine zg_lald X (q0 := 55) (t0 := 3) (n := 1) (f := f1) rfl rfl (vp_in_nI (n := 0) (N := 1) (by decide) (by decide)) dL_law_2761 ?_
    refine zg_iload X dL_law_2762 rfl ?_
    refine zg_i2l X dL_law_2764 ?_
    refine zg_lcmp X dL_law_2765 ?_
    refine zg_if_eq X dL_law_2766 (tgt := 2771) (by decide) (fun _ => ?_) (fun c9 => absurd (lw_cmp (hf0 cv)) c9)
    exact zg_goto X dL_law_2771 (tgt := 3268) (by decide) (lw_k ⟨rfl, rfl, rfl, rfl, rfl, rfl, trivial⟩ hCC (by omega) (by omega) (k t1 f1 g hVt))
set_option maxHeartbeats 4000000 in
theorem lcase_43 (X : zC p s m #[Value.ref b] meth c cL_law 9 (wsLR ++ lwH) RL D (zT T) A) (hfl : l.stackTraces = false) (hX : va_X b L xs s s.heap) (hbl : b < s.heap.size) (hbA : ¬ A b) (hL : L ≤ 2048) (hi : i + 4 ≤ L) (hV : zV σ) (hc : cells + 4 ≤ 603072) (hs : slots + 24 ≤ 7215210) (k : ∀ (t : ZS) (f' : Nat → Int64) (g' : Nat → UInt64), zV t → zG p l e room_1 s m #[Value.ref b] below meth c D 9 A (cells + 4) (slots + 24) Q (wL adC adM aL aD T t t f' g') 3268 (lw0 b adC adM aL aD i) []) : zG p l e room_1 s m #[Value.ref b] below meth c D 9 A cells slots Q (wL adC adM aL aD T σ σ f g) 2774 (lw0 b adC adM aL aD i) [] := by
  refine zg_aload_n X dL_law_2774 rfl ?_
  refine zg_aload_n X dL_law_2775 rfl ?_
  refine zg_iload X dL_law_2776 rfl ?_
  refine zg_iconst X (v := nI 1) dL_law_2778 (by decide) ?_
  refine zg_iadd X dL_law_2779 ?_
  refine zg_top (lw_add i 1) ?_
  refine zg_sld X hX hbl hbA (i := i + 1) (by omega) (by omega) dL_law_2780 ?_
  refine zg_aload_n X dL_law_2781 rfl ?_
  refine zg_lawS X (k_L_verdict l hfl D adC T σ hV (xs (i + 1)) aL f) (lh_S gL_law_L_verdict) rfl rfl rfl qd_L_verdict rfl ⟨Nat.le_of_ble_eq_true rfl, Nat.le_of_ble_eq_true rfl⟩ rfl (Nat.le_of_ble_eq_true rfl) ⟨by show _ ≤ 603072; omega, by show _ ≤ 7215210; omega⟩ dL_law_2782 (fun v u f1 hl => ?_)
  refine zg_istore X dL_law_2785 (by decide) ?_
  refine zg_aload_n X dL_law_2787 rfl ?_
  refine zg_aload_n X dL_law_2788 rfl ?_
  refine zg_iload X dL_law_2789 rfl ?_
  refine zg_iconst X (v := nI 1) dL_law_2791 (by decide) ?_
  refine zg_iadd X dL_law_2792 ?_
  refine zg_top (lw_add i 1) ?_
  refine zg_sld X hX hbl hbA (i := i + 1) (by omega) (by omega) dL_law_2793 ?_
  refine zg_lawMi X (k_X7_verdict l D adM T σ hV.1.1.1 (xs (i + 1)) hV.1.2.1) (lh_m gL_law_X7_verdict) rfl rfl rfl qv_X7_verdict rfl ⟨Nat.le_of_ble_eq_true rfl, Nat.le_of_ble_eq_true rfl⟩ rfl (Nat.le_of_ble_eq_true rfl) ⟨by show _ ≤ 603072; omega, by show _ ≤ 7215210; omega⟩ dL_law_2794 (fun b1 w1 h1 => ?_)
  obtain ⟨t1, hm, rfl⟩ := h1
  refine ⟨t1, rfl, ?_⟩
  obtain ⟨e8, hf0, hC0, hVt⟩ := lw_agree (by decide +kernel) (fun v0 s0 h => by rw [rd_verdict h]; exact hV) hV hl hm
  have hCC : wC adC T u = wC adC T t1 := hC0 adC T
  refine zg_istore X dL_law_2797 (by decide) ?_
  refine zg_aload_n X dL_law_2799 rfl ?_
  refine zg_lawMi X (k_X7_thrown l D adM T t1) (lh_m gL_law_X7_thrown) rfl rfl rfl qv_X7_thrown rfl ⟨Nat.le_of_ble_eq_true rfl, Nat.le_of_ble_eq_true rfl⟩ rfl (Nat.le_of_ble_eq_true rfl) ⟨by show _ ≤ 603072; omega, by show _ ≤ 7215210; omega⟩ dL_law_2800 (fun b2 w2 h2 => ?_)
  obtain ⟨rfl, rfl⟩ := h2
  refine ⟨t1, rfl, ?_⟩
  refine zg_iload X dL_law_2803 rfl ?_
  refine zg_icmp_eq X dL_law_2805 (tgt := 2810) (by decide) (fun _ => ?_) (fun c9 => absurd e8 c9)
  refine zg_iload X dL_law_2810 rfl ?_
  refine zg_if_ne X dL_law_2812 (tgt := 2827) (by decide) (fun _ => ?_) (fun cv => ?_)
  · skip
    exact zg_goto X dL_law_2827 (tgt := 3268) (by decide) (lw_k ⟨rfl, rfl, rfl, rfl, rfl, rfl, trivial⟩ hCC (by omega) (by omega) (k t1 f1 g hVt))
  · skip
    refine zg_aload_n X dL_law_2815 rfl ?_
    refine zg_iconst X (v := 0) dL_law_2816 (by decide) ?_
    refine zg_lald X (q0 := 55) (t0 := 3) (n := 1) (f := f1) rfl rfl (vp_in_nI (n := 0) (N := 1) (by decide) (by decide)) dL_law_2817 ?_
    refine zg_iload X dL_law_2818 rfl ?_
    refine zg_i2l X dL_law_2820 ?_
    refine zg_lcmp X dL_law_2821 ?_
    refine zg_if_eq X dL_law_2822 (tgt := 2827) (by decide) (fun _ => ?_) (fun c9 => absurd (lw_cmp (hf0 cv)) c9)
    exact zg_goto X dL_law_2827 (tgt := 3268) (by decide) (lw_k ⟨rfl, rfl, rfl, rfl, rfl, rfl, trivial⟩ hCC (by omega) (by omega) (k t1 f1 g hVt))
set_option maxHeartbeats 4000000 in
theorem lcase_44 (X : zC p s m #[Value.ref b] meth c cL_law 9 (wsLR ++ lwH) RL D (zT T) A) (hfl : l.stackTraces = false) (hX : va_X b L xs s s.heap) (hbl : b < s.heap.size) (hbA : ¬ A b) (hL : L ≤ 2048) (hi : i + 4 ≤ L) (hV : zV σ) (hc : cells + 4 ≤ 603072) (hs : slots + 24 ≤ 7215210) (k : ∀ (t : ZS) (f' : Nat → Int64) (g' : Nat → UInt64), zV t → zG p l e room_1 s m #[Value.ref b] below meth c D 9 A (cells + 4) (slots + 24) Q (wL adC adM aL aD T t t f' g') 3268 (lw0 b adC adM aL aD i) []) : zG p l e room_1 s m #[Value.ref b] below meth c D 9 A cells slots Q (wL adC adM aL aD T σ σ f g) 2830 (lw0 b adC adM aL aD i) [] := by
  refine zg_aload_n X dL_law_2830 rfl ?_
  refine zg_aload_n X dL_law_2831 rfl ?_
  refine zg_iload X dL_law_2832 rfl ?_
  refine zg_iconst X (v := nI 1) dL_law_2834 (by decide) ?_
  refine zg_iadd X dL_law_2835 ?_
  refine zg_top (lw_add i 1) ?_
  refine zg_sld X hX hbl hbA (i := i + 1) (by omega) (by omega) dL_law_2836 ?_
  refine zg_aload_n X dL_law_2837 rfl ?_
  refine zg_lawS X (k_L_decider l hfl D adC T σ hV (xs (i + 1)) aL f) (lh_S gL_law_L_decider) rfl rfl rfl qd_L_decider rfl ⟨Nat.le_of_ble_eq_true rfl, Nat.le_of_ble_eq_true rfl⟩ rfl (Nat.le_of_ble_eq_true rfl) ⟨by show _ ≤ 603072; omega, by show _ ≤ 7215210; omega⟩ dL_law_2838 (fun v u f1 hl => ?_)
  refine zg_istore X dL_law_2841 (by decide) ?_
  refine zg_aload_n X dL_law_2843 rfl ?_
  refine zg_aload_n X dL_law_2844 rfl ?_
  refine zg_iload X dL_law_2845 rfl ?_
  refine zg_iconst X (v := nI 1) dL_law_2847 (by decide) ?_
  refine zg_iadd X dL_law_2848 ?_
  refine zg_top (lw_add i 1) ?_
  refine zg_sld X hX hbl hbA (i := i + 1) (by omega) (by omega) dL_law_2849 ?_
  refine zg_lawMi X (k_X7_decider l D adM T σ hV.1.1.1 (xs (i + 1))) (lh_m gL_law_X7_decider) rfl rfl rfl qv_X7_decider rfl ⟨Nat.le_of_ble_eq_true rfl, Nat.le_of_ble_eq_true rfl⟩ rfl (Nat.le_of_ble_eq_true rfl) ⟨by show _ ≤ 603072; omega, by show _ ≤ 7215210; omega⟩ dL_law_2850 (fun b1 w1 h1 => ?_)
  obtain ⟨t1, hm, rfl⟩ := h1
  refine ⟨t1, rfl, ?_⟩
  obtain ⟨e8, hf0, hC0, hVt⟩ := lw_agree (by decide +kernel) (fun v0 s0 h => by rw [rd_decider h]; exact hV) hV hl hm
  have hCC : wC adC T u = wC adC T t1 := hC0 adC T
  refine zg_istore X dL_law_2853 (by decide) ?_
  refine zg_aload_n X dL_law_2855 rfl ?_
  refine zg_lawMi X (k_X7_thrown l D adM T t1) (lh_m gL_law_X7_thrown) rfl rfl rfl qv_X7_thrown rfl ⟨Nat.le_of_ble_eq_true rfl, Nat.le_of_ble_eq_true rfl⟩ rfl (Nat.le_of_ble_eq_true rfl) ⟨by show _ ≤ 603072; omega, by show _ ≤ 7215210; omega⟩ dL_law_2856 (fun b2 w2 h2 => ?_)
  obtain ⟨rfl, rfl⟩ := h2
  refine ⟨t1, rfl, ?_⟩
  refine zg_iload X dL_law_2859 rfl ?_
  refine zg_icmp_eq X dL_law_2861 (tgt := 2866) (by decide) (fun _ => ?_) (fun c9 => absurd e8 c9)
  refine zg_iload X dL_law_2866 rfl ?_
  refine zg_if_ne X dL_law_2868 (tgt := 2883) (by decide) (fun _ => ?_) (fun cv => ?_)
  · skip
    exact zg_goto X dL_law_2883 (tgt := 3268) (by decide) (lw_k ⟨rfl, rfl, rfl, rfl, rfl, rfl, trivial⟩ hCC (by omega) (by omega) (k t1 f1 g hVt))
  · skip
    refine zg_aload_n X dL_law_2871 rfl ?_
    refine zg_iconst X (v := 0) dL_law_2872 (by decide) ?_
    refine zg_lald X (q0 := 55) (t0 := 3) (n := 1) (f := f1) rfl rfl (vp_in_nI (n := 0) (N := 1) (by decide) (by decide)) dL_law_2873 ?_
    refine zg_iload X dL_law_2874 rfl ?_
    refine zg_i2l X dL_law_2876 ?_
    refine zg_lcmp X dL_law_2877 ?_
    refine zg_if_eq X dL_law_2878 (tgt := 2883) (by decide) (fun _ => ?_) (fun c9 => absurd (lw_cmp (hf0 cv)) c9)
    exact zg_goto X dL_law_2883 (tgt := 3268) (by decide) (lw_k ⟨rfl, rfl, rfl, rfl, rfl, rfl, trivial⟩ hCC (by omega) (by omega) (k t1 f1 g hVt))
set_option maxHeartbeats 4000000 in
theorem lcase_45 (X : zC p s m #[Value.ref b] meth c cL_law 9 (wsLR ++ lwH) RL D (zT T) A) (hfl : l.stackTraces = false) (hX : va_X b L xs s s.heap) (hbl : b < s.heap.size) (hbA : ¬ A b) (hL : L ≤ 2048) (hi : i + 4 ≤ L) (hV : zV σ) (hc : cells + 4 ≤ 603072) (hs : slots + 24 ≤ 7215210) (k : ∀ (t : ZS) (f' : Nat → Int64) (g' : Nat → UInt64), zV t → zG p l e room_1 s m #[Value.ref b] below meth c D 9 A (cells + 4) (slots + 24) Q (wL adC adM aL aD T t t f' g') 3268 (lw0 b adC adM aL aD i) []) : zG p l e room_1 s m #[Value.ref b] below meth c D 9 A cells slots Q (wL adC adM aL aD T σ σ f g) 2886 (lw0 b adC adM aL aD i) [] := by
  refine zg_aload_n X dL_law_2886 rfl ?_
  refine zg_aload_n X dL_law_2887 rfl ?_
  refine zg_iload X dL_law_2888 rfl ?_
  refine zg_iconst X (v := nI 1) dL_law_2890 (by decide) ?_
  refine zg_iadd X dL_law_2891 ?_
  refine zg_top (lw_add i 1) ?_
  refine zg_sld X hX hbl hbA (i := i + 1) (by omega) (by omega) dL_law_2892 ?_
  refine zg_aload_n X dL_law_2893 rfl ?_
  refine zg_lawS X (k_L_nextItem l hfl D adC T σ hV (xs (i + 1)) aL f) (lh_S gL_law_L_nextItem) rfl rfl rfl qd_L_nextItem rfl ⟨Nat.le_of_ble_eq_true rfl, Nat.le_of_ble_eq_true rfl⟩ rfl (Nat.le_of_ble_eq_true rfl) ⟨by show _ ≤ 603072; omega, by show _ ≤ 7215210; omega⟩ dL_law_2894 (fun v u f1 hl => ?_)
  refine zg_istore X dL_law_2897 (by decide) ?_
  refine zg_aload_n X dL_law_2899 rfl ?_
  refine zg_aload_n X dL_law_2900 rfl ?_
  refine zg_iload X dL_law_2901 rfl ?_
  refine zg_iconst X (v := nI 1) dL_law_2903 (by decide) ?_
  refine zg_iadd X dL_law_2904 ?_
  refine zg_top (lw_add i 1) ?_
  refine zg_sld X hX hbl hbA (i := i + 1) (by omega) (by omega) dL_law_2905 ?_
  refine zg_lawMi X (k_X7_nextItem l D adM T σ hV.1.1.1 (xs (i + 1))) (lh_m gL_law_X7_nextItem) rfl rfl rfl qv_X7_nextItem rfl ⟨Nat.le_of_ble_eq_true rfl, Nat.le_of_ble_eq_true rfl⟩ rfl (Nat.le_of_ble_eq_true rfl) ⟨by show _ ≤ 603072; omega, by show _ ≤ 7215210; omega⟩ dL_law_2906 (fun b1 w1 h1 => ?_)
  obtain ⟨t1, hm, rfl⟩ := h1
  refine ⟨t1, rfl, ?_⟩
  obtain ⟨e8, hf0, hC0, hVt⟩ := lw_agree (by decide +kernel) (fun v0 s0 h => by rw [rd_nextItem h]; exact hV) hV hl hm
  have hCC : wC adC T u = wC adC T t1 := hC0 adC T
  refine zg_istore X dL_law_2909 (by decide) ?_
  refine zg_aload_n X dL_law_2911 rfl ?_
  refine zg_lawMi X (k_X7_thrown l D adM T t1) (lh_m gL_law_X7_thrown) rfl rfl rfl qv_X7_thrown rfl ⟨Nat.le_of_ble_eq_true rfl, Nat.le_of_ble_eq_true rfl⟩ rfl (Nat.le_of_ble_eq_true rfl) ⟨by show _ ≤ 603072; omega, by show _ ≤ 7215210; omega⟩ dL_law_2912 (fun b2 w2 h2 => ?_)
  obtain ⟨rfl, rfl⟩ := h2
  refine ⟨t1, rfl, ?_⟩
  refine zg_iload X dL_law_2915 rfl ?_
  refine zg_icmp_eq X dL_law_2917 (tgt := 2922) (by decide) (fun _ => ?_) (fun c9 => absurd e8 c9)
  refine zg_iload X dL_law_2922 rfl ?_
  refine zg_if_ne X dL_law_2924 (tgt := 2939) (by decide) (fun _ => ?_) (fun cv => ?_)
  · skip
    exact zg_goto X dL_law_2939 (tgt := 3268) (by decide) (lw_k ⟨rfl, rfl, rfl, rfl, rfl, rfl, trivial⟩ hCC (by omega) (by omega) (k t1 f1 g hVt))
  · skip
    refine zg_aload_n X dL_law_2927 rfl ?_
    refine zg_iconst X (v := 0) dL_law_2928 (by decide) ?_
    refine zg_lald X (q0 := 55) (t0 := 3) (n := 1) (f := f1) rfl rfl (vp_in_nI (n := 0) (N := 1) (by decide) (by decide)) dL_law_2929 ?_
    refine zg_iload X dL_law_2930 rfl ?_
    refine zg_i2l X dL_law_2932 ?_
    refine zg_lcmp X dL_law_2933 ?_
    refine zg_if_eq X dL_law_2934 (tgt := 2939) (by decide) (fun _ => ?_) (fun c9 => absurd (lw_cmp (hf0 cv)) c9)
    exact zg_goto X dL_law_2939 (tgt := 3268) (by decide) (lw_k ⟨rfl, rfl, rfl, rfl, rfl, rfl, trivial⟩ hCC (by omega) (by omega) (k t1 f1 g hVt))
set_option maxHeartbeats 4000000 in
theorem lcase_46 (X : zC p s m #[Value.ref b] meth c cL_law 9 (wsLR ++ lwH) RL D (zT T) A) (hfl : l.stackTraces = false) (hX : va_X b L xs s s.heap) (hbl : b < s.heap.size) (hbA : ¬ A b) (hL : L ≤ 2048) (hi : i + 4 ≤ L) (hV : zV σ) (hc : cells + 4 ≤ 603072) (hs : slots + 24 ≤ 7215210) (k : ∀ (t : ZS) (f' : Nat → Int64) (g' : Nat → UInt64), zV t → zG p l e room_1 s m #[Value.ref b] below meth c D 9 A (cells + 4) (slots + 24) Q (wL adC adM aL aD T t t f' g') 3268 (lw0 b adC adM aL aD i) []) : zG p l e room_1 s m #[Value.ref b] below meth c D 9 A cells slots Q (wL adC adM aL aD T σ σ f g) 2942 (lw0 b adC adM aL aD i) [] := by
  refine zg_aload_n X dL_law_2942 rfl ?_
  refine zg_lawXi X (k_X6_entries l D adC T σ) (lh_m gL_law_X6_entries) rfl rfl rfl qv_X6_entries rfl ⟨Nat.le_of_ble_eq_true rfl, Nat.le_of_ble_eq_true rfl⟩ rfl (Nat.le_of_ble_eq_true rfl) ⟨by show _ ≤ 603072; omega, by show _ ≤ 7215210; omega⟩ dL_law_2943 ?_
  refine zg_aload_n X dL_law_2946 rfl ?_
  refine zg_lawMi X (k_X7_entries l D adM T σ) (lh_m gL_law_X7_entries) rfl rfl rfl qv_X7_entries rfl ⟨Nat.le_of_ble_eq_true rfl, Nat.le_of_ble_eq_true rfl⟩ rfl (Nat.le_of_ble_eq_true rfl) ⟨by show _ ≤ 603072; omega, by show _ ≤ 7215210; omega⟩ dL_law_2947 (fun b1 w1 h1 => ?_)
  obtain ⟨e1, rfl⟩ := h1
  refine ⟨uN σ 8 0, rfl, ?_⟩
  have hCC : wC adC T σ = wC adC T (uN σ 8 0) := (wC_ovl ovl_8).symm
  have hVt : zV (uN σ 8 0) := zV_ovl ovl_8 rfl hV
  exact zg_icmp_eq X dL_law_2950 (tgt := 3268) (by decide) (fun _ => lw_k ⟨rfl, rfl, rfl, rfl, rfl, rfl, trivial⟩ hCC (by omega) (by omega) (k (uN σ 8 0) f g hVt)) (fun c9 => absurd e1.symm c9)
set_option maxHeartbeats 4000000 in
theorem lcase_47 (X : zC p s m #[Value.ref b] meth c cL_law 9 (wsLR ++ lwH) RL D (zT T) A) (hfl : l.stackTraces = false) (hX : va_X b L xs s s.heap) (hbl : b < s.heap.size) (hbA : ¬ A b) (hL : L ≤ 2048) (hi : i + 4 ≤ L) (hV : zV σ) (hc : cells + 4 ≤ 603072) (hs : slots + 24 ≤ 7215210) (k : ∀ (t : ZS) (f' : Nat → Int64) (g' : Nat → UInt64), zV t → zG p l e room_1 s m #[Value.ref b] below meth c D 9 A (cells + 4) (slots + 24) Q (wL adC adM aL aD T t t f' g') 3268 (lw0 b adC adM aL aD i) []) : zG p l e room_1 s m #[Value.ref b] below meth c D 9 A cells slots Q (wL adC adM aL aD T σ σ f g) 2955 (lw0 b adC adM aL aD i) [] := by
  refine zg_aload_n X dL_law_2955 rfl ?_
  refine zg_aload_n X dL_law_2956 rfl ?_
  refine zg_iload X dL_law_2957 rfl ?_
  refine zg_iconst X (v := nI 1) dL_law_2959 (by decide) ?_
  refine zg_iadd X dL_law_2960 ?_
  refine zg_top (lw_add i 1) ?_
  refine zg_sld X hX hbl hbA (i := i + 1) (by omega) (by omega) dL_law_2961 ?_
  refine zg_aload_n X dL_law_2962 rfl ?_
  refine zg_lawS X (k_L_signAt l hfl D adC T σ hV (xs (i + 1)) aL f) (lh_S gL_law_L_signAt) rfl rfl rfl qd_L_signAt rfl ⟨Nat.le_of_ble_eq_true rfl, Nat.le_of_ble_eq_true rfl⟩ rfl (Nat.le_of_ble_eq_true rfl) ⟨by show _ ≤ 603072; omega, by show _ ≤ 7215210; omega⟩ dL_law_2963 (fun v u f1 hl => ?_)
  refine zg_istore X dL_law_2966 (by decide) ?_
  refine zg_aload_n X dL_law_2968 rfl ?_
  refine zg_aload_n X dL_law_2969 rfl ?_
  refine zg_iload X dL_law_2970 rfl ?_
  refine zg_iconst X (v := nI 1) dL_law_2972 (by decide) ?_
  refine zg_iadd X dL_law_2973 ?_
  refine zg_top (lw_add i 1) ?_
  refine zg_sld X hX hbl hbA (i := i + 1) (by omega) (by omega) dL_law_2974 ?_
  refine zg_lawMi X (k_X7_signAt l D adM T σ hV.1.1.1 (xs (i + 1)) hV.1.2.1) (lh_m gL_law_X7_signAt) rfl rfl rfl qv_X7_signAt rfl ⟨Nat.le_of_ble_eq_true rfl, Nat.le_of_ble_eq_true rfl⟩ rfl (Nat.le_of_ble_eq_true rfl) ⟨by show _ ≤ 603072; omega, by show _ ≤ 7215210; omega⟩ dL_law_2975 (fun b1 w1 h1 => ?_)
  obtain ⟨t1, hm, rfl⟩ := h1
  refine ⟨t1, rfl, ?_⟩
  obtain ⟨e8, hf0, hC0, hVt⟩ := lw_agree (by decide +kernel) (fun v0 s0 h => by rw [rd_signAt h]; exact hV) hV hl hm
  have hCC : wC adC T u = wC adC T t1 := hC0 adC T
  refine zg_istore X dL_law_2978 (by decide) ?_
  refine zg_aload_n X dL_law_2980 rfl ?_
  refine zg_lawMi X (k_X7_thrown l D adM T t1) (lh_m gL_law_X7_thrown) rfl rfl rfl qv_X7_thrown rfl ⟨Nat.le_of_ble_eq_true rfl, Nat.le_of_ble_eq_true rfl⟩ rfl (Nat.le_of_ble_eq_true rfl) ⟨by show _ ≤ 603072; omega, by show _ ≤ 7215210; omega⟩ dL_law_2981 (fun b2 w2 h2 => ?_)
  obtain ⟨rfl, rfl⟩ := h2
  refine ⟨t1, rfl, ?_⟩
  refine zg_iload X dL_law_2984 rfl ?_
  refine zg_icmp_eq X dL_law_2986 (tgt := 2991) (by decide) (fun _ => ?_) (fun c9 => absurd e8 c9)
  refine zg_iload X dL_law_2991 rfl ?_
  refine zg_if_ne X dL_law_2993 (tgt := 3008) (by decide) (fun _ => ?_) (fun cv => ?_)
  · skip
    exact zg_goto X dL_law_3008 (tgt := 3268) (by decide) (lw_k ⟨rfl, rfl, rfl, rfl, rfl, rfl, trivial⟩ hCC (by omega) (by omega) (k t1 f1 g hVt))
  · skip
    refine zg_aload_n X dL_law_2996 rfl ?_
    refine zg_iconst X (v := 0) dL_law_2997 (by decide) ?_
    refine zg_lald X (q0 := 55) (t0 := 3) (n := 1) (f := f1) rfl rfl (vp_in_nI (n := 0) (N := 1) (by decide) (by decide)) dL_law_2998 ?_
    refine zg_iload X dL_law_2999 rfl ?_
    refine zg_i2l X dL_law_3001 ?_
    refine zg_lcmp X dL_law_3002 ?_
    refine zg_if_eq X dL_law_3003 (tgt := 3008) (by decide) (fun _ => ?_) (fun c9 => absurd (lw_cmp (hf0 cv)) c9)
    exact zg_goto X dL_law_3008 (tgt := 3268) (by decide) (lw_k ⟨rfl, rfl, rfl, rfl, rfl, rfl, trivial⟩ hCC (by omega) (by omega) (k t1 f1 g hVt))
set_option maxHeartbeats 4000000 in
theorem lcase_48 (X : zC p s m #[Value.ref b] meth c cL_law 9 (wsLR ++ lwH) RL D (zT T) A) (hfl : l.stackTraces = false) (hX : va_X b L xs s s.heap) (hbl : b < s.heap.size) (hbA : ¬ A b) (hL : L ≤ 2048) (hi : i + 4 ≤ L) (hV : zV σ) (hc : cells + 4 ≤ 603072) (hs : slots + 24 ≤ 7215210) (k : ∀ (t : ZS) (f' : Nat → Int64) (g' : Nat → UInt64), zV t → zG p l e room_1 s m #[Value.ref b] below meth c D 9 A (cells + 4) (slots + 24) Q (wL adC adM aL aD T t t f' g') 3268 (lw0 b adC adM aL aD i) []) : zG p l e room_1 s m #[Value.ref b] below meth c D 9 A cells slots Q (wL adC adM aL aD T σ σ f g) 3011 (lw0 b adC adM aL aD i) [] := by
  refine zg_aload_n X dL_law_3011 rfl ?_
  refine zg_aload_n X dL_law_3012 rfl ?_
  refine zg_iload X dL_law_3013 rfl ?_
  refine zg_iconst X (v := nI 1) dL_law_3015 (by decide) ?_
  refine zg_iadd X dL_law_3016 ?_
  refine zg_top (lw_add i 1) ?_
  refine zg_sld X hX hbl hbA (i := i + 1) (by omega) (by omega) dL_law_3017 ?_
  refine zg_aload_n X dL_law_3018 rfl ?_
  refine zg_lawS X (k_L_sealAt l hfl D adC T σ hV (xs (i + 1)) aL f) (lh_S gL_law_L_sealAt) rfl rfl rfl qd_L_sealAt rfl ⟨Nat.le_of_ble_eq_true rfl, Nat.le_of_ble_eq_true rfl⟩ rfl (Nat.le_of_ble_eq_true rfl) ⟨by show _ ≤ 603072; omega, by show _ ≤ 7215210; omega⟩ dL_law_3019 (fun v u f1 hl => ?_)
  refine zg_istore X dL_law_3022 (by decide) ?_
  refine zg_aload_n X dL_law_3024 rfl ?_
  refine zg_aload_n X dL_law_3025 rfl ?_
  refine zg_iload X dL_law_3026 rfl ?_
  refine zg_iconst X (v := nI 1) dL_law_3028 (by decide) ?_
  refine zg_iadd X dL_law_3029 ?_
  refine zg_top (lw_add i 1) ?_
  refine zg_sld X hX hbl hbA (i := i + 1) (by omega) (by omega) dL_law_3030 ?_
  refine zg_lawMi X (k_X7_sealAt l D adM T σ hV.1.1.1 (xs (i + 1))) (lh_m gL_law_X7_sealAt) rfl rfl rfl qv_X7_sealAt rfl ⟨Nat.le_of_ble_eq_true rfl, Nat.le_of_ble_eq_true rfl⟩ rfl (Nat.le_of_ble_eq_true rfl) ⟨by show _ ≤ 603072; omega, by show _ ≤ 7215210; omega⟩ dL_law_3031 (fun b1 w1 h1 => ?_)
  obtain ⟨t1, hm, rfl⟩ := h1
  refine ⟨t1, rfl, ?_⟩
  obtain ⟨e8, hf0, hC0, hVt⟩ := lw_agree (by decide +kernel) (fun v0 s0 h => by rw [rd_sealAt h]; exact hV) hV hl hm
  have hCC : wC adC T u = wC adC T t1 := hC0 adC T
  refine zg_istore X dL_law_3034 (by decide) ?_
  refine zg_aload_n X dL_law_3036 rfl ?_
  refine zg_lawMi X (k_X7_thrown l D adM T t1) (lh_m gL_law_X7_thrown) rfl rfl rfl qv_X7_thrown rfl ⟨Nat.le_of_ble_eq_true rfl, Nat.le_of_ble_eq_true rfl⟩ rfl (Nat.le_of_ble_eq_true rfl) ⟨by show _ ≤ 603072; omega, by show _ ≤ 7215210; omega⟩ dL_law_3037 (fun b2 w2 h2 => ?_)
  obtain ⟨rfl, rfl⟩ := h2
  refine ⟨t1, rfl, ?_⟩
  refine zg_iload X dL_law_3040 rfl ?_
  refine zg_icmp_eq X dL_law_3042 (tgt := 3047) (by decide) (fun _ => ?_) (fun c9 => absurd e8 c9)
  refine zg_iload X dL_law_3047 rfl ?_
  refine zg_if_ne X dL_law_3049 (tgt := 3064) (by decide) (fun _ => ?_) (fun cv => ?_)
  · skip
    exact zg_goto X dL_law_3064 (tgt := 3268) (by decide) (lw_k ⟨rfl, rfl, rfl, rfl, rfl, rfl, trivial⟩ hCC (by omega) (by omega) (k t1 f1 g hVt))
  · skip
    refine zg_aload_n X dL_law_3052 rfl ?_
    refine zg_iconst X (v := 0) dL_law_3053 (by decide) ?_
    refine zg_lald X (q0 := 55) (t0 := 3) (n := 1) (f := f1) rfl rfl (vp_in_nI (n := 0) (N := 1) (by decide) (by decide)) dL_law_3054 ?_
    refine zg_iload X dL_law_3055 rfl ?_
    refine zg_i2l X dL_law_3057 ?_
    refine zg_lcmp X dL_law_3058 ?_
    refine zg_if_eq X dL_law_3059 (tgt := 3064) (by decide) (fun _ => ?_) (fun c9 => absurd (lw_cmp (hf0 cv)) c9)
    exact zg_goto X dL_law_3064 (tgt := 3268) (by decide) (lw_k ⟨rfl, rfl, rfl, rfl, rfl, rfl, trivial⟩ hCC (by omega) (by omega) (k t1 f1 g hVt))
set_option maxHeartbeats 4000000 in
theorem lcase_49 (X : zC p s m #[Value.ref b] meth c cL_law 9 (wsLR ++ lwH) RL D (zT T) A) (hfl : l.stackTraces = false) (hX : va_X b L xs s s.heap) (hbl : b < s.heap.size) (hbA : ¬ A b) (hL : L ≤ 2048) (hi : i + 4 ≤ L) (hV : zV σ) (hc : cells + 4 ≤ 603072) (hs : slots + 24 ≤ 7215210) (k : ∀ (t : ZS) (f' : Nat → Int64) (g' : Nat → UInt64), zV t → zG p l e room_1 s m #[Value.ref b] below meth c D 9 A (cells + 4) (slots + 24) Q (wL adC adM aL aD T t t f' g') 3268 (lw0 b adC adM aL aD i) []) : zG p l e room_1 s m #[Value.ref b] below meth c D 9 A cells slots Q (wL adC adM aL aD T σ σ f g) 3067 (lw0 b adC adM aL aD i) [] := by
  refine zg_aload_n X dL_law_3067 rfl ?_
  refine zg_aload_n X dL_law_3068 rfl ?_
  refine zg_iload X dL_law_3069 rfl ?_
  refine zg_iconst X (v := nI 1) dL_law_3071 (by decide) ?_
  refine zg_iadd X dL_law_3072 ?_
  refine zg_top (lw_add i 1) ?_
  refine zg_sld X hX hbl hbA (i := i + 1) (by omega) (by omega) dL_law_3073 ?_
  refine zg_aload_n X dL_law_3074 rfl ?_
  refine zg_lawS X (k_L_sealByReplay l hfl D adC T σ hV (xs (i + 1)) aL f) (lh_S gL_law_L_sealByReplay) rfl rfl rfl qd_L_sealByReplay rfl ⟨Nat.le_of_ble_eq_true rfl, Nat.le_of_ble_eq_true rfl⟩ rfl (Nat.le_of_ble_eq_true rfl) ⟨by show _ ≤ 603072; omega, by show _ ≤ 7215210; omega⟩ dL_law_3075 (fun v u f1 hl => ?_)
  refine zg_istore X dL_law_3078 (by decide) ?_
  refine zg_aload_n X dL_law_3080 rfl ?_
  refine zg_aload_n X dL_law_3081 rfl ?_
  refine zg_iload X dL_law_3082 rfl ?_
  refine zg_iconst X (v := nI 1) dL_law_3084 (by decide) ?_
  refine zg_iadd X dL_law_3085 ?_
  refine zg_top (lw_add i 1) ?_
  refine zg_sld X hX hbl hbA (i := i + 1) (by omega) (by omega) dL_law_3086 ?_
  refine zg_lawMi X (k_X7_sealByReplay l D adM T σ hV.1.1.1 (xs (i + 1)) hV.1.2.2.1) (lh_m gL_law_X7_sealByReplay) rfl rfl rfl qv_X7_sealByReplay rfl ⟨Nat.le_of_ble_eq_true rfl, Nat.le_of_ble_eq_true rfl⟩ rfl (Nat.le_of_ble_eq_true rfl) ⟨by show _ ≤ 603072; omega, by show _ ≤ 7215210; omega⟩ dL_law_3087 (fun b1 w1 h1 => ?_)
  obtain ⟨t1, hm, rfl⟩ := h1
  refine ⟨t1, rfl, ?_⟩
  obtain ⟨e8, hf0, hC0, hVt⟩ := lw_agree (by decide +kernel) (fun v0 s0 h => by rw [rd_sealByReplay h]; exact hV) hV hl hm
  have hCC : wC adC T u = wC adC T t1 := hC0 adC T
  refine zg_istore X dL_law_3090 (by decide) ?_
  refine zg_aload_n X dL_law_3092 rfl ?_
  refine zg_lawMi X (k_X7_thrown l D adM T t1) (lh_m gL_law_X7_thrown) rfl rfl rfl qv_X7_thrown rfl ⟨Nat.le_of_ble_eq_true rfl, Nat.le_of_ble_eq_true rfl⟩ rfl (Nat.le_of_ble_eq_true rfl) ⟨by show _ ≤ 603072; omega, by show _ ≤ 7215210; omega⟩ dL_law_3093 (fun b2 w2 h2 => ?_)
  obtain ⟨rfl, rfl⟩ := h2
  refine ⟨t1, rfl, ?_⟩
  refine zg_iload X dL_law_3096 rfl ?_
  refine zg_icmp_eq X dL_law_3098 (tgt := 3103) (by decide) (fun _ => ?_) (fun c9 => absurd e8 c9)
  refine zg_iload X dL_law_3103 rfl ?_
  refine zg_if_ne X dL_law_3105 (tgt := 3120) (by decide) (fun _ => ?_) (fun cv => ?_)
  · skip
    exact zg_goto X dL_law_3120 (tgt := 3268) (by decide) (lw_k ⟨rfl, rfl, rfl, rfl, rfl, rfl, trivial⟩ hCC (by omega) (by omega) (k t1 f1 g hVt))
  · skip
    refine zg_aload_n X dL_law_3108 rfl ?_
    refine zg_iconst X (v := 0) dL_law_3109 (by decide) ?_
    refine zg_lald X (q0 := 55) (t0 := 3) (n := 1) (f := f1) rfl rfl (vp_in_nI (n := 0) (N := 1) (by decide) (by decide)) dL_law_3110 ?_
    refine zg_iload X dL_law_3111 rfl ?_
    refine zg_i2l X dL_law_3113 ?_
    refine zg_lcmp X dL_law_3114 ?_
    refine zg_if_eq X dL_law_3115 (tgt := 3120) (by decide) (fun _ => ?_) (fun c9 => absurd (lw_cmp (hf0 cv)) c9)
    exact zg_goto X dL_law_3120 (tgt := 3268) (by decide) (lw_k ⟨rfl, rfl, rfl, rfl, rfl, rfl, trivial⟩ hCC (by omega) (by omega) (k t1 f1 g hVt))
set_option maxHeartbeats 4000000 in
theorem lcase_50 (X : zC p s m #[Value.ref b] meth c cL_law 9 (wsLR ++ lwH) RL D (zT T) A) (hfl : l.stackTraces = false) (hX : va_X b L xs s s.heap) (hbl : b < s.heap.size) (hbA : ¬ A b) (hL : L ≤ 2048) (hi : i + 4 ≤ L) (hV : zV σ) (hc : cells + 4 ≤ 603072) (hs : slots + 24 ≤ 7215210) (k : ∀ (t : ZS) (f' : Nat → Int64) (g' : Nat → UInt64), zV t → zG p l e room_1 s m #[Value.ref b] below meth c D 9 A (cells + 4) (slots + 24) Q (wL adC adM aL aD T t t f' g') 3268 (lw0 b adC adM aL aD i) []) : zG p l e room_1 s m #[Value.ref b] below meth c D 9 A cells slots Q (wL adC adM aL aD T σ σ f g) 3123 (lw0 b adC adM aL aD i) [] := by
  refine zg_aload_n X dL_law_3123 rfl ?_
  refine zg_lawXl X (k_X6_trace l D adC T σ hV.1.1.1) (lh_m gL_law_X6_trace) rfl rfl rfl qv_X6_trace rfl ⟨Nat.le_of_ble_eq_true rfl, Nat.le_of_ble_eq_true rfl⟩ rfl (Nat.le_of_ble_eq_true rfl) ⟨by show _ ≤ 603072; omega, by show _ ≤ 7215210; omega⟩ dL_law_3124 ?_
  refine zg_aload_n X dL_law_3127 rfl ?_
  refine zg_lawMl X (k_X7_trace l D adM T σ hV.1.1.1) (lh_m gL_law_X7_trace) rfl rfl rfl qv_X7_trace rfl ⟨Nat.le_of_ble_eq_true rfl, Nat.le_of_ble_eq_true rfl⟩ rfl (Nat.le_of_ble_eq_true rfl) ⟨by show _ ≤ 603072; omega, by show _ ≤ 7215210; omega⟩ dL_law_3128 (fun b1 w1 h1 => ?_)
  obtain ⟨e1, rfl⟩ := h1
  refine ⟨uN σ 8 0, rfl, ?_⟩
  have hCC : wC adC T σ = wC adC T (uN σ 8 0) := (wC_ovl ovl_8).symm
  have hVt : zV (uN σ 8 0) := zV_ovl ovl_8 rfl hV
  refine zg_lcmp X dL_law_3131 ?_
  exact zg_if_eq X dL_law_3132 (tgt := 3268) (by decide) (fun _ => lw_k ⟨rfl, rfl, rfl, rfl, rfl, rfl, trivial⟩ hCC (by omega) (by omega) (k (uN σ 8 0) f g hVt)) (fun c9 => absurd (lw_cmp e1.symm) c9)
set_option maxHeartbeats 4000000 in
theorem lcase_51 (X : zC p s m #[Value.ref b] meth c cL_law 9 (wsLR ++ lwH) RL D (zT T) A) (hfl : l.stackTraces = false) (hX : va_X b L xs s s.heap) (hbl : b < s.heap.size) (hbA : ¬ A b) (hL : L ≤ 2048) (hi : i + 4 ≤ L) (hV : zV σ) (hc : cells + 4 ≤ 603072) (hs : slots + 24 ≤ 7215210) (k : ∀ (t : ZS) (f' : Nat → Int64) (g' : Nat → UInt64), zV t → zG p l e room_1 s m #[Value.ref b] below meth c D 9 A (cells + 4) (slots + 24) Q (wL adC adM aL aD T t t f' g') 3268 (lw0 b adC adM aL aD i) []) : zG p l e room_1 s m #[Value.ref b] below meth c D 9 A cells slots Q (wL adC adM aL aD T σ σ f g) 3137 (lw0 b adC adM aL aD i) [] := by
  refine zg_aload_n X dL_law_3137 rfl ?_
  refine zg_aload X dL_law_3138 rfl ?_
  refine zg_lawSd X (k_L_revokedShare l hfl D adC T σ hV aD g) (lh_S gL_law_L_revokedShare) rfl rfl rfl qd_L_revokedShare rfl ⟨Nat.le_of_ble_eq_true rfl, Nat.le_of_ble_eq_true rfl⟩ rfl (Nat.le_of_ble_eq_true rfl) ⟨by show _ ≤ 603072; omega, by show _ ≤ 7215210; omega⟩ dL_law_3140 (fun v u g1 hl => ?_)
  refine zg_istore X dL_law_3143 (by decide) ?_
  refine zg_aload_n X dL_law_3145 rfl ?_
  refine zg_lawMf X (k_X7_revokedShare l D adM T σ hV.1.1.1) (lh_m gL_law_X7_revokedShare) rfl rfl rfl qv_X7_revokedShare rfl ⟨Nat.le_of_ble_eq_true rfl, Nat.le_of_ble_eq_true rfl⟩ rfl (Nat.le_of_ble_eq_true rfl) ⟨by show _ ≤ 603072; omega, by show _ ≤ 7215210; omega⟩ dL_law_3146 (fun b1 w1 h1 => ?_)
  obtain ⟨t1, hm, rfl⟩ := h1
  refine ⟨t1, rfl, ?_⟩
  obtain ⟨e8, hf0, hC0, hVt⟩ := lw_agreeD hV hl hm
  have hCC : wC adC T u = wC adC T t1 := hC0 adC T
  refine zg_fstore X dL_law_3149 (by decide) ?_
  refine zg_aload_n X dL_law_3151 rfl ?_
  refine zg_lawMi X (k_X7_thrown l D adM T t1) (lh_m gL_law_X7_thrown) rfl rfl rfl qv_X7_thrown rfl ⟨Nat.le_of_ble_eq_true rfl, Nat.le_of_ble_eq_true rfl⟩ rfl (Nat.le_of_ble_eq_true rfl) ⟨by show _ ≤ 603072; omega, by show _ ≤ 7215210; omega⟩ dL_law_3152 (fun b2 w2 h2 => ?_)
  obtain ⟨rfl, rfl⟩ := h2
  refine ⟨t1, rfl, ?_⟩
  refine zg_iload X dL_law_3155 rfl ?_
  refine zg_icmp_eq X dL_law_3157 (tgt := 3162) (by decide) (fun _ => ?_) (fun c9 => absurd e8 c9)
  refine zg_iload X dL_law_3162 rfl ?_
  refine zg_if_ne X dL_law_3164 (tgt := 3200) (by decide) (fun _ => ?_) (fun cv => ?_)
  · skip
    exact zg_goto X dL_law_3200 (tgt := 3268) (by decide) (lw_k ⟨rfl, rfl, rfl, rfl, rfl, rfl, trivial⟩ hCC (by omega) (by omega) (k t1 f g1 hVt))
  · skip
    refine zg_aload X dL_law_3167 rfl ?_
    refine zg_iconst X (v := 0) dL_law_3169 (by decide) ?_
    refine zg_dald X (q0 := 56) (t0 := 4) (n := 1) (f := g1) rfl rfl (vp_in_nI (n := 0) (N := 1) (by decide) (by decide)) dL_law_3170 ?_
    obtain ⟨hg0, hr0⟩ := hf0 cv
    refine zg_fload X dL_law_3171 rfl ?_
    refine zg_f2d X (fl_n64 (fl_f2d (rsh_nn hr0))) dL_law_3173 ?_
    refine zg_dcmp X dL_law_3174 ?_
    refine zg_if_eq X dL_law_3175 (tgt := 3200) (by decide) (fun _ => ?_) (fun c9 => absurd (lw_dcmp (hg0 : g1 0 = FP.f2d b1) (fl_f2d (rsh_nn hr0))) c9)
    exact zg_goto X dL_law_3200 (tgt := 3268) (by decide) (lw_k ⟨rfl, rfl, rfl, rfl, rfl, rfl, trivial⟩ hCC (by omega) (by omega) (k t1 f g1 hVt))
set_option maxHeartbeats 4000000 in
theorem lcase_52 (X : zC p s m #[Value.ref b] meth c cL_law 9 (wsLR ++ lwH) RL D (zT T) A) (hfl : l.stackTraces = false) (hX : va_X b L xs s s.heap) (hbl : b < s.heap.size) (hbA : ¬ A b) (hL : L ≤ 2048) (hi : i + 4 ≤ L) (hV : zV σ) (hc : cells + 4 ≤ 603072) (hs : slots + 24 ≤ 7215210) (k : ∀ (t : ZS) (f' : Nat → Int64) (g' : Nat → UInt64), zV t → zG p l e room_1 s m #[Value.ref b] below meth c D 9 A (cells + 4) (slots + 24) Q (wL adC adM aL aD T t t f' g') 3268 (lw0 b adC adM aL aD i) []) : zG p l e room_1 s m #[Value.ref b] below meth c D 9 A cells slots Q (wL adC adM aL aD T σ σ f g) 3203 (lw0 b adC adM aL aD i) [] := by
  refine zg_aload_n X dL_law_3203 rfl ?_
  refine zg_aload X dL_law_3204 rfl ?_
  refine zg_lawSd X (k_L_meanRisk l hfl D adC T σ hV aD g) (lh_S gL_law_L_meanRisk) rfl rfl rfl qd_L_meanRisk rfl ⟨Nat.le_of_ble_eq_true rfl, Nat.le_of_ble_eq_true rfl⟩ rfl (Nat.le_of_ble_eq_true rfl) ⟨by show _ ≤ 603072; omega, by show _ ≤ 7215210; omega⟩ dL_law_3206 (fun v u g1 hl => ?_)
  refine zg_istore X dL_law_3209 (by decide) ?_
  refine zg_aload_n X dL_law_3211 rfl ?_
  refine zg_lawMd X (k_X7_meanRisk l D adM T σ hV.1.1.1) (lh_m gL_law_X7_meanRisk) rfl rfl rfl qv_X7_meanRisk rfl ⟨Nat.le_of_ble_eq_true rfl, Nat.le_of_ble_eq_true rfl⟩ rfl (Nat.le_of_ble_eq_true rfl) ⟨by show _ ≤ 603072; omega, by show _ ≤ 7215210; omega⟩ dL_law_3212 (fun b1 w1 h1 => ?_)
  obtain ⟨t1, hm, rfl⟩ := h1
  refine ⟨t1, rfl, ?_⟩
  obtain ⟨e8, hf0, hC0, hVt⟩ := lw_agreeD hV hl hm
  have hCC : wC adC T u = wC adC T t1 := hC0 adC T
  refine zg_dstore X dL_law_3215 (by decide) ?_
  refine zg_aload_n X dL_law_3217 rfl ?_
  refine zg_lawMi X (k_X7_thrown l D adM T t1) (lh_m gL_law_X7_thrown) rfl rfl rfl qv_X7_thrown rfl ⟨Nat.le_of_ble_eq_true rfl, Nat.le_of_ble_eq_true rfl⟩ rfl (Nat.le_of_ble_eq_true rfl) ⟨by show _ ≤ 603072; omega, by show _ ≤ 7215210; omega⟩ dL_law_3218 (fun b2 w2 h2 => ?_)
  obtain ⟨rfl, rfl⟩ := h2
  refine ⟨t1, rfl, ?_⟩
  refine zg_iload X dL_law_3221 rfl ?_
  refine zg_icmp_eq X dL_law_3223 (tgt := 3228) (by decide) (fun _ => ?_) (fun c9 => absurd e8 c9)
  refine zg_iload X dL_law_3228 rfl ?_
  refine zg_if_ne X dL_law_3230 (tgt := 3265) (by decide) (fun _ => ?_) (fun cv => ?_)
  · skip
    exact zg_goto X dL_law_3265 (tgt := 3268) (by decide) (lw_k ⟨rfl, rfl, rfl, rfl, rfl, rfl, trivial⟩ hCC (by omega) (by omega) (k t1 f g1 hVt))
  · skip
    refine zg_aload X dL_law_3233 rfl ?_
    refine zg_iconst X (v := 0) dL_law_3235 (by decide) ?_
    refine zg_dald X (q0 := 56) (t0 := 4) (n := 1) (f := g1) rfl rfl (vp_in_nI (n := 0) (N := 1) (by decide) (by decide)) dL_law_3236 ?_
    obtain ⟨hg0, hr0⟩ := hf0 cv
    refine zg_dload X dL_law_3237 rfl ?_
    refine zg_dcmp X dL_law_3239 ?_
    refine zg_if_eq X dL_law_3240 (tgt := 3265) (by decide) (fun _ => ?_) (fun c9 => absurd (lw_dcmp (hg0 : g1 0 = b1) (mrk_nn hV.1.1.1 hr0)) c9)
    exact zg_goto X dL_law_3265 (tgt := 3268) (by decide) (lw_k ⟨rfl, rfl, rfl, rfl, rfl, rfl, trivial⟩ hCC (by omega) (by omega) (k t1 f g1 hVt))
end LC
