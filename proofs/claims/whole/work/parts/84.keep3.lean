/-! What holds all along, kept by the calls that add groups, change members, nest; at the start. -/
theorem zI_sm {σ : ZS} (hI : zI σ) {acc : Int32} {n : Nat} (hn : n ≤ σ.1 1) (h : zSm acc (σ.1 1)) : zSm (fN (belowF σ) acc n) (σ.1 1) := by
  have hb := hI.bd.2.1
  refine fN_ind (P := fun x => zSm x (σ.1 1)) h (fun i x hi hx => ?_)
  unfold belowF
  split
  · exact zSm_or hx (hI.nst i (by omega))
  · exact hx
/-- a group more: those that there were have below them what they had -/
theorem ag_bl {σ : ZS} (hI : zI σ) (h8 : ¬ σ.1 1 = 8) {f : Nat → Int32} {g : Nat} (hg : g < σ.1 1) : ∀ m, fN (fun _ acc => belowR (uC (uA σ 3 f) 1 (σ.1 1 + 1)) acc) (bt1 g) m = bl σ g m
  | 0 => rfl
  | m + 1 => by
    have b1 := hI.bd.2.1
    rw [fN_s, ag_bl hI h8 hg m, bl_s]
    show belowF σ (σ.1 1) (fN (belowF σ) (bl σ g m) (σ.1 1)) = fN (belowF σ) (bl σ g m) (σ.1 1)
    exact if_neg (fun q => zI_sm hI (Nat.le_refl _) (bl_sm hI hg m) (σ.1 1) (Nat.le_refl _) (by omega) q)
theorem ag_below {σ : ZS} (hI : zI σ) (h8 : ¬ σ.1 1 = 8) {f : Nat → Int32} {g : Nat} (hg : g < σ.1 1) : belowI (uC (uA σ 3 f) 1 (σ.1 1 + 1)) g = belowI σ g := (ag_bl hI h8 hg (σ.1 1)).trans (bl_fix hI hg)
theorem ag_new {σ : ZS} (hI : zI σ) (h8 : ¬ σ.1 1 = 8) {f : Nat → Int32} : belowI (uC (uA σ 3 f) 1 (σ.1 1 + 1)) (σ.1 1) = bt1 (σ.1 1) := by
  have b1 := hI.bd.2.1
  have h5 := (hI.new (σ.1 1) (Nat.le_refl _) (by omega)).2.1
  have hr : belowR (uC (uA σ 3 f) 1 (σ.1 1 + 1)) (bt1 (σ.1 1)) = bt1 (σ.1 1) := by
    refine fN_ind (f := belowF σ) (n := σ.1 1 + 1) (P := fun x => x = bt1 (σ.1 1)) rfl (fun i x hi hx => ?_)
    subst hx
    unfold belowF
    by_cases e : i = σ.1 1
    · rw [e, h5, or0]
      split <;> rfl
    · rw [if_neg (fun q => e ((hB_bt1 (by omega) (by omega)).mp q).symm)]
  exact fN_ind (P := fun x => x = bt1 (σ.1 1)) rfl (fun i x _ hx => by
    show belowR _ x = _
    rw [hx]
    exact hr)
theorem zV_addGroup {σ s : ZS} {x v : Int32} (hV : zV σ) (h : sp_addGroup σ x = .inr (v, s)) : zV s := by
  unfold sp_addGroup at h
  by_cases h1 : pIn x (σ.1 0)
  · rw [if_pos h1] at h
    by_cases h2 : σ.1 1 = 8
    · rw [if_pos h2] at h; cases h
    · rw [if_neg h2] at h
      cases h
      obtain ⟨⟨⟨hI, hU, hR⟩, hK, hE, hQ⟩, hO⟩ := hV
      obtain ⟨b0, b1, b2, b3, b4, b5⟩ := hI.bd
      have hx := pIn_idx (by omega) h1
      refine ⟨⟨⟨⟨⟨b0, ?_, b2, b3, b4, b5⟩, hI.mgr, hI.sub, ?_, hI.rOw, hI.gRt, ?_, hI.itm, hI.abs, hI.dir, hI.den, ?_, ?_, ?_, ?_⟩, hU, hR⟩, hK, hE, hQ⟩, hO⟩
      · show σ.1 1 + 1 ≤ 8
        omega
      · exact upd_c (P := fun _ x => zIdx x (σ.1 0)) hI.gOw hx
      · intro g hg
        rcases hI.tgt g hg with ⟨j, hj, q⟩ | ⟨j, hj, q⟩
        · exact Or.inl ⟨j, hj, q⟩
        · exact Or.inr ⟨j, Nat.lt_succ_of_lt hj, q⟩
      · exact fun g hg => zSm_mono (hI.nst g hg) (Nat.le_succ _)
      · exact fun g hg h8 => hI.new g (Nat.le_of_succ_le hg) h8
      · intro g k hg hk h5
        have hg : g < σ.1 1 + 1 := hg
        have hk : k < σ.1 1 + 1 := hk
        have h5 : hB (σ.2.2 5 g) k := h5
        have hg2 : g < σ.1 1 := by
          rcases Nat.lt_succ_iff_lt_or_eq.mp hg with z | z
          · exact z
          · rw [z, (hI.new (σ.1 1) (Nat.le_refl _) (by omega)).2.1] at h5
            exact absurd h5 (hB_0 (by omega))
        have hk2 : k < σ.1 1 := by
          rcases Nat.lt_succ_iff_lt_or_eq.mp hk with z | z
          · exact z
          · exact absurd h5 (hI.nst g (by omega) k (by omega) (by omega))
        rw [ag_below hI h2 hk2]
        exact hI.acy g k hg2 hk2 h5
      · intro g hg
        have hg : g < σ.1 1 + 1 := hg
        rcases Nat.lt_succ_iff_lt_or_eq.mp hg with z | z
        · refine (hI.all g z).trans ?_
          show _ = fN (memF σ (belowI (uC (uA σ 3 _) 1 (σ.1 1 + 1)) g)) 0 (σ.1 1 + 1)
          rw [ag_below hI h2 z, fN_s]
          exact (if_neg (fun q => bl_sm hI z (σ.1 1 - 1) (σ.1 1) (Nat.le_refl _) (by omega) q)).symm
        · subst z
          obtain ⟨h4, -, h20⟩ := hI.new (σ.1 1) (Nat.le_refl _) (by omega)
          refine h20.trans ?_
          show _ = fN (memF σ (belowI (uC (uA σ 3 _) 1 (σ.1 1 + 1)) (σ.1 1))) 0 (σ.1 1 + 1)
          rw [ag_new hI h2]
          refine (fN_ind (P := fun x : Int32 => x = 0) rfl (fun i x hi hx => ?_)).symm
          subst hx
          unfold memF
          by_cases e : i = σ.1 1
          · rw [e, h4, or0]
            split <;> rfl
          · rw [if_neg (fun q => e ((hB_bt1 (by omega) (by omega)).mp q).symm)]
  · rw [if_neg h1] at h; cases h
-- rows of members found anew
theorem all_N {F : Nat → Int32} {r : Nat → Int32} : ∀ n g, (fN (fun g f => upd f g (F g)) r n) g = if g < n then F g else r g
  | 0, g => (if_neg (Nat.not_lt_zero g)).symm
  | n + 1, g => by
    rw [fN_s]
    show (if g = n then F n else fN (fun g f => upd f g (F g)) r n g) = _
    rw [all_N n g]
    by_cases e : g = n
    · rw [if_pos e, if_pos (by omega), e]
    · by_cases h : g < n
      · rw [if_neg e, if_pos h, if_pos (by omega)]
      · rw [if_neg e, if_neg h, if_neg (by omega)]
theorem re_20 {τ : ZS} (g : Nat) : (reAll τ).2.2 20 g = if g < τ.1 1 then memI τ g else τ.2.2 20 g := all_N (τ.1 1) g
theorem zI_re4 {σ : ZS} (hI : zI σ) {j : Nat} {v : Int32} (hj : j < σ.1 1) (hv : zSm v 10) : zI (reAll (uA σ 4 (upd (σ.2.2 4) j v))) := by
  refine ⟨hI.bd, hI.mgr, hI.sub, hI.gOw, hI.rOw, hI.gRt, hI.tgt, hI.itm, hI.abs, upd_all (P := fun x => zSm x 10) hI.dir hv, hI.den, hI.nst, ?_, hI.acy, ?_⟩
  · intro g hg h8
    have hg : σ.1 1 ≤ g := hg
    refine ⟨?_, (hI.new g hg h8).2.1, ?_⟩
    · show (if g = j then v else σ.2.2 4 g) = 0
      rw [if_neg (by omega)]
      exact (hI.new g hg h8).1
    · rw [re_20]
      show (if g < σ.1 1 then _ else σ.2.2 20 g) = 0
      rw [if_neg (by omega)]
      exact (hI.new g hg h8).2.2
  · intro g hg
    have hg : g < σ.1 1 := hg
    rw [re_20]
    exact if_pos hg
theorem zV_re4 {σ : ZS} (hV : zV σ) {j : Nat} {v : Int32} (hj : j < σ.1 1) (hv : zSm v 10) : zV (reAll (uA σ 4 (upd (σ.2.2 4) j v))) := ⟨⟨⟨zI_re4 hV.1.1.1 hj hv, hV.1.1.2.1, hV.1.1.2.2⟩, hV.1.2.1, hV.1.2.2.1, hV.1.2.2.2⟩, hV.2⟩
theorem zV_addMember {σ s : ZS} {x y v : Int32} (hV : zV σ) (h : sp_addMember σ x y = .inr (v, s)) : zV s := by
  unfold sp_addMember at h
  by_cases h1 : pIn x (σ.1 1) ∧ pIn y (σ.1 0)
  · rw [if_pos h1] at h
    have hI := hV.1.1.1
    obtain ⟨b0, b1, b2, b3, b4, b5⟩ := hI.bd
    obtain ⟨j0, hj0, rfl⟩ := pIn_idx (by omega) h1.1
    obtain ⟨j1, hj1, rfl⟩ := pIn_idx (by omega) h1.2
    rw [ix_nI (by omega), ix_nI (by omega)] at h
    by_cases h2 : hB (σ.2.2 4 j0) j1
    · rw [if_pos h2] at h; cases h
    · rw [if_neg h2] at h
      cases h
      exact zV_re4 hV hj0 (zSm_or (hI.dir j0 (by omega)) (zSm_bt1 (by omega) (by decide)))
  · rw [if_neg h1] at h; cases h
theorem zV_removeMember {σ s : ZS} {x y v : Int32} (hV : zV σ) (h : sp_removeMember σ x y = .inr (v, s)) : zV s := by
  unfold sp_removeMember at h
  by_cases h1 : pIn x (σ.1 1) ∧ pIn y (σ.1 0)
  · rw [if_pos h1] at h
    have hI := hV.1.1.1
    obtain ⟨b0, b1, b2, b3, b4, b5⟩ := hI.bd
    obtain ⟨j0, hj0, rfl⟩ := pIn_idx (by omega) h1.1
    obtain ⟨j1, hj1, rfl⟩ := pIn_idx (by omega) h1.2
    rw [ix_nI (by omega), ix_nI (by omega)] at h
    by_cases h2 : hB (σ.2.2 4 j0) j1
    · rw [if_pos h2] at h
      cases h
      exact zV_re4 hV hj0 (zSm_and (hI.dir j0 (by omega)))
    · rw [if_neg h2] at h; cases h
  · rw [if_neg h1] at h; cases h
-- a group is nested: what is below another one was so before, or by way of the new place
theorem ne_cases {σ : ZS} (hI : zI σ) {j0 j1 k : Nat} (h0 : j0 < σ.1 1) (h1 : j1 < σ.1 1) (hk : k < σ.1 1) : ∀ n j, j < σ.1 1 → hB (fN (fun _ acc => belowR (uA σ 5 (upd (σ.2.2 5) j0 (σ.2.2 5 j0 ||| bt1 j1))) acc) (bt1 k) n) j → hB (belowI σ k) j ∨ (hB (belowI σ k) j0 ∧ hB (belowI σ j1) j)
  | 0, j, hj, h => by
    have b1 := hI.bd.2.1
    have e := (hB_bt1 (by omega) (by omega)).mp h
    subst e
    exact Or.inl (below_self hI hk)
  | n + 1, j, hj, h => by
    have b1 := hI.bd.2.1
    have ih := ne_cases hI h0 h1 hk n
    rw [fN_s] at h
    generalize fN (fun _ acc => belowR (uA σ 5 (upd (σ.2.2 5) j0 (σ.2.2 5 j0 ||| bt1 j1))) acc) (bt1 k) n = acc at ih h
    have hP : ∀ j, j < σ.1 1 → hB (fN (belowF (uA σ 5 (upd (σ.2.2 5) j0 (σ.2.2 5 j0 ||| bt1 j1)))) acc (σ.1 1)) j → hB (belowI σ k) j ∨ (hB (belowI σ k) j0 ∧ hB (belowI σ j1) j) := by
      refine fN_ind (P := fun x => ∀ j, j < σ.1 1 → hB x j → hB (belowI σ k) j ∨ (hB (belowI σ k) j0 ∧ hB (belowI σ j1) j)) ih (fun i x hi hx => ?_)
      intro j hj h
      have h : hB (if hB x i then x ||| (if i = j0 then σ.2.2 5 j0 ||| bt1 j1 else σ.2.2 5 i) else x) j := h
      by_cases hc : hB x i
      · rw [if_pos hc, hB_or (by omega)] at h
        rcases h with q | q
        · exact hx j hj q
        · have hold : hB (σ.2.2 5 i) j → hB (belowI σ k) j ∨ (hB (belowI σ k) j0 ∧ hB (belowI σ j1) j) := fun h5 => by
            rcases hx i hi hc with z | ⟨z1, z2⟩
            · exact Or.inl (below_cl hI hk hi (by omega) z h5)
            · exact Or.inr ⟨z1, below_cl hI h1 hi (by omega) z2 h5⟩
          by_cases e : i = j0
          · rw [if_pos e, hB_or (by omega)] at q
            rcases q with q | q
            · exact hold (by rw [e]; exact q)
            · have e2 := (hB_bt1 (by omega) (by omega)).mp q
              subst e2
              refine Or.inr ⟨?_, below_self hI h1⟩
              rcases hx i hi hc with z | ⟨z, -⟩
              · rw [← e]; exact z
              · exact z
          · rw [if_neg e] at q
            exact hold q
      · rw [if_neg hc] at h
        exact hx j hj h
    exact hP j hj h
theorem below_tr2 {σ : ZS} (hI : zI σ) {a b c : Nat} (ha : a < σ.1 1) (hb : b < σ.1 1) (hc : c < σ.1 1) (h1 : hB (belowI σ a) b) (h2 : hB (belowI σ b) c) : hB (belowI σ a) c := below_tr hI ha hb h1 _ c (by have := hI.bd.2.1; omega) h2
theorem zV_nest {σ s : ZS} {x y v : Int32} (hV : zV σ) (h : sp_nest σ x y = .inr (v, s)) : zV s := by
  unfold sp_nest at h
  by_cases h1 : pIn x (σ.1 1) ∧ pIn y (σ.1 1)
  · rw [if_pos h1] at h
    have hI := hV.1.1.1
    obtain ⟨b0, b1, b2, b3, b4, b5⟩ := hI.bd
    obtain ⟨j0, hj0, rfl⟩ := pIn_idx (by omega) h1.1
    obtain ⟨j1, hj1, rfl⟩ := pIn_idx (by omega) h1.2
    rw [ix_nI (by omega), ix_nI (by omega)] at h
    by_cases h2 : hB (belowI σ j1) j0
    · rw [if_pos h2] at h; cases h
    · rw [if_neg h2] at h
      by_cases h3 : hB (σ.2.2 5 j0) j1
      · rw [if_pos h3] at h; cases h
      · rw [if_neg h3] at h
        cases h
        obtain ⟨⟨⟨-, hU, hR⟩, hK, hE, hQ⟩, hO⟩ := hV
        refine ⟨⟨⟨⟨hI.bd, hI.mgr, hI.sub, hI.gOw, hI.rOw, hI.gRt, hI.tgt, hI.itm, hI.abs, hI.dir, hI.den, ?_, ?_, ?_, ?_⟩, hU, hR⟩, hK, hE, hQ⟩, hO⟩
        · exact upd_all (P := fun x => zSm x (σ.1 1)) hI.nst (zSm_or (hI.nst j0 (by omega)) (zSm_bt1 hj1 (by omega)))
        · intro g hg h8
          have hg : σ.1 1 ≤ g := hg
          refine ⟨(hI.new g hg h8).1, ?_, ?_⟩
          · show (if g = j0 then _ else σ.2.2 5 g) = 0
            rw [if_neg (by omega)]
            exact (hI.new g hg h8).2.1
          · rw [re_20]
            show (if g < σ.1 1 then _ else σ.2.2 20 g) = 0
            rw [if_neg (by omega)]
            exact (hI.new g hg h8).2.2
        · intro g k hg hk h5 hb
          have hg : g < σ.1 1 := hg
          have hk : k < σ.1 1 := hk
          have h5 : hB (if g = j0 then σ.2.2 5 j0 ||| bt1 j1 else σ.2.2 5 g) k := h5
          have hc := ne_cases hI hj0 hj1 hk _ g hg hb
          have hold : ¬ hB (σ.2.2 5 g) k := fun q => by
            rcases hc with z | ⟨z1, z2⟩
            · exact hI.acy g k hg hk q z
            · exact h2 (below_tr2 hI hj1 hk hj0 (below_cl hI hj1 hg (by omega) z2 q) z1)
          by_cases e : g = j0
          · rw [if_pos e, hB_or (by omega)] at h5
            rcases h5 with q | q
            · exact hold (by rw [e]; exact q)
            · have e2 := (hB_bt1 (by omega) (by omega)).mp q
              rw [← e2, e] at hc
              rcases hc with z | ⟨z, -⟩
              · exact h2 z
              · exact h2 z
          · rw [if_neg e] at h5
            exact hold h5
        · intro g hg
          have hg : g < σ.1 1 := hg
          rw [re_20]
          exact if_pos hg
  · rw [if_neg h1] at h; cases h
/-- the start -/
def z0 : ZS := (fun _ => 0, fun k => if k = 1 then 300 else if k = 2 then 2 else 0, fun _ _ => 0)
theorem zV_0 : zV z0 := by
  have hz : ∀ {k : Nat} {P : Prop}, k < z0.1 0 → P := fun h => absurd h (Nat.not_lt_zero _)
  refine ⟨⟨⟨⟨by refine ⟨?_, ?_, ?_, ?_, ?_, ?_⟩ <;> exact Nat.zero_le _, fun j hj => absurd hj (Nat.not_lt_zero j), fun j hj => absurd hj (Nat.not_lt_zero j), fun j hj => absurd hj (Nat.not_lt_zero j), fun j hj => absurd hj (Nat.not_lt_zero j), fun j hj => absurd hj (Nat.not_lt_zero j), fun j hj => absurd hj (Nat.not_lt_zero j), fun j hj => absurd hj (Nat.not_lt_zero j), fun j hj => absurd hj (Nat.not_lt_zero j), fun g _ => zSm_0, fun g _ => zSm_0, fun g _ => zSm_0, fun g _ _ => ⟨rfl, rfl, rfl⟩, fun g k hg => absurd hg (Nat.not_lt_zero g), fun g hg => absurd hg (Nat.not_lt_zero g)⟩, rfl, fun e he => absurd he (Nat.not_lt_zero e)⟩, ⟨fun _ => rfl, fun _ => rfl, fun _ => rfl, fun _ => (show narrow .boolean (.int 0) = .int 0 from rfl)⟩, fun e he => absurd he (Nat.not_lt_zero e), fun j hj => absurd hj (Nat.not_lt_zero j), fun q _ h10 => ⟨hB_0 (by omega), rfl⟩⟩, rfl⟩
