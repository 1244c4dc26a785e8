/-! What holds all along, kept by the calls that add and change people, groups, rights, grants. -/
theorem below_cg {t s : ZS} (h1 : t.1 1 = s.1 1) (h5 : t.2.2 5 = s.2.2 5) : belowI t = belowI s := by
  have e1 : belowF t = belowF s := by
    funext o acc
    unfold belowF
    rw [h5]
  have e2 : belowR t = belowR s := by
    funext acc
    unfold belowR
    rw [e1, h1]
  funext g
  unfold belowI
  rw [e2, h1]
theorem mem_cg {t s : ZS} (h1 : t.1 1 = s.1 1) (h4 : t.2.2 4 = s.2.2 4) (h5 : t.2.2 5 = s.2.2 5) : memI t = memI s := by
  have e1 : memF t = memF s := by
    funext b i acc
    unfold memF
    rw [h4]
  funext g
  unfold memI
  rw [e1, h1, below_cg h1 h5]
/-- only the items, the evidence and rows of no account differ -/
theorem zI_cg {t s : ZS} (h1 : ∀ k, k < 4 → t.1 k = s.1 k) (h4 : t.1 4 ≤ 24) (h5 : t.1 5 ≤ 99) (h6 : t.2.1 6 = s.2.1 6) (hr : ∀ k, ¬ k = 16 → ¬ k = 17 → t.2.2 k = s.2.2 k) (hi : ∀ i, i < t.1 4 → zIdx (t.2.2 16 i) (t.1 3)) (h : zI s) : zI t := by
  have a0 := h1 0 (by decide)
  have a1 := h1 1 (by decide)
  have a2 := h1 2 (by decide)
  have a3 := h1 3 (by decide)
  have r1 := hr 1 (by decide) (by decide)
  have r2 := hr 2 (by decide) (by decide)
  have r3 := hr 3 (by decide) (by decide)
  have r4 := hr 4 (by decide) (by decide)
  have r5 := hr 5 (by decide) (by decide)
  have r7 := hr 7 (by decide) (by decide)
  have r8 := hr 8 (by decide) (by decide)
  have r10 := hr 10 (by decide) (by decide)
  have r19 := hr 19 (by decide) (by decide)
  have r20 := hr 20 (by decide) (by decide)
  have r21 := hr 21 (by decide) (by decide)
  have r22 := hr 22 (by decide) (by decide)
  have r25 := hr 25 (by decide) (by decide)
  have r26 := hr 26 (by decide) (by decide)
  have eb := below_cg a1 r5
  have em := mem_cg a1 r4 r5
  refine ⟨⟨by rw [a0]; exact h.bd.1, by rw [a1]; exact h.bd.2.1, by rw [a2]; exact h.bd.2.2.1, by rw [a3]; exact h.bd.2.2.2.1, h4, h5⟩, by rw [a0, r1]; exact h.mgr, by rw [a0, r2]; exact h.sub, by rw [a0, a1, r3]; exact h.gOw, by rw [a0, a2, r7]; exact h.rOw, by rw [a2, a3, r10]; exact h.gRt, ?_, hi, by rw [a0, h6, r19]; exact h.abs, by rw [r4]; exact h.dir, by rw [r8]; exact h.den, by rw [a1, r5]; exact h.nst, by rw [a1, r4, r5, r20]; exact h.new, by rw [a1, r5, eb]; exact h.acy, by rw [a1, r20, em]; exact h.all⟩
  intro g hg
  rw [a3] at hg
  unfold zTgt
  rw [a0, a1, r21, r22, r25, r26]
  exact h.tgt g hg
theorem zV_openCampaign {σ s : ZS} {x v : Int32} (hV : zV σ) (h : sp_openCampaign σ x = .inr (v, s)) : zV s := by
  unfold sp_openCampaign at h
  by_cases h1 : 1 ≤ x ∧ x ≤ 30
  · rw [if_pos h1] at h
    by_cases h2 : 0 < σ.1 6 ∨ ¬ hasSt σ 97
    · rw [if_pos h2] at h; cases h
    · rw [if_neg h2] at h
      cases h
      obtain ⟨⟨⟨hI, hU, hR⟩, hK, hE, hQ⟩, hO⟩ := hV
      obtain ⟨o1, o2, o3, o4, o5, o6, o7⟩ := zOp_N (d := x) hK (σ.1 3)
      have o1 : (opnI σ x).1 4 ≤ σ.1 3 := o1
      have o2 : (opnI σ x).1 6 = (opnI σ x).1 4 := o2
      have o3 : ∀ i, i < (opnI σ x).1 4 → (opnI σ x).2.2 17 i = 117 ∧ zIdx ((opnI σ x).2.2 16 i) (σ.1 3) := o3
      have o4 : ∀ i, zC1 ((opnI σ x).2.2 17 i) := o4
      have o5 : ∀ k, ¬ k = 4 → ¬ k = 6 → (opnI σ x).1 k = σ.1 k := o5
      have o6 : ∀ k, ¬ k = 3 → (opnI σ x).2.1 k = σ.2.1 k := o6
      have o7 : ∀ k, ¬ k = 16 → ¬ k = 17 → (opnI σ x).2.2 k = σ.2.2 k := o7
      obtain ⟨b0, b1, b2, b3, b4, b5⟩ := hI.bd
      have hI2 : zI (opnI σ x) := zI_cg (s := σ) (fun k hk => o5 k (by omega) (by omega)) (by omega) (by rw [o5 5 (by decide) (by decide)]; exact b5) (o6 6 (by decide)) o7 (fun i hi => by rw [o5 3 (by decide) (by decide)]; exact (o3 i hi).2) hI
      have hU2 : zU (opnI σ x) := by
        unfold zU
        rw [cntP_all (fun i hi => (o3 i hi).1), o2]
      have e5 := o5 5 (by decide) (by decide)
      have hR2 : zR (opnI σ x) := by
        unfold zR
        rw [e5, o7 15 (by decide) (by decide)]
        exact hR
      have hK2 : zK (opnI σ x) := ⟨by rw [o7 11 (by decide) (by decide)]; exact hK.1, o4, by rw [o7 14 (by decide) (by decide)]; exact hK.2.2.1, by rw [o7 19 (by decide) (by decide)]; exact hK.2.2.2⟩
      have hE2 : zE (opnI σ x) := by
        intro e he
        rw [e5] at he
        rw [repl_cg (s := σ) (fun a _ => ⟨by rw [o7 23 (by decide) (by decide)], by rw [o7 24 (by decide) (by decide)], by rw [o7 14 (by decide) (by decide)]⟩), o7 15 (by decide) (by decide)]
        exact hE e he
      have hQ2 : zQ (opnI σ x) := zQ_cg (o5 0 (by decide) (by decide)) (o7 19 (by decide) (by decide)) (o6 6 (by decide)) hQ
      have hW2 : zW (opnI σ x) := ⟨⟨hI2, hU2, hR2⟩, hK2, hE2, hQ2⟩
      refine ⟨zW_ovl ovl_7 hW2, ?_⟩
      have hst : hasSt σ 97 := Classical.byContradiction fun q => h2 (Or.inr q)
      have hp : 0 < (opnI σ x).1 6 := by
        obtain ⟨g, hg, eg⟩ := exB_iff.mp hst
        rw [o2]
        have hm : ∀ n, n ≤ σ.1 3 → g < n → 0 < (fN (opnF σ) (uC (uC (uN σ 3 (σ.2.1 0 + x)) 4 0) 6 0) n).1 4 := by
          intro n
          induction n with
          | zero => intro _ q; exact absurd q (Nat.not_lt_zero g)
          | succ n ih =>
            intro hn hgn
            rw [fN_s]
            by_cases hc : σ.2.2 11 n = 97
            · rw [opnF, if_pos hc]
              exact Nat.succ_pos _
            · rw [opnF, if_neg hc]
              refine ih (by omega) ?_
              rcases Nat.lt_succ_iff_lt_or_eq.mp hgn with q | q
              · exact q
              · rw [q] at eg
                exact absurd eg hc
        exact hm _ (Nat.le_refl _) hg
      exact (bI_t hp).symm
  · rw [if_neg h1] at h; cases h
-- people
theorem zRef_mono {x : Int32} {n m : Nat} (h : zRef x n) (hnm : n ≤ m) : zRef x m := h.imp id (fun ⟨j, hj, e⟩ => ⟨j, by omega, e⟩)
theorem zIdx_mono {x : Int32} {n m : Nat} (h : zIdx x n) (hnm : n ≤ m) : zIdx x m := h.imp fun j ⟨hj, e⟩ => ⟨by omega, e⟩
theorem upd_c {f : Nat → Int32} {P : Nat → Int32 → Prop} {n : Nat} {v : Int32} (h : ∀ j, j < n → P j (f j)) (hv : P n v) : ∀ j, j < n + 1 → P j (upd f n v j) := fun j hj => by
  show P j (if j = n then v else f j)
  by_cases e : j = n
  · rw [if_pos e, e]; exact hv
  · rw [if_neg e]; exact h j (by omega)
theorem zV_addPerson {σ s : ZS} {d m v : Int32} (hV : zV σ) (h : sp_addPerson σ d m = .inr (v, s)) : zV s := by
  unfold sp_addPerson at h
  by_cases h1 : 0 ≤ d ∧ d ≤ 3
  · rw [if_pos h1] at h
    by_cases h2 : m = -1 ∨ pIn m (σ.1 0)
    · rw [if_pos h2] at h
      by_cases h3 : σ.1 0 = 10
      · rw [if_pos h3] at h; cases h
      · rw [if_neg h3] at h
        cases h
        obtain ⟨⟨⟨hI, hU, hR⟩, hK, hE, hQ⟩, hO⟩ := hV
        obtain ⟨b0, b1, b2, b3, b4, b5⟩ := hI.bd
        have hm : zRef m (σ.1 0) := h2.imp id (fun q => pIn_idx (by omega) q)
        have hq := hQ.2 (σ.1 0) (Nat.le_refl _) (by omega)
        refine ⟨⟨⟨⟨⟨?_, b1, b2, b3, b4, b5⟩, ?_, ?_, fun g hg => zIdx_mono (hI.gOw g hg) (Nat.le_succ _), fun r hr => zIdx_mono (hI.rOw r hr) (Nat.le_succ _), hI.gRt, ?_, hI.itm, ?_, hI.dir, hI.den, hI.nst, hI.new, hI.acy, hI.all⟩, hU, hR⟩, hK, hE, ?_, ?_⟩, hO⟩
        · show σ.1 0 + 1 ≤ 10
          omega
        · exact upd_c (P := fun _ x => zRef x (σ.1 0 + 1)) (fun j hj => zRef_mono (hI.mgr j hj) (Nat.le_succ _)) (zRef_mono hm (Nat.le_succ _))
        · exact upd_c (P := fun _ x => zRef x (σ.1 0 + 1)) (fun j hj => zRef_mono (hI.sub j hj) (Nat.le_succ _)) (Or.inl rfl)
        · intro g hg
          rcases hI.tgt g hg with ⟨j, hj, q⟩ | ⟨j, hj, q⟩
          · exact Or.inl ⟨j, Nat.lt_succ_of_lt hj, q⟩
          · exact Or.inr ⟨j, hj, q⟩
        · intro q hq2
          have hq2 : q < σ.1 0 + 1 := hq2
          rcases Nat.lt_succ_iff_lt_or_eq.mp hq2 with z | z
          · exact hI.abs q z
          · rw [z]
            exact ⟨fun q9 => absurd q9 hq.1, fun q9 => absurd hq.2 q9⟩
        · intro j hj
          have hj : j < σ.1 0 + 1 := hj
          rcases Nat.lt_succ_iff_lt_or_eq.mp hj with z | z
          · exact hQ.1 j z
          · rw [z]
            exact Or.inl hq.2
        · intro q h5 h6
          have h5 : σ.1 0 + 1 ≤ q := h5
          exact hQ.2 q (by omega) h6
    · rw [if_neg h2] at h; cases h
  · rw [if_neg h1] at h; cases h
theorem zV_setAbsent {σ s : ZS} {x b v : Int32} (hV : zV σ) (hb : b = 0 ∨ b = 1) (h : sp_setAbsent σ x b = .inr (v, s)) : zV s := by
  unfold sp_setAbsent at h
  by_cases h1 : pIn x (σ.1 0)
  · rw [if_pos h1] at h
    obtain ⟨⟨⟨hI, hU, hR⟩, hK, hE, hQ⟩, hO⟩ := hV
    obtain ⟨b0, b1, b2, b3, b4, b5⟩ := hI.bd
    obtain ⟨j, hj, rfl⟩ := pIn_idx (by omega) h1
    rw [ix_nI (by omega)] at h
    cases h
    have hk : ∀ q, q < 10 → (hB (if b = 0 then σ.2.1 6 &&& (bt1 j ^^^ -1) else σ.2.1 6 ||| bt1 j) q ↔ if q = j then b = 1 else hB (σ.2.1 6) q) := by
      intro q hq
      rcases hb with rfl | rfl
      · rw [if_pos rfl, hB_and (by omega), hB_not (by omega), hB_bt1 (by omega) (by omega)]
        by_cases e : q = j
        · rw [if_pos e]
          exact ⟨fun z => absurd e.symm z.2, fun z => absurd z (by decide)⟩
        · rw [if_neg e]
          exact ⟨fun z => z.1, fun z => ⟨z, fun y => e y.symm⟩⟩
      · rw [if_neg (by decide), hB_or (by omega), hB_bt1 (by omega) (by omega)]
        by_cases e : q = j
        · rw [if_pos e]
          exact ⟨fun _ => rfl, fun _ => Or.inr e.symm⟩
        · rw [if_neg e]
          exact ⟨fun z => z.elim id (fun y => absurd y.symm e), fun z => Or.inl z⟩
    refine ⟨⟨⟨⟨hI.bd, hI.mgr, hI.sub, hI.gOw, hI.rOw, hI.gRt, hI.tgt, hI.itm, ?_, hI.dir, hI.den, hI.nst, hI.new, hI.acy, hI.all⟩, hU, hR⟩, ⟨hK.1, hK.2.1, hK.2.2.1, ?_⟩, hE, ?_, ?_⟩, hO⟩
    · intro q hq
      have hq : q < σ.1 0 := hq
      show hB (if b = 0 then σ.2.1 6 &&& (bt1 j ^^^ -1) else σ.2.1 6 ||| bt1 j) q ↔ ¬ (if q = j then b else σ.2.2 19 q) = 0
      rw [hk q (by omega)]
      by_cases e : q = j
      · rw [if_pos e, if_pos e]
        rcases hb with rfl | rfl <;> decide
      · rw [if_neg e, if_neg e]
        exact hI.abs q hq
    · intro g
      show narrow .boolean (.int (if g = j then b else σ.2.2 19 g)) = .int (if g = j then b else σ.2.2 19 g)
      split
      · rcases hb with rfl | rfl <;> rfl
      · exact hK.2.2.2 g
    · intro q hq
      show (if q = j then b else σ.2.2 19 q) = 0 ∨ (if q = j then b else σ.2.2 19 q) = 1
      split
      · exact hb
      · exact hQ.1 q hq
    · intro q h5 h6
      have h5 : σ.1 0 ≤ q := h5
      show ¬ hB (if b = 0 then σ.2.1 6 &&& (bt1 j ^^^ -1) else σ.2.1 6 ||| bt1 j) q ∧ (if q = j then b else σ.2.2 19 q) = 0
      rw [hk q h6, if_neg (show ¬ q = j by omega), if_neg (show ¬ q = j by omega)]
      exact hQ.2 q h5 h6
  · rw [if_neg h1] at h; cases h
theorem zV_setSubstitute {σ s : ZS} {x y v : Int32} (hV : zV σ) (h : sp_setSubstitute σ x y = .inr (v, s)) : zV s := by
  unfold sp_setSubstitute at h
  by_cases h1 : pIn x (σ.1 0) ∧ (y = -1 ∨ pIn y (σ.1 0))
  · rw [if_pos h1] at h
    by_cases h2 : x = y
    · rw [if_pos h2] at h; cases h
    · rw [if_neg h2] at h
      cases h
      obtain ⟨⟨⟨hI, hU, hR⟩, hK, hE, hQ⟩, hO⟩ := hV
      obtain ⟨b0, b1, b2, b3, b4, b5⟩ := hI.bd
      have hy : zRef y (σ.1 0) := h1.2.imp id (fun q => pIn_idx (by omega) q)
      exact ⟨⟨⟨⟨hI.bd, hI.mgr, upd_all (P := fun x => zRef x (σ.1 0)) hI.sub hy, hI.gOw, hI.rOw, hI.gRt, hI.tgt, hI.itm, hI.abs, hI.dir, hI.den, hI.nst, hI.new, hI.acy, hI.all⟩, hU, hR⟩, hK, hE, hQ⟩, hO⟩
  · rw [if_neg h1] at h; cases h
theorem zV_addRight {σ s : ZS} {sn o vt v : Int32} (hV : zV σ) (h : sp_addRight σ sn o vt = .inr (v, s)) : zV s := by
  unfold sp_addRight at h
  by_cases h1 : 1 ≤ sn ∧ sn ≤ 9
  · rw [if_pos h1] at h
    by_cases h2 : pIn o (σ.1 0)
    · rw [if_pos h2] at h
      by_cases h3 : σ.1 2 = 10
      · rw [if_pos h3] at h; cases h
      · rw [if_neg h3] at h
        cases h
        obtain ⟨⟨⟨hI, hU, hR⟩, hK, hE, hQ⟩, hO⟩ := hV
        obtain ⟨b0, b1, b2, b3, b4, b5⟩ := hI.bd
        have ho := pIn_idx (by omega) h2
        refine ⟨⟨⟨⟨⟨b0, b1, ?_, b3, b4, b5⟩, hI.mgr, hI.sub, hI.gOw, ?_, ?_, hI.tgt, hI.itm, hI.abs, hI.dir, hI.den, hI.nst, hI.new, hI.acy, hI.all⟩, hU, hR⟩, hK, hE, hQ⟩, hO⟩
        · show σ.1 2 + 1 ≤ 10
          omega
        · exact upd_c (P := fun _ x => zIdx x (σ.1 0)) hI.rOw ho
        · exact fun g hg => zIdx_mono (hI.gRt g hg) (Nat.le_succ _)
    · rw [if_neg h2] at h; cases h
  · rw [if_neg h1] at h; cases h
theorem zI_8 {σ : ZS} {r : Nat} {v : Int32} (h : zI σ) (hv : zSm v 10) : zI (uA σ 8 (upd (σ.2.2 8) r v)) := ⟨h.bd, h.mgr, h.sub, h.gOw, h.rOw, h.gRt, h.tgt, h.itm, h.abs, h.dir, upd_all (P := fun x => zSm x 10) h.den hv, h.nst, h.new, h.acy, h.all⟩
theorem zV_gNew {σ : ZS} {r pe gr tg k : Int32} (hV : zV σ) (h24 : ¬ σ.1 3 = 24) (hr : zIdx r (σ.1 2)) (ht : (∃ j, j < σ.1 0 ∧ pe = nI j ∧ gr = -1 ∧ tg = nI j ∧ k = 0) ∨ (∃ j, j < σ.1 1 ∧ pe = -1 ∧ gr = nI j ∧ tg = nI j ∧ k = 1)) : zV (gNew σ r pe gr tg k) := by
  obtain ⟨⟨⟨hI, hU, hR⟩, hK, hE, hQ⟩, hO⟩ := hV
  obtain ⟨b0, b1, b2, b3, b4, b5⟩ := hI.bd
  refine ⟨⟨⟨⟨⟨b0, b1, b2, ?_, b4, b5⟩, hI.mgr, hI.sub, hI.gOw, hI.rOw, ?_, ?_, ?_, hI.abs, hI.dir, hI.den, hI.nst, hI.new, hI.acy, hI.all⟩, hU, hR⟩, ⟨zC1_u hK.1 rfl, hK.2⟩, hE, hQ⟩, hO⟩
  · show σ.1 3 + 1 ≤ 24
    omega
  · exact upd_c (P := fun _ x => zIdx x (σ.1 2)) hI.gRt hr
  · intro g hg
    have hg : g < σ.1 3 + 1 := hg
    show (∃ j, j < σ.1 0 ∧ (if g = σ.1 3 then pe else σ.2.2 21 g) = nI j ∧ (if g = σ.1 3 then gr else σ.2.2 22 g) = -1 ∧ (if g = σ.1 3 then tg else σ.2.2 25 g) = nI j ∧ (if g = σ.1 3 then k else σ.2.2 26 g) = 0) ∨ (∃ j, j < σ.1 1 ∧ (if g = σ.1 3 then pe else σ.2.2 21 g) = -1 ∧ (if g = σ.1 3 then gr else σ.2.2 22 g) = nI j ∧ (if g = σ.1 3 then tg else σ.2.2 25 g) = nI j ∧ (if g = σ.1 3 then k else σ.2.2 26 g) = 1)
    by_cases e : g = σ.1 3
    · simp only [if_pos e]
      exact ht
    · simp only [if_neg e]
      exact hI.tgt g (by omega)
  · exact fun i hi => zIdx_mono (hI.itm i hi) (Nat.le_succ _)
theorem zV_grantPerson {σ s : ZS} {x y v : Int32} (hV : zV σ) (h : sp_grantPerson σ x y = .inr (v, s)) : zV s := by
  unfold sp_grantPerson at h
  by_cases h1 : pIn x (σ.1 2) ∧ pIn y (σ.1 0)
  · rw [if_pos h1] at h
    by_cases h2 : hasAct σ x y (-1) ∨ σ.1 3 = 24
    · rw [if_pos h2] at h; cases h
    · rw [if_neg h2] at h
      cases h
      have hI := hV.1.1.1
      obtain ⟨b0, b1, b2, b3, b4, b5⟩ := hI.bd
      obtain ⟨j0, hj0, rfl⟩ := pIn_idx (by omega) h1.1
      obtain ⟨j1, hj1, rfl⟩ := pIn_idx (by omega) h1.2
      have hV8 : zV (uA σ 8 (upd (σ.2.2 8) (ix (nI j0)) (σ.2.2 8 (ix (nI j0)) &&& (bt1 (ix (nI j1)) ^^^ -1)))) := ⟨⟨⟨zI_8 hI (by rw [ix_nI (by omega)]; exact zSm_and (hI.den j0 (by omega))), hV.1.1.2.1, hV.1.1.2.2⟩, hV.1.2.1, hV.1.2.2.1, hV.1.2.2.2⟩, hV.2⟩
      exact zV_gNew hV8 (fun q => h2 (Or.inr q)) ⟨j0, hj0, rfl⟩ (Or.inl ⟨j1, hj1, rfl, rfl, rfl, rfl⟩)
  · rw [if_neg h1] at h; cases h
theorem zV_grantGroup {σ s : ZS} {x y v : Int32} (hV : zV σ) (h : sp_grantGroup σ x y = .inr (v, s)) : zV s := by
  unfold sp_grantGroup at h
  by_cases h1 : pIn x (σ.1 2) ∧ pIn y (σ.1 1)
  · rw [if_pos h1] at h
    by_cases h2 : hasAct σ x (-1) y ∨ σ.1 3 = 24
    · rw [if_pos h2] at h; cases h
    · rw [if_neg h2] at h
      cases h
      have hI := hV.1.1.1
      obtain ⟨b0, b1, b2, b3, b4, b5⟩ := hI.bd
      obtain ⟨j0, hj0, rfl⟩ := pIn_idx (by omega) h1.1
      obtain ⟨j1, hj1, rfl⟩ := pIn_idx (by omega) h1.2
      exact zV_gNew hV (fun q => h2 (Or.inr q)) ⟨j0, hj0, rfl⟩ (Or.inr ⟨j1, hj1, rfl, rfl, rfl, rfl⟩)
  · rw [if_neg h1] at h; cases h
theorem zV_use {σ s : ZS} {x y v : Int32} (hV : zV σ) (h : sp_use σ x y = .inr (v, s)) : zV s := by
  unfold sp_use at h
  by_cases h1 : pIn x (σ.1 0) ∧ pIn y (σ.1 2)
  · rw [if_pos h1] at h
    by_cases h2 : hB (holdI σ (ix y) (-1)) (ix x)
    · rw [if_pos h2] at h
      cases h
      exact hV
    · rw [if_neg h2] at h; cases h
  · rw [if_neg h1] at h; cases h
