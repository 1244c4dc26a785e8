/-! What holds all along (zV), kept by what the days, the answers, the openings do. -/
/-- absence: 0 or 1; none of those who aren't there yet -/
def zQ (σ : ZS) : Prop := zBo σ ∧ ∀ q, σ.1 0 ≤ q → q < 10 → ¬ hB (σ.2.1 6) q ∧ σ.2.2 19 q = 0
def zW (σ : ZS) : Prop := (zI σ ∧ zU σ ∧ zR σ) ∧ zK σ ∧ zE σ ∧ zQ σ
def zV (σ : ZS) : Prop := zW σ ∧ σ.2.1 7 = bI (0 < σ.1 6)
theorem zE_ovl {t s : ZS} (h : ovl t s) (hE : zE s) : zE t := by
  obtain ⟨b, c, f, rfl⟩ := ovl_ex h
  exact hE
theorem zQ_cg {t s : ZS} (h1 : t.1 0 = s.1 0) (h2 : t.2.2 19 = s.2.2 19) (h3 : t.2.1 6 = s.2.1 6) (h : zQ s) : zQ t := by
  unfold zQ zBo at h ⊢
  rw [h1, h2, h3]
  exact h
theorem zQ_ovl {t s : ZS} (h : ovl t s) (hQ : zQ s) : zQ t := zQ_cg (congrFun h.1 0) (h.2.2 19 (by decide)) (h.2.1 6 (by decide) (by decide)) hQ
theorem zW_ovl {t s : ZS} (h : ovl t s) (hW : zW s) : zW t := ⟨⟨zI_ovl h hW.1.1, zU_ovl h hW.1.2.1, zR_ovl h hW.1.2.2⟩, zK_ovl h hW.2.1, zE_ovl h hW.2.2.1, zQ_ovl h hW.2.2.2⟩
theorem zV_ovl {t s : ZS} (h : ovl t s) (h7 : t.2.1 7 = s.2.1 7) (hV : zV s) : zV t := ⟨zW_ovl h hV.1, by rw [h7, h.1]; exact hV.2⟩
/-- an int that is a char already -/
abbrev zC1 (v : Int32) : Prop := narrow .char (.int v) = .int v
theorem zC1_u {f : Nat → Int32} {i : Nat} {v : Int32} (h : ∀ g, zC1 (f g)) (hv : zC1 v) : ∀ g, zC1 (upd f i v g) := fun g => by
  show zC1 (if g = i then v else f g)
  split
  · exact hv
  · exact h g
theorem zK_11 {σ : ZS} {i : Nat} {v : Int32} (h : zK σ) (hv : zC1 v) : zK (uA σ 11 (upd (σ.2.2 11) i v)) := ⟨zC1_u h.1 hv, h.2⟩
theorem zK_ev {σ : ZS} {sg g dy : Int32} (h : zK σ) (hs : zC1 sg) : zK (evAdd σ sg g dy) := by
  unfold evAdd
  split
  · exact h
  · exact ⟨h.1, h.2.1, zC1_u h.2.2.1 hs, h.2.2.2⟩
theorem zK_settle {σ : ZS} {i : Nat} {vd dc : Int32} (h : zK σ) (hv : zC1 vd) : zK (settle σ i vd dc) := by
  unfold settle
  dsimp only
  split <;> exact ⟨h.1, zC1_u h.2.1 hv, h.2.2⟩
theorem zK_dec {σ : ZS} {i : Nat} {vd dc : Int32} (h : zK σ) (hv : zC1 vd) : zK (decI σ i vd dc) := by
  simp only [decI]
  split
  · have h2 := zK_ev (sg := vd) (g := σ.2.2 16 i) (dy := (settle σ i vd dc).2.1 0) (zK_settle (i := i) (dc := dc) h hv) hv
    exact zK_11 h2 rfl
  · exact zK_ev (zK_settle h hv) hv
theorem zK_end {σ : ZS} {g : Nat} (h : zK σ) : zK (endI σ g) := by
  unfold endI
  split
  · exact zK_ev (zK_11 h rfl) rfl
  · have h1 := zK_11 (i := g) (v := 120) h rfl
    exact zK_ev (show zK (uA (uA σ 11 (upd (σ.2.2 11) g 120)) 8 _) from h1) rfl
theorem zK_silF {s : ZS} {i : Nat} (h : zK s) : zK (silF i s) := by
  unfold silF
  split
  · refine zK_dec h ?_
    split <;> rfl
  · exact h
theorem zQ_dec {σ : ZS} {i : Nat} {vd dc : Int32} (h : zQ σ) : zQ (decI σ i vd dc) := zQ_cg (dec_1 (by decide) (by decide)) (dec_a (by decide)) (dec_n (by decide) (by decide)) h
theorem zQ_end {σ : ZS} {g : Nat} (h : zQ σ) : zQ (endI σ g) := zQ_cg (end_1 (by decide)) (end_a (by decide)) (congrFun end_n 6) h
theorem zQ_silF {s : ZS} {i : Nat} (h : zQ s) : zQ (silF i s) := by
  unfold silF
  split
  · exact zQ_dec h
  · exact h
theorem zW_end {σ : ZS} {g : Nat} (h : zW σ) (hg : g < σ.1 3) : zW (endI σ g) := ⟨⟨zI_end h.1.1 hg, zU_end h.1.2.1, zR_end h.1.2.2⟩, zK_end h.2.1, zE_end h.2.2.1, zQ_end h.2.2.2⟩
theorem zW_edg {σ : ZS} (h : zW σ) : zW (edgI σ) := edg_keep (P := zW) (fun _ _ h hg => zW_end h hg) (fun _ h => h.1.1.bd.2.2.2.1) _ _ _ h
theorem zW_dec {σ : ZS} {i : Nat} {vd dc : Int32} (h : zW σ) (hi : i < σ.1 4) (hu : σ.2.2 17 i = 117) (hv : ¬ vd = 117) (hc : zC1 vd) : zW (decI σ i vd dc) := ⟨⟨zI_dec h.1.1, zU_dec h.1.2.1 hi hu hv, zR_dec h.1.2.2⟩, zK_dec h.2.1 hc, zE_dec h.2.2.1, zQ_dec h.2.2.2⟩
theorem zW_silN {σ : ZS} (h : zW σ) : ∀ n, n ≤ σ.1 4 → zW (fN silF σ n) := fun n hn => by
  obtain ⟨h1, h2, -, -⟩ := zIU_silN h.1.1 h.1.2.1 n hn
  exact ⟨⟨h1, h2, zR_silN h.1.2.2 n⟩, fN_ind (P := zK) h.2.1 (fun _ _ _ q => zK_silF q), zE_silN h.2.2.1 n, fN_ind (P := zQ) h.2.2.2 (fun _ _ _ q => zQ_silF q)⟩
theorem zW_sil {σ : ZS} (h : zW σ) : zW (silI σ) := zW_silN h _ (Nat.le_refl _)
theorem zW_n {σ : ZS} {k : Nat} {v : Int32} (h : zW σ) (hk : ¬ k = 6) : zW (uN σ k v) := by
  have h6 : (uN σ k v).2.1 6 = σ.2.1 6 := by
    show va_up σ.2.1 k v 6 = _
    unfold va_up
    rw [if_neg (fun q => hk q.symm)]
  obtain ⟨g1, g2, g3, g4, g5, g6, g7, g8, g9, g10⟩ := h.1.1
  exact ⟨⟨⟨g1, g2, g3, g4, g5, g6, g7, g8, fun q hq => by rw [h6]; exact g9 q hq, g10⟩, h.1.2.1, h.1.2.2⟩, h.2.1, h.2.2.1, zQ_cg (s := σ) rfl rfl h6 h.2.2.2⟩
theorem zW_day {σ : ZS} (h : zW σ) : zW (dayI σ) := by
  have h0 : zW (uN σ 0 (σ.2.1 0 + 1)) := zW_n h (by decide)
  by_cases hc : 0 < σ.1 6 ∧ σ.2.1 0 + 1 = σ.2.1 3
  · rw [dayI_a hc.1 hc.2]
    exact zW_edg (zW_sil h0)
  · rw [dayI_b hc]
    exact zW_edg h0
theorem zV_opF {σ : ZS} (h : zW σ) : zV (opF σ) := ⟨zW_ovl ovl_7 h, rfl⟩
theorem zV_pass {σ s : ZS} {x v : Int32} (hV : zV σ) (h : sp_pass σ x = .inr (v, s)) : zV s := by
  unfold sp_pass at h
  split at h
  · cases h
    exact zV_opF (fN_ind (P := zW) hV.1 (fun _ _ _ q => zW_day q))
  · cases h
theorem zV_answer {σ s : ZS} {x y v r : Int32} (hV : zV σ) (h : sp_answer σ x y v = .inr (r, s)) : zV s := by
  unfold sp_answer at h
  by_cases h6 : 0 < σ.1 6
  · rw [if_pos h6] at h
    by_cases h1 : pIn x (σ.1 0) ∧ pIn y (σ.1 4)
    · rw [if_pos h1] at h
      by_cases h2 : v = 107 ∨ v = 114
      · rw [if_pos h2] at h
        by_cases h3 : σ.2.2 17 (ix y) = 117 ∧ revI σ (ix (σ.2.2 16 (ix y))) = x
        · rw [if_pos h3] at h
          cases h
          obtain ⟨j, hj, e⟩ := pIn_idx (by have := hV.1.1.1.bd.2.2.2.2.1; omega) h1.2
          have ej : ix y = j := by rw [e, ix_nI (by have := hV.1.1.1.bd.2.2.2.2.1; omega)]
          have hd : zW (decI σ (ix y) v x) := zW_dec hV.1 (by rw [ej]; exact hj) h3.1 (by rcases h2 with q | q <;> rw [q] <;> decide) (by rcases h2 with q | q <;> rw [q] <;> rfl)
          refine zV_opF ?_
          unfold ansI
          split
          · exact zW_edg hd
          · exact hd
        · rw [if_neg h3] at h; cases h
      · rw [if_neg h2] at h; cases h
    · rw [if_neg h1] at h; cases h
  · rw [if_neg h6] at h; cases h
theorem zV_setLimit {σ s : ZS} {x v : Int32} (hV : zV σ) (h : sp_setLimit σ x = .inr (v, s)) : zV s := by
  unfold sp_setLimit at h
  split at h
  · cases h
    exact ⟨zW_n hV.1 (by decide), hV.2⟩
  · cases h
theorem zV_setGrace {σ s : ZS} {x v : Int32} (hV : zV σ) (h : sp_setGrace σ x = .inr (v, s)) : zV s := by
  unfold sp_setGrace at h
  split at h
  · cases h
    exact ⟨zW_n hV.1 (by decide), hV.2⟩
  · cases h
-- the opening: so many items, all undecided
theorem cntP_all {f : Nat → Int32} : ∀ {n : Nat}, (∀ i, i < n → f i = 117) → cntP f n = n
  | 0, _ => rfl
  | n + 1, h => by
    unfold cntP
    rw [fN_s, if_pos (h n (by omega))]
    exact congrArg (· + 1) (cntP_all (fun i hi => h i (by omega)))
/-- the state while a campaign is opened, g grants looked at -/
def zOp (σ s : ZS) (g : Nat) : Prop := s.1 4 ≤ g ∧ s.1 6 = s.1 4 ∧ (∀ i, i < s.1 4 → s.2.2 17 i = 117 ∧ zIdx (s.2.2 16 i) g) ∧ (∀ i, zC1 (s.2.2 17 i)) ∧ (∀ k, ¬ k = 4 → ¬ k = 6 → s.1 k = σ.1 k) ∧ (∀ k, ¬ k = 3 → s.2.1 k = σ.2.1 k) ∧ (∀ k, ¬ k = 16 → ¬ k = 17 → s.2.2 k = σ.2.2 k)
theorem zOp_N {σ : ZS} {d : Int32} (hK : zK σ) : ∀ g, zOp σ (fN (opnF σ) (uC (uC (uN σ 3 (σ.2.1 0 + d)) 4 0) 6 0) g) g
  | 0 => ⟨Nat.le_refl 0, rfl, fun i hi => absurd hi (Nat.not_lt_zero i), hK.2.1, fun k h4 h6 => by show va_up (va_up σ.1 4 0) 6 0 k = _; simp [va_up, h4, h6], fun k h3 => by show va_up σ.2.1 3 _ k = _; simp [va_up, h3], fun _ _ _ => rfl⟩
  | g + 1 => by
    have ih := zOp_N (d := d) hK g
    rw [fN_s]
    generalize fN (opnF σ) (uC (uC (uN σ 3 (σ.2.1 0 + d)) 4 0) 6 0) g = s at ih ⊢
    obtain ⟨h1, h2, h3, h4, h5, h6, h7⟩ := ih
    by_cases hc : σ.2.2 11 g = 97
    · rw [opnF, if_pos hc]
      refine ⟨?_, ?_, ?_, ?_, ?_, h6, ?_⟩
      · show s.1 4 + 1 ≤ g + 1
        omega
      · show s.1 6 + 1 = s.1 4 + 1
        omega
      · intro i hi
        have hi : i < s.1 4 + 1 := hi
        show (if i = s.1 4 then 117 else s.2.2 17 i) = 117 ∧ zIdx (if i = s.1 4 then nI g else s.2.2 16 i) (g + 1)
        by_cases e : i = s.1 4
        · rw [if_pos e, if_pos e]
          exact ⟨rfl, g, by omega, rfl⟩
        · rw [if_neg e, if_neg e]
          obtain ⟨q1, j, hj, q2⟩ := h3 i (by omega)
          exact ⟨q1, j, by omega, q2⟩
      · exact zC1_u h4 rfl
      · intro k k4 k6
        show va_up (va_up s.1 4 _) 6 _ k = _
        simp only [va_up, if_neg k4, if_neg k6]
        exact h5 k k4 k6
      · intro k k16 k17
        show va_up (va_up s.2.2 16 _) 17 _ k = _
        simp only [va_up, if_neg k16, if_neg k17]
        exact h7 k k16 k17
    · rw [opnF, if_neg hc]
      exact ⟨by omega, h2, fun i hi => by obtain ⟨q1, j, hj, q2⟩ := h3 i hi; exact ⟨q1, j, by omega, q2⟩, h4, h5, h6, h7⟩
