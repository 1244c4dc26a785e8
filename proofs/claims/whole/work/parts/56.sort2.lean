/-! The row of due grants, put in order one by one. -/
def P1 (σ : ZS) (rw1 : Nat → Int32) (L : Nat → Nat) (n g : Nat) : Prop := (∀ k, k < n → rw1 k = nI (L k)) ∧ Srt σ (σ.2.1 0) L n g ∧ n ≤ g
def P2 (σ : ZS) (rw1 : Nat → Int32) (L : Nat → Nat) (n g a : Nat) : Prop := a ≤ n ∧ (∀ k, k < a → rw1 k = nI (L k)) ∧ (∀ k, a ≤ k → k < n → rw1 (k + 1) = nI (L k) ∧ dK σ g < dK σ (L k))
def insL (L : Nat → Nat) (g a : Nat) : Nat → Nat := fun k => if k < a then L k else if k = a then g else L (k - 1)
theorem insL_l {L : Nat → Nat} {g a k : Nat} (h : k < a) : insL L g a k = L k := if_pos h
theorem insL_e {L : Nat → Nat} {g a : Nat} : insL L g a a = g := by unfold insL; rw [if_neg (Nat.lt_irrefl a), if_pos rfl]
theorem insL_g {L : Nat → Nat} {g a k : Nat} (h : a < k) : insL L g a k = L (k - 1) := by unfold insL; rw [if_neg (by omega), if_neg (by omega)]
theorem P1_0 {σ : ZS} {rw1 : Nat → Int32} {L : Nat → Nat} : P1 σ rw1 L 0 0 := ⟨fun k hk => absurd hk (Nat.not_lt_zero k), ⟨fun k hk => absurd hk (Nat.not_lt_zero k), fun c hc => absurd hc (Nat.not_lt_zero c), fun i j _ hj => absurd hj (Nat.not_lt_zero j)⟩, Nat.le_refl 0⟩
theorem P1_skip {σ : ZS} {rw1 : Nat → Int32} {L : Nat → Nat} {n g : Nat} (h : P1 σ rw1 L n g) (hc : ¬ cand σ (σ.2.1 0) g) : P1 σ rw1 L n (g + 1) := by
  obtain ⟨h1, ⟨hA, hB0, hC⟩, h3⟩ := h
  refine ⟨h1, ⟨fun k hk => ⟨by have := (hA k hk).1; omega, (hA k hk).2⟩, fun c hc1 hc2 => ?_, hC⟩, by omega⟩
  rcases Nat.lt_succ_iff_lt_or_eq.mp hc1 with q | q
  · exact hB0 c q hc2
  · exact absurd (q ▸ hc2) hc
theorem P2_0 {σ : ZS} {rw1 : Nat → Int32} {L : Nat → Nat} {n g : Nat} (h : P1 σ rw1 L n g) : P2 σ rw1 L n g n := ⟨Nat.le_refl n, h.1, fun k h1 h2 => absurd h2 (by omega)⟩
theorem P2_s {σ : ZS} {rw1 : Nat → Int32} {L : Nat → Nat} {n g a : Nat} (h : P2 σ rw1 L n g a) (ha : 0 < a) (hlt : dK σ g < dK σ (L (a - 1))) : P2 σ (upd rw1 a (nI (L (a - 1)))) L n g (a - 1) := by
  obtain ⟨h1, h2, h3⟩ := h
  refine ⟨by omega, fun k hk => ?_, fun k hk1 hk2 => ?_⟩
  · show (if k = a then _ else rw1 k) = _
    rw [if_neg (by omega)]
    exact h2 k (by omega)
  · show (if k + 1 = a then _ else rw1 (k + 1)) = _ ∧ _
    by_cases e : k + 1 = a
    · rw [if_pos e, show a - 1 = k by omega] at *
      exact ⟨rfl, hlt⟩
    · rw [if_neg e]
      exact h3 k (by omega) hk2
theorem P12 {σ : ZS} {rw0 rw1 : Nat → Int32} {L : Nat → Nat} {n g a : Nat} (h : P1 σ rw0 L n g) (h2 : P2 σ rw1 L n g a) (hc : cand σ (σ.2.1 0) g) (hx : a = 0 ∨ ¬ dK σ g < dK σ (L (a - 1))) : P1 σ (upd rw1 a (nI g)) (insL L g a) (n + 1) (g + 1) := by
  obtain ⟨-, ⟨hA, hB0, hC⟩, h3⟩ := h
  obtain ⟨a1, a2, a3⟩ := h2
  refine ⟨fun k hk => ?_, ⟨fun k hk => ?_, fun c hc1 hc2 => ?_, fun i j hij hj => ?_⟩, by omega⟩
  · show (if k = a then nI g else rw1 k) = _
    rcases Nat.lt_trichotomy k a with q | q | q
    · rw [if_neg (by omega), insL_l q]; exact a2 k q
    · rw [if_pos q, q, insL_e]
    · rw [if_neg (by omega), insL_g q]
      have := (a3 (k - 1) (by omega) (by omega)).1
      rwa [show k - 1 + 1 = k by omega] at this
  · rcases Nat.lt_trichotomy k a with q | q | q
    · rw [insL_l q]; exact ⟨by have := (hA k (by omega)).1; omega, (hA k (by omega)).2⟩
    · rw [q, insL_e]; exact ⟨by omega, hc⟩
    · rw [insL_g q]; exact ⟨by have := (hA (k - 1) (by omega)).1; omega, (hA (k - 1) (by omega)).2⟩
  · rcases Nat.lt_succ_iff_lt_or_eq.mp hc1 with q | q
    · obtain ⟨k, hk, e⟩ := hB0 c q hc2
      rcases Nat.lt_or_ge k a with r | r
      · exact ⟨k, by omega, by rw [insL_l r]; exact e⟩
      · exact ⟨k + 1, by omega, by rw [insL_g (by omega)]; exact e⟩
    · exact ⟨a, by omega, by rw [insL_e, q]⟩
  · rcases Nat.lt_trichotomy j a with q | q | q
    · rw [insL_l q, insL_l (by omega)]; exact hC i j hij (by omega)
    · rw [q, insL_e, insL_l (by omega)]
      have hx := hx.resolve_left (by omega)
      have l1 := (hA i (by omega)).1
      rcases Nat.lt_or_ge i (a - 1) with r | r
      · have := hC i (a - 1) r (by omega)
        unfold ltD at this ⊢
        omega
      · rw [show a - 1 = i by omega] at hx
        unfold ltD
        omega
    · rw [insL_g q]
      rcases Nat.lt_trichotomy i a with r | r | r
      · rw [insL_l r]; exact hC i (j - 1) (by omega) (by omega)
      · rw [r, insL_e]; exact Or.inl (a3 (j - 1) (by omega) (by omega)).2
      · rw [insL_g r]; exact hC (i - 1) (j - 1) (by omega) (by omega)
theorem srt_ne {σ : ZS} {dy : Int32} {L : Nat → Nat} {n m i j : Nat} (h : Srt σ dy L n m) (hij : i < j) (hj : j < n) : ¬ L i = L j := fun e => by
  have := h.2.2 i j hij hj
  rw [e] at this
  unfold ltD at this
  omega
theorem fl_t {σ : ZS} {L : Nat → Nat} {k : Nat} (h : cutI (fl σ L k) (L k)) : fl σ L (k + 1) = fl σ L k := if_pos h
theorem fl_f {σ : ZS} {L : Nat → Nat} {k : Nat} (h : ¬ cutI (fl σ L k) (L k)) : fl σ L (k + 1) = endI (fl σ L k) (L k) := if_neg h
theorem fl_27 {σ : ZS} {L : Nat → Nat} : ∀ k, (fl σ L k).2.2 27 = σ.2.2 27
  | 0 => rfl
  | k + 1 => by
    unfold fl
    split
    · exact fl_27 k
    · exact (end_a (by decide)).trans (fl_27 k)
theorem zIR_fl {σ : ZS} {L : Nat → Nat} {n : Nat} (hI : zI σ) (hR : zR σ) (hL : ∀ j, j < n → L j < σ.1 3) : ∀ k, k ≤ n → zI (fl σ L k) ∧ zR (fl σ L k)
  | 0, _ => ⟨hI, hR⟩
  | k + 1, hk => by
    obtain ⟨h1, h2⟩ := zIR_fl hI hR hL k (by omega)
    unfold fl
    split
    · exact ⟨h1, h2⟩
    · exact ⟨zI_end h1 (by rw [(fl_keep k).1]; exact hL k (by omega)), zR_end h2⟩
theorem fl_119 {σ : ZS} {rw1 : Nat → Int32} {L : Nat → Nat} {n g k : Nat} (h : P1 σ rw1 L n g) (hk : k < n) : ¬ (fl (uA σ 27 rw1) L k).2.2 11 (L k) = 120 := by
  rw [(fl_keep (σ := uA σ 27 rw1) (L := L) k).2.2.2 (L k) (fun j hj => srt_ne h.2.1 hj hk)]
  have : σ.2.2 11 (L k) = 119 := (h.2.1.1 k hk).2.1
  show ¬ σ.2.2 11 (L k) = 120
  rw [this]
  decide
theorem looks_end {σ : ZS} {rw1 : Nat → Int32} {L : Nat → Nat} {n g k : Nat} (h24 : σ.1 3 ≤ 24) (h : P1 σ rw1 L n g) (hg : g = σ.1 3) (hk : k = n) : ovl (fl (uA σ 27 rw1) L k) (edgI σ) ∧ (fl (uA σ 27 rw1) L k).2.1 = σ.2.1 := by
  subst hk hg
  refine ⟨?_, (fl_keep k).2.1⟩
  rw [← edgI_fl (σ := uA σ 27 rw1) h24 h.2.2 h.2.1]
  exact ovl_edgI ovl_27
theorem wM_27 {ad : Nat → Nat} {T : Nat → ClassId} {σ : ZS} {a b : Nat → Int32} : wM ad T (uA (uA σ 27 a) 27 b) = wM ad T (uA σ 27 b) := rfl
theorem wM_27s {ad : Nat → Nat} {T : Nat → ClassId} {σ : ZS} : wM ad T σ = wM ad T (uA σ 27 (σ.2.2 27)) := rfl
