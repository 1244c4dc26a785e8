/-! Holdings told by paths: a person is reached by walking just where the bits say so. -/
/-- the number of paths, as a natural number -/
def wkN (σ : ZS) (q : Nat) : Nat → Nat → Nat
  | 0, _ => 0
  | d + 1, g => fN (fun i acc => if hB (σ.2.2 5 g) i then acc + wkN σ q d i else acc) (if hB (σ.2.2 4 g) q then 1 else 0) (σ.1 1)
theorem wk_eq {σ : ZS} (hI : zI σ) {q : Nat} : ∀ d g, g < σ.1 1 → walkX σ q d (nI g) = nI (wkN σ q d g)
  | 0, _, _ => rfl
  | d + 1, g, hg => by
    rw [walkX_n hI hg, wkN]
    have h : ∀ n, n ≤ σ.1 1 → fN (fun i acc => if hB (σ.2.2 5 g) i then acc + walkX σ q d (nI i) else acc) (bI (hB (σ.2.2 4 g) q)) n = nI (fN (fun i acc => if hB (σ.2.2 5 g) i then acc + wkN σ q d i else acc) (if hB (σ.2.2 4 g) q then 1 else 0) n) := by
      intro n
      induction n with
      | zero =>
        intro _
        show bI (hB (σ.2.2 4 g) q) = nI (if hB (σ.2.2 4 g) q then 1 else 0)
        by_cases h4 : hB (σ.2.2 4 g) q
        · rw [bI_t h4, if_pos h4]; rfl
        · rw [bI_f h4, if_neg h4]; rfl
      | succ n ih =>
        intro hn
        rw [fN_s, fN_s, ih (by omega)]
        by_cases hc : hB (σ.2.2 5 g) n
        · rw [if_pos hc, if_pos hc, wk_eq hI d n (by omega), nI_add]
        · rw [if_neg hc, if_neg hc]
    exact h _ (Nat.le_refl _)
/-- so many paths at most -/
def wkB : Nat → Nat
  | 0 => 0
  | d + 1 => 1 + 8 * wkB d
theorem wk_le {σ : ZS} (hI : zI σ) {q : Nat} : ∀ d g, wkN σ q d g ≤ wkB d
  | 0, _ => Nat.le_refl 0
  | d + 1, g => by
    have b1 := hI.bd.2.1
    rw [wkN, wkB]
    have h : ∀ n, fN (fun i acc => if hB (σ.2.2 5 g) i then acc + wkN σ q d i else acc) (if hB (σ.2.2 4 g) q then 1 else 0) n ≤ 1 + n * wkB d := by
      intro n
      induction n with
      | zero =>
        show (if hB (σ.2.2 4 g) q then 1 else 0) ≤ 1 + 0 * wkB d
        split <;> omega
      | succ n ih =>
        rw [fN_s, Nat.succ_mul]
        have := wk_le hI (q := q) d n
        split <;> omega
    have h1 := h (σ.1 1)
    have h2 : σ.1 1 * wkB d ≤ 8 * wkB d := Nat.mul_le_mul_right _ b1
    omega
theorem wkB_8 : wkB 8 = 2396745 := by decide +kernel
theorem fN_pos {f : Nat → Nat → Nat} {a : Nat} {P : Nat → Prop} (hs : ∀ i x, 0 < f i x ↔ 0 < x ∨ P i) : ∀ n, 0 < fN f a n ↔ 0 < a ∨ ∃ i, i < n ∧ P i
  | 0 => ⟨fun h => Or.inl h, fun h => h.elim id (fun ⟨i, hi, _⟩ => absurd hi (Nat.not_lt_zero i))⟩
  | n + 1 => by
    rw [fN_s, hs, fN_pos hs n]
    constructor
    · rintro ((h | ⟨i, hi, h⟩) | h)
      · exact Or.inl h
      · exact Or.inr ⟨i, by omega, h⟩
      · exact Or.inr ⟨n, by omega, h⟩
    · rintro (h | ⟨i, hi, h⟩)
      · exact Or.inl (Or.inl h)
      · rcases Nat.lt_succ_iff_lt_or_eq.mp hi with z | z
        · exact Or.inl (Or.inr ⟨i, z, h⟩)
        · exact Or.inr (z ▸ h)
theorem below_cases {σ : ZS} (hI : zI σ) {g : Nat} (hg : g < σ.1 1) : ∀ n j, j < σ.1 1 → hB (bl σ g n) j → j = g ∨ ∃ k, k < σ.1 1 ∧ hB (σ.2.2 5 g) k ∧ hB (belowI σ k) j
  | 0, j, hj, h => by
    have b1 := hI.bd.2.1
    exact Or.inl ((hB_bt1 (by omega) (by omega)).mp h).symm
  | n + 1, j, hj, h => by
    have b1 := hI.bd.2.1
    have hP : ∀ j, j < σ.1 1 → hB (fN (belowF σ) (bl σ g n) (σ.1 1)) j → j = g ∨ ∃ k, k < σ.1 1 ∧ hB (σ.2.2 5 g) k ∧ hB (belowI σ k) j := by
      refine fN_ind (P := fun x => ∀ j, j < σ.1 1 → hB x j → j = g ∨ ∃ k, k < σ.1 1 ∧ hB (σ.2.2 5 g) k ∧ hB (belowI σ k) j) (below_cases hI hg n) (fun i x hi hx => ?_)
      unfold belowF
      split
      · rename_i hc
        intro j hj h
        rcases (hB_or (by omega)).mp h with q | q
        · exact hx j hj q
        · rcases hx i hi hc with e | ⟨k, hk, h5, hb⟩
          · subst e
            exact Or.inr ⟨j, hj, q, below_self hI hj⟩
          · exact Or.inr ⟨k, hk, h5, below_cl hI hk hi (by omega) hb q⟩
      · exact hx
    exact hP j hj h
theorem wk_pos {σ : ZS} (hI : zI σ) {q : Nat} : ∀ d g, g < σ.1 1 → rkG σ g ≤ d → (0 < wkN σ q d g ↔ ∃ i, i < σ.1 1 ∧ hB (belowI σ g) i ∧ hB (σ.2.2 4 i) q)
  | 0, g, hg, hr => absurd (rk_pos hI hg) (by omega)
  | d + 1, g, hg, hr => by
    have b1 := hI.bd.2.1
    rw [wkN, fN_pos (P := fun i => hB (σ.2.2 5 g) i ∧ 0 < wkN σ q d i) (fun i x => by
      by_cases hc : hB (σ.2.2 5 g) i
      · rw [if_pos hc]
        exact ⟨fun h => by
          by_cases h0 : 0 < x
          · exact Or.inl h0
          · exact Or.inr ⟨hc, by omega⟩, fun h => by rcases h with h | ⟨-, h⟩ <;> omega⟩
      · rw [if_neg hc]
        exact ⟨fun h => Or.inl h, fun h => h.elim id (fun z => absurd z.1 hc)⟩)]
    constructor
    · rintro (h | ⟨k, hk, h5, hw⟩)
      · by_cases h4 : hB (σ.2.2 4 g) q
        · exact ⟨g, hg, below_self hI hg, h4⟩
        · rw [if_neg h4] at h
          omega
      · obtain ⟨i, hi, hb, h4⟩ := (wk_pos hI d k hk (by have := rk_lt hI hg hk h5; omega)).mp hw
        exact ⟨i, hi, below_tr hI hg hk (below_cl hI hg hg (by omega) (below_self hI hg) h5) _ i (by omega) hb, h4⟩
    · rintro ⟨i, hi, hb, h4⟩
      rcases below_cases hI hg _ i hi hb with e | ⟨k, hk, h5, hb2⟩
      · subst e
        left
        rw [if_pos h4]
        omega
      · exact Or.inr ⟨k, hk, h5, (wk_pos hI d k hk (by have := rk_lt hI hg hk h5; omega)).mpr ⟨i, hi, hb2, h4⟩⟩
theorem mem_hB {σ : ZS} {b : Int32} {q : Nat} (hq : q < 32) : ∀ n, hB (fN (memF σ b) 0 n) q ↔ ∃ i, i < n ∧ hB b i ∧ hB (σ.2.2 4 i) q
  | 0 => ⟨fun h => absurd h (hB_0 hq), fun ⟨i, hi, _⟩ => absurd hi (Nat.not_lt_zero i)⟩
  | n + 1 => by
    rw [fN_s]
    by_cases hc : hB b n
    · rw [memF, if_pos hc, hB_or hq, mem_hB hq n]
      constructor
      · rintro (⟨i, hi, h⟩ | h)
        · exact ⟨i, by omega, h⟩
        · exact ⟨n, by omega, hc, h⟩
      · rintro ⟨i, hi, h⟩
        rcases Nat.lt_succ_iff_lt_or_eq.mp hi with z | z
        · exact Or.inl ⟨i, z, h⟩
        · subst z; exact Or.inr h.2
    · rw [memF, if_neg hc, mem_hB hq n]
      constructor
      · rintro ⟨i, hi, h⟩
        exact ⟨i, by omega, h⟩
      · rintro ⟨i, hi, h⟩
        rcases Nat.lt_succ_iff_lt_or_eq.mp hi with z | z
        · exact ⟨i, z, h⟩
        · subst z; exact absurd h.1 hc
theorem wk_mem {σ : ZS} (hI : zI σ) {q g : Nat} (hq : q < 32) (hg : g < σ.1 1) : 0 < wkN σ q 8 g ↔ hB (memI σ g) q := by
  rw [wk_pos hI 8 g hg (rk_le hI)]
  exact (mem_hB hq _).symm
/-- the ways by which one grant reaches a person -/
def wyN (σ : ZS) (q r g : Nat) : Nat := if actOf σ g (nI r) then (if σ.2.2 21 g = -1 then wkN σ q 8 (ix (σ.2.2 22 g)) else if σ.2.2 21 g = nI q then 1 else 0) else 0
theorem wy_eq {σ : ZS} (hI : zI σ) {q r g : Nat} (hq : q < σ.1 0) (hg : g < σ.1 3) {acc : Nat} : wayF σ q r g (nI acc) = nI (acc + wyN σ q r g) := by
  obtain ⟨b0, b1, -⟩ := hI.bd
  unfold wyN wayF
  by_cases ha : actOf σ g (nI r)
  · rw [if_pos ha, if_pos ha]
    by_cases h1 : σ.2.2 21 g = -1
    · obtain ⟨t, ht, e⟩ := hI.grp g hg h1
      rw [if_pos h1, h1, if_neg (fun z => nI_m1 (by omega) z.symm), e, ix_nI (by omega), wk_eq hI 8 t ht, nI_add]
    · have e22 : σ.2.2 22 g = -1 := by
        rcases hI.tgt g hg with ⟨j, hj, -, e, -⟩ | ⟨j, hj, e, -⟩
        · exact e
        · exact absurd e h1
      rw [if_neg h1, e22, walkX_f pIn_m1, i32_add0]
      by_cases h2 : σ.2.2 21 g = nI q
      · rw [if_pos h2, if_pos h2, nI_1]
      · rw [if_neg h2, if_neg h2, Nat.add_zero]
  · rw [if_neg ha, if_neg ha, Nat.add_zero]
theorem wy_le {σ : ZS} (hI : zI σ) {q r g : Nat} : wyN σ q r g ≤ 2396745 := by
  unfold wyN
  split
  · split
    · have := wk_le hI (q := q) 8 (ix (σ.2.2 22 g))
      rw [wkB_8] at this
      exact this
    · split <;> omega
  · omega
theorem wy_pos {σ : ZS} (hI : zI σ) {q r g : Nat} (hq : q < σ.1 0) (hg : g < σ.1 3) : 0 < wyN σ q r g ↔ actOf σ g (nI r) ∧ hB (reachI σ g) q := by
  obtain ⟨b0, b1, -⟩ := hI.bd
  unfold wyN
  by_cases ha : actOf σ g (nI r)
  · rw [if_pos ha]
    by_cases h1 : σ.2.2 21 g = -1
    · obtain ⟨t, ht, e⟩ := hI.grp g hg h1
      rw [if_pos h1, e, ix_nI (by omega), wk_mem hI (by omega) ht, reachI, if_pos h1, e, if_pos (pIn_nI (by omega) ht), ix_nI (by omega), hI.all t ht]
      exact ⟨fun h => ⟨ha, h⟩, fun h => h.2⟩
    · obtain ⟨j, hj, e⟩ := hI.per g hg h1
      rw [if_neg h1, reachI, if_neg h1, e, ix_nI (by omega), hB_bt1 (by omega) (by omega)]
      by_cases h2 : j = q
      · rw [if_pos (congrArg nI h2)]
        exact ⟨fun _ => ⟨ha, h2⟩, fun _ => by omega⟩
      · rw [if_neg (fun z => h2 ((nI_eq (by omega) (by omega)).mp z))]
        exact ⟨fun h => absurd h (by omega), fun h => absurd h.2 h2⟩
  · rw [if_neg ha]
    exact ⟨fun h => absurd h (by omega), fun h => absurd h.1 ha⟩
theorem way_N {σ : ZS} (hI : zI σ) {q r : Nat} (hq : q < σ.1 0) : ∀ n, n ≤ σ.1 3 → ∃ m, m ≤ n * 2396745 ∧ fN (wayF σ q r) 0 n = nI m ∧ (0 < m ↔ ∃ g, g < n ∧ actOf σ g (nI r) ∧ hB (reachI σ g) q)
  | 0, _ => ⟨0, Nat.zero_le _, rfl, fun h => absurd h (Nat.lt_irrefl 0), fun ⟨g, hg, _⟩ => absurd hg (Nat.not_lt_zero g)⟩
  | n + 1, hn => by
    obtain ⟨m, h1, h2, h3⟩ := way_N hI (r := r) hq n (by omega)
    have hw := wy_le hI (q := q) (r := r) (g := n)
    have hp := wy_pos hI (q := q) (r := r) (g := n) hq (by omega)
    refine ⟨m + wyN σ q r n, by rw [Nat.succ_mul]; exact Nat.add_le_add h1 hw, by rw [fN_s, h2, wy_eq hI hq (by omega)], fun h => ?_, ?_⟩
    · by_cases h0 : 0 < m
      · obtain ⟨g, hg, h⟩ := h3.mp h0
        exact ⟨g, by omega, h⟩
      · exact ⟨n, by omega, hp.mp (by omega)⟩
    · rintro ⟨g, hg, h⟩
      rcases Nat.lt_succ_iff_lt_or_eq.mp hg with z | z
      · have := h3.mpr ⟨g, z, h⟩
        omega
      · subst z
        have := hp.mpr h
        omega
theorem hold_hB {σ : ZS} {r q : Nat} (hq : q < 32) : ∀ n, n ≤ 24 → (hB (fN (holdF σ r (-1)) 0 n) q ↔ ∃ g, g < n ∧ actOf σ g (nI r) ∧ hB (reachI σ g) q)
  | 0, _ => ⟨fun h => absurd h (hB_0 hq), fun ⟨g, hg, _⟩ => absurd hg (Nat.not_lt_zero g)⟩
  | n + 1, hn => by
    have hm : ¬ nI n = -1 := nI_m1 (by omega)
    rw [fN_s]
    by_cases hc : actOf σ n (nI r)
    · rw [holdF, if_pos ⟨hm, hc⟩, hB_or hq, hold_hB hq n (by omega)]
      constructor
      · rintro (⟨i, hi, h⟩ | h)
        · exact ⟨i, by omega, h⟩
        · exact ⟨n, by omega, hc, h⟩
      · rintro ⟨i, hi, h⟩
        rcases Nat.lt_succ_iff_lt_or_eq.mp hi with z | z
        · exact Or.inl ⟨i, z, h⟩
        · subst z; exact Or.inr h.2
    · rw [holdF, if_neg (fun z => hc z.2), hold_hB hq n (by omega)]
      constructor
      · rintro ⟨i, hi, h⟩
        exact ⟨i, by omega, h⟩
      · rintro ⟨i, hi, h⟩
        rcases Nat.lt_succ_iff_lt_or_eq.mp hi with z | z
        · exact ⟨i, z, h⟩
        · subst z; exact absurd h.1 hc
theorem sp_hp {σ : ZS} (hI : zI σ) (x y : Int32) : sp_holdsByPaths σ x y = sp_holds σ x y := by
  obtain ⟨b0, b1, b2, b3, -⟩ := hI.bd
  unfold sp_holdsByPaths sp_holds
  by_cases h : pIn x (σ.1 0) ∧ pIn y (σ.1 2)
  · rw [if_pos h, if_pos h]
    obtain ⟨q, hq, rfl⟩ := pIn_idx (by omega) h.1
    obtain ⟨r, hr, rfl⟩ := pIn_idx (by omega) h.2
    rw [ix_nI (by omega), ix_nI (by omega)]
    obtain ⟨m, h1, h2, h3⟩ := way_N hI (r := r) hq _ (Nat.le_refl _)
    have h4 : 0 < wayI σ q r ↔ 0 < m := by
      rw [wayI, h2]
      exact nI_ltI (a := 0) (by omega) (by omega)
    have e : bI (¬ hB (σ.2.2 8 r) q ∧ 0 < wayI σ q r) = bI (hB (holdI σ r (-1)) q) := by
      refine bI_c ?_
      rw [h4, h3, holdI, hB_and (by omega), hB_not (by omega), hold_hB (by omega) _ b3]
      exact ⟨fun z => ⟨z.2, z.1⟩, fun z => ⟨z.2, z.1⟩⟩
    rw [e]
  · rw [if_neg h, if_neg h]
