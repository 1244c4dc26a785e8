/-! States that differ in what the class doesn't hold; the order in which due grants are looked at. -/
def ovl (t s : ZS) : Prop := t.1 = s.1 ∧ (∀ k, ¬ k = 7 → ¬ k = 8 → t.2.1 k = s.2.1 k) ∧ (∀ k, ¬ k = 27 → t.2.2 k = s.2.2 k)
def uK (s : ZS) (b c : Int32) (f : Nat → Int32) : ZS := uA (uN (uN s 7 b) 8 c) 27 f
theorem ovl_rf {s : ZS} : ovl s s := ⟨rfl, fun _ _ _ => rfl, fun _ _ => rfl⟩
theorem ovl_tr {a b c : ZS} (h : ovl a b) (h2 : ovl b c) : ovl a c := ⟨h.1.trans h2.1, fun k h7 h8 => (h.2.1 k h7 h8).trans (h2.2.1 k h7 h8), fun k h7 => (h.2.2 k h7).trans (h2.2.2 k h7)⟩
theorem ovl_sy {a b : ZS} (h : ovl a b) : ovl b a := ⟨h.1.symm, fun k h7 h8 => (h.2.1 k h7 h8).symm, fun k h7 => (h.2.2 k h7).symm⟩
theorem ovl_uK {s : ZS} {b c : Int32} {f : Nat → Int32} : ovl (uK s b c f) s := ⟨rfl, fun k h7 h8 => by show va_up (va_up s.2.1 7 b) 8 c k = _; simp [va_up, h7, h8], fun k h => by show va_up s.2.2 27 f k = _; simp [va_up, h]⟩
theorem ovl_lit {t s : ZS} (h : ovl t s) : t = uK s (t.2.1 7) (t.2.1 8) (t.2.2 27) := Prod.ext h.1 (Prod.ext (funext fun k => by
  show t.2.1 k = va_up (va_up s.2.1 7 (t.2.1 7)) 8 (t.2.1 8) k
  unfold va_up
  by_cases h8 : k = 8
  · rw [if_pos h8, h8]
  · by_cases h7 : k = 7
    · rw [if_neg h8, if_pos h7, h7]
    · rw [if_neg h8, if_neg h7]; exact h.2.1 k h7 h8) (funext fun k => by
  show t.2.2 k = va_up s.2.2 27 (t.2.2 27) k
  unfold va_up
  by_cases h7 : k = 27
  · rw [if_pos h7, h7]
  · rw [if_neg h7]; exact h.2.2 k h7))
theorem ovl_ex {t s : ZS} (h : ovl t s) : ∃ b c f, t = uK s b c f := ⟨_, _, _, ovl_lit h⟩
theorem ovl_uA {t s : ZS} (h : ovl t s) (k : Nat) (f : Nat → Int32) : ovl (uA t k f) (uA s k f) := ⟨h.1, h.2.1, fun j hj => by
  show va_up t.2.2 k f j = va_up s.2.2 k f j
  unfold va_up
  split
  · rfl
  · exact h.2.2 j hj⟩
theorem ovl_uN {t s : ZS} (h : ovl t s) (k : Nat) (v : Int32) : ovl (uN t k v) (uN s k v) := ⟨h.1, fun j h7 h8 => by
  show va_up t.2.1 k v j = va_up s.2.1 k v j
  unfold va_up
  split
  · rfl
  · exact h.2.1 j h7 h8, h.2.2⟩
theorem ovl_uC {t s : ZS} (h : ovl t s) (k : Nat) (v : Nat) : ovl (uC t k v) (uC s k v) := ⟨by show va_up t.1 k v = va_up s.1 k v; rw [h.1], h.2.1, h.2.2⟩
theorem ovl_7 {s : ZS} {v : Int32} : ovl (uN s 7 v) s := ⟨rfl, fun k h7 _ => by show va_up s.2.1 7 v k = _; simp [va_up, h7], fun _ _ => rfl⟩
theorem ovl_8 {s : ZS} {v : Int32} : ovl (uN s 8 v) s := ⟨rfl, fun k _ h8 => by show va_up s.2.1 8 v k = _; simp [va_up, h8], fun _ _ => rfl⟩
theorem ovl_27 {s : ZS} {f : Nat → Int32} : ovl (uA s 27 f) s := ⟨rfl, fun _ _ _ => rfl, fun k h => by show va_up s.2.2 27 f k = _; simp [va_up, h]⟩
theorem ovl_ev {t s : ZS} (h : ovl t s) {sg g dy : Int32} : ovl (evAdd t sg g dy) (evAdd s sg g dy) := by
  obtain ⟨b, c, f, rfl⟩ := ovl_ex h
  unfold evAdd
  by_cases h9 : 99 ≤ s.1 5
  · rw [if_pos h9, if_pos (show 99 ≤ (uK s b c f).1 5 from h9)]
    exact h
  · rw [if_neg h9, if_neg (show ¬ 99 ≤ (uK s b c f).1 5 from h9)]
    exact ovl_uC (ovl_uA (ovl_uA (ovl_uA (ovl_uA h 14 _) 23 _) 24 _) 15 _) 5 _
theorem ovl_end {t s : ZS} (h : ovl t s) {g : Nat} : ovl (endI t g) (endI s g) := by
  obtain ⟨b, c, f, rfl⟩ := ovl_ex h
  unfold endI
  by_cases h9 : s.2.2 21 g = -1
  · rw [if_pos h9, if_pos (show (uK s b c f).2.2 21 g = -1 from h9)]
    exact ovl_ev (ovl_uA h 11 _)
  · rw [if_neg h9, if_neg (show ¬ (uK s b c f).2.2 21 g = -1 from h9)]
    exact ovl_ev (ovl_uA (ovl_uA h 11 _) 8 _)
theorem ovl_settle {t s : ZS} (h : ovl t s) {i : Nat} {vd dc : Int32} : ovl (settle t i vd dc) (settle s i vd dc) := by
  obtain ⟨b, c, f, rfl⟩ := ovl_ex h
  unfold settle
  dsimp only
  by_cases h9 : vd = 114
  · rw [if_pos h9, if_pos h9]
    exact ovl_uN (ovl_uN (ovl_uC (ovl_uA (ovl_uA h 17 _) 18 _) 6 _) 4 _) 5 _
  · rw [if_neg h9, if_neg h9]
    exact ovl_uN (ovl_uC (ovl_uA (ovl_uA h 17 _) 18 _) 6 _) 4 _
theorem ovl_dec {t s : ZS} (h : ovl t s) {i : Nat} {vd dc : Int32} : ovl (decI t i vd dc) (decI s i vd dc) := by
  have h1 := ovl_settle h (i := i) (vd := vd) (dc := dc)
  have e16 : t.2.2 16 = s.2.2 16 := h.2.2 16 (by decide)
  have e0 : (settle t i vd dc).2.1 0 = (settle s i vd dc).2.1 0 := h1.2.1 0 (by decide) (by decide)
  have h2 := ovl_ev h1 (sg := vd) (g := s.2.2 16 i) (dy := (settle s i vd dc).2.1 0)
  simp only [decI]
  rw [e16, e0]
  by_cases h9 : vd = 114
  · rw [if_pos h9, if_pos h9, h2.2.2 11 (by decide), h2.2.2 12 (by decide), h2.2.1 0 (by decide) (by decide), h2.2.1 2 (by decide) (by decide)]
    exact ovl_uA (ovl_uA h2 11 _) 12 _
  · rw [if_neg h9, if_neg h9]
    exact h2
theorem ovl_edg : ∀ (k : Nat) (sn : Int32) {t s : ZS}, ovl t s → ovl (edg k sn t) (edg k sn s)
  | 0, _, _, _, h => h
  | k + 1, sn, t, s, h => by
    obtain ⟨b, c, f, rfl⟩ := ovl_ex h
    have e : firstDue (uK s b c f) ((uK s b c f).2.1 0) sn = firstDue s (s.2.1 0) sn := rfl
    unfold edg
    rw [e]
    split
    · exact h
    · refine ovl_edg k _ ?_
      by_cases h9 : cutI s (ix (firstDue s (s.2.1 0) sn))
      · rw [if_pos h9, if_pos (show cutI (uK s b c f) (ix (firstDue s (s.2.1 0) sn)) from h9)]
        exact h
      · rw [if_neg h9, if_neg (show ¬ cutI (uK s b c f) (ix (firstDue s (s.2.1 0) sn)) from h9)]
        exact ovl_end h
theorem ovl_edgI {t s : ZS} (h : ovl t s) : ovl (edgI t) (edgI s) := by
  unfold edgI
  rw [h.1]
  exact ovl_edg _ _ h
theorem wC_ovl {ad : Nat → Nat} {T : Nat → ClassId} {t s : ZS} (h : ovl t s) : wC ad T t = wC ad T s := by
  obtain ⟨b, c, f, rfl⟩ := ovl_ex h
  rfl
theorem zI_ovl {t s : ZS} (h : ovl t s) (hI : zI s) : zI t := by
  obtain ⟨b, c, f, rfl⟩ := ovl_ex h
  exact hI
theorem zU_ovl {t s : ZS} (h : ovl t s) (hU : zU s) : zU t := by
  obtain ⟨b, c, f, rfl⟩ := ovl_ex h
  exact hU
theorem zR_ovl {t s : ZS} (h : ovl t s) (hR : zR s) : zR t := by
  obtain ⟨b, c, f, rfl⟩ := ovl_ex h
  exact hR
theorem zK_ovl {t s : ZS} (h : ovl t s) (hK : zK s) : zK t := by
  obtain ⟨b, c, f, rfl⟩ := ovl_ex h
  exact hK
-- the order
def dK (σ : ZS) (g : Nat) : Int := (σ.2.2 12 g).toInt
def ltD (σ : ZS) (a b : Nat) : Prop := dK σ a < dK σ b ∨ (dK σ a = dK σ b ∧ a < b)
theorem due_spec {s : ZS} {dy sn : Int32} : ∀ n : Nat, n < 2 ^ 31 → ((fN (dueF s dy sn) (-1, 0) n).1 = -1 ∧ ∀ g, g < n → ¬ dueB s dy sn g) ∨ ∃ g, g < n ∧ fN (dueF s dy sn) (-1, 0) n = (nI g, s.2.2 12 g) ∧ dueB s dy sn g ∧ ∀ g', g' < n → dueB s dy sn g' → g' = g ∨ ltD s g g'
  | 0, _ => Or.inl ⟨rfl, fun g hg => absurd hg (Nat.not_lt_zero g)⟩
  | n + 1, hn31 => by
    rw [fN_s, dueF]
    rcases due_spec (s := s) (dy := dy) (sn := sn) n (by omega) with ⟨h1, h2⟩ | ⟨g, hg, e, hd, hm⟩
    · by_cases hn : dueB s dy sn n
      · rw [if_pos ⟨hn, Or.inl h1⟩]
        refine Or.inr ⟨n, by omega, rfl, hn, fun g' hg' hd' => ?_⟩
        rcases Nat.lt_succ_iff_lt_or_eq.mp hg' with q | q
        · exact absurd hd' (h2 g' q)
        · exact Or.inl q
      · rw [if_neg (fun q => hn q.1)]
        refine Or.inl ⟨h1, fun g hg => ?_⟩
        rcases Nat.lt_succ_iff_lt_or_eq.mp hg with q | q
        · exact h2 g q
        · rw [q]; exact hn
    · rw [e]
      by_cases hc : dueB s dy sn n ∧ (nI g = -1 ∨ s.2.2 12 n < s.2.2 12 g)
      · rw [if_pos hc]
        refine Or.inr ⟨n, by omega, rfl, hc.1, fun g' hg' hd' => ?_⟩
        rcases Nat.lt_succ_iff_lt_or_eq.mp hg' with q | q
        · right
          have hm1 : ¬ nI g = -1 := nI_m1 (by omega)
          have hl := Int32.lt_iff_toInt_lt.mp (hc.2.resolve_left hm1)
          have hl : dK s n < dK s g := hl
          rcases hm g' q hd' with r | r
          · rw [r]; exact Or.inl hl
          · left
            rcases r with r | r <;> omega
        · exact Or.inl q
      · rw [if_neg hc]
        refine Or.inr ⟨g, by omega, rfl, hd, fun g' hg' hd' => ?_⟩
        rcases Nat.lt_succ_iff_lt_or_eq.mp hg' with q | q
        · exact hm g' q hd'
        · subst q
          right
          have hl : ¬ s.2.2 12 g' < s.2.2 12 g := fun r => hc ⟨hd', Or.inr r⟩
          rw [Int32.lt_iff_toInt_lt] at hl
          have hl : ¬ dK s g' < dK s g := hl
          unfold ltD
          omega
/-- the due grants looked at in the order L -/
def fl (σ : ZS) (L : Nat → Nat) : Nat → ZS
  | 0 => σ
  | k + 1 => if cutI (fl σ L k) (L k) then fl σ L k else endI (fl σ L k) (L k)
def cand (σ : ZS) (dy : Int32) (g : Nat) : Prop := σ.2.2 11 g = 119 ∧ σ.2.2 12 g ≤ dy
/-- L tells all grants below m that are due, n of them, in their order -/
def Srt (σ : ZS) (dy : Int32) (L : Nat → Nat) (n m : Nat) : Prop := (∀ k, k < n → L k < m ∧ cand σ dy (L k)) ∧ (∀ c, c < m → cand σ dy c → ∃ k, k < n ∧ L k = c) ∧ (∀ i j, i < j → j < n → ltD σ (L i) (L j))
theorem end_11 {σ : ZS} {g : Nat} : (endI σ g).2.2 11 = upd (σ.2.2 11) g 120 := by
  unfold endI
  split <;> rw [ev_a (by decide) (by decide) (by decide) (by decide)] <;> rfl
theorem fl_keep {σ : ZS} {L : Nat → Nat} : ∀ k, (fl σ L k).1 3 = σ.1 3 ∧ (fl σ L k).2.1 = σ.2.1 ∧ (fl σ L k).2.2 12 = σ.2.2 12 ∧ ∀ g, (∀ j, j < k → ¬ L j = g) → (fl σ L k).2.2 11 g = σ.2.2 11 g
  | 0 => ⟨rfl, rfl, rfl, fun _ _ => rfl⟩
  | k + 1 => by
    obtain ⟨h1, h2, h3, h4⟩ := fl_keep (σ := σ) (L := L) k
    unfold fl
    split
    · exact ⟨h1, h2, h3, fun g hg => h4 g (fun j hj => hg j (by omega))⟩
    · refine ⟨(end_1 (by decide)).trans h1, end_n.trans h2, (end_a (by decide)).trans h3, fun g hg => ?_⟩
      rw [end_11]
      show (if g = L k then 120 else (fl σ L k).2.2 11 g) = _
      rw [if_neg (fun q => hg k (by omega) q.symm)]
      exact h4 g (fun j hj => hg j (by omega))
theorem edg_fl {σ : ZS} {L : Nat → Nat} {n : Nat} (h24 : σ.1 3 ≤ 24) (hS : Srt σ (σ.2.1 0) L n (σ.1 3)) : ∀ (m k : Nat) (sn : Int32), k ≤ n → n ≤ k + m → (∀ g, g < σ.1 3 → (hB sn g ↔ ∃ j, j < k ∧ L j = g)) → edg m sn (fl σ L k) = fl σ L n
  | m, k, sn, hk, hm, hsn => by
    obtain ⟨hA, hB0, hC⟩ := hS
    obtain ⟨h1, h2, h3, h4⟩ := fl_keep (σ := σ) (L := L) k
    have inj : ∀ i j, i < j → j < n → ¬ L i = L j := fun i j hij hj e => by
      have := hC i j hij hj
      rw [e] at this
      rcases this with q | q <;> omega
    have hd : ∀ g, g < σ.1 3 → (dueB (fl σ L k) ((fl σ L k).2.1 0) sn g ↔ ∃ j, k ≤ j ∧ j < n ∧ L j = g) := by
      intro g hg
      constructor
      · rintro ⟨q1, q2, q3⟩
        have hns : ∀ j, j < k → ¬ L j = g := fun j hj e => q3 ((hsn g hg).mpr ⟨j, hj, e⟩)
        rw [h4 g hns] at q1
        rw [h2, h3] at q2
        obtain ⟨j, hj, e⟩ := hB0 g hg ⟨q1, q2⟩
        exact ⟨j, Classical.byContradiction fun hlt => hns j (by omega) e, hj, e⟩
      · rintro ⟨j, hkj, hj, e⟩
        have hc := (hA j hj).2
        have hns : ∀ i, i < k → ¬ L i = g := fun i hi e2 => inj i j (by omega) hj (e2.trans e.symm)
        refine ⟨?_, ?_, fun q => ?_⟩
        · rw [h4 g hns, ← e]; exact hc.1
        · rw [h2, h3, ← e]; exact hc.2
        · obtain ⟨i, hi, e2⟩ := (hsn g hg).mp q
          exact hns i hi e2
    rcases Nat.lt_or_ge k n with hlt | hge
    · obtain ⟨m, rfl⟩ : ∃ m', m = m' + 1 := ⟨m - 1, by omega⟩
      have hLk : L k < σ.1 3 := (hA k hlt).1
      have hf : firstDue (fl σ L k) ((fl σ L k).2.1 0) sn = nI (L k) := by
        unfold firstDue
        rcases due_spec (s := fl σ L k) (dy := (fl σ L k).2.1 0) (sn := sn) ((fl σ L k).1 3) (by omega) with ⟨-, q⟩ | ⟨g, hg, e, hdg, hmin⟩
        · exact absurd ((hd (L k) hLk).mpr ⟨k, Nat.le_refl k, hlt, rfl⟩) (q (L k) (by omega))
        · rw [e]
          show nI g = nI (L k)
          obtain ⟨j, hkj, hj, ej⟩ := (hd g (by omega)).mp hdg
          rcases Nat.lt_or_ge k j with hkj2 | hkj2
          · have l1 := hC k j hkj2 hj
            rcases hmin (L k) (by omega) ((hd (L k) hLk).mpr ⟨k, Nat.le_refl k, hlt, rfl⟩) with q | q
            · rw [q]
            · rw [← ej] at q
              exfalso
              have e1 : ∀ x, dK (fl σ L k) x = dK σ x := fun x => by unfold dK; rw [h3]
              unfold ltD at l1 q
              rw [e1, e1] at q
              omega
          · have : j = k := by omega
            rw [← ej, this]
      have hne : ¬ nI (L k) = -1 := nI_m1 (by omega)
      unfold edg
      rw [hf, if_neg hne, ix_nI (by omega)]
      refine edg_fl h24 ⟨hA, hB0, hC⟩ m (k + 1) _ (by omega) (by omega) (fun g hg => ?_)
      rw [hB_or (by omega), hsn g hg, hB_bt1 (by omega) (by omega)]
      constructor
      · rintro (⟨j, hj, e⟩ | e)
        · exact ⟨j, by omega, e⟩
        · exact ⟨k, by omega, e⟩
      · rintro ⟨j, hj, e⟩
        rcases Nat.lt_succ_iff_lt_or_eq.mp hj with q | q
        · exact Or.inl ⟨j, q, e⟩
        · right; rw [← q]; exact e
    · have hkn : k = n := by omega
      subst hkn
      cases m with
      | zero => rfl
      | succ m =>
        unfold edg
        have hf : firstDue (fl σ L k) ((fl σ L k).2.1 0) sn = -1 := by
          unfold firstDue
          rcases due_spec (s := fl σ L k) (dy := (fl σ L k).2.1 0) (sn := sn) ((fl σ L k).1 3) (by omega) with ⟨q, -⟩ | ⟨g, hg, e, hdg, hmin⟩
          · exact q
          · obtain ⟨j, hkj, hj, ej⟩ := (hd g (by omega)).mp hdg
            omega
        rw [if_pos hf]
theorem edgI_fl {σ : ZS} {L : Nat → Nat} {n : Nat} (h24 : σ.1 3 ≤ 24) (hn : n ≤ σ.1 3) (hS : Srt σ (σ.2.1 0) L n (σ.1 3)) : edgI σ = fl σ L n := edg_fl h24 hS (σ.1 3) 0 0 (by omega) (by omega) (fun g hg => ⟨fun h => absurd h (hB_0 (by omega)), fun ⟨j, hj, _⟩ => absurd hj (Nat.not_lt_zero j)⟩)
