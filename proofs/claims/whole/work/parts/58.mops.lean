/-! What the reference's calls answer, against the class's; days and answers. -/
def mR (xs : List String) (σ : ZS) (r : ZR) (v : Int32) (t : ZS) : Prop := (∃ s, r = .inr (v, s) ∧ ovl t s ∧ t.2.1 7 = s.2.1 7 ∧ t.2.1 8 = 0) ∨ (∃ E k, r = .inl E ∧ xs[k]? = some E ∧ ovl t σ ∧ t.2.1 7 = σ.2.1 7 ∧ t.2.1 8 = nI (k + 1))
theorem mR_ok {xs : List String} {σ : ZS} {r : ZR} {v : Int32} {t s : ZS} (h : r = .inr (v, s)) (ho : ovl t s) (h7 : t.2.1 7 = s.2.1 7) (h8 : t.2.1 8 = 0) : mR xs σ r v t := Or.inl ⟨s, h, ho, h7, h8⟩
theorem mR_f {xs : List String} {σ : ZS} {r : ZR} {v c : Int32} {E : String} (k : Nat) (h : r = .inl E) (hk : xs[k]? = some E) (hc : c = nI (k + 1)) : mR xs σ r v (uN (uN σ 8 0) 8 c) := Or.inr ⟨E, k, h, hk, ovl_tr ovl_8 ovl_8, rfl, hc⟩
theorem mR_f1 {xs : List String} {σ : ZS} {r : ZR} {v c : Int32} {E : String} (k : Nat) (h : r = .inl E) (hk : xs[k]? = some E) (hc : c = nI (k + 1)) : mR xs σ r v (uN σ 8 c) := Or.inr ⟨E, k, h, hk, ovl_8, rfl, hc⟩
theorem mR_r {xs : List String} {σ : ZS} {r : ZR} {v : Int32} {s : ZS} (h : r = .inr (v, s)) : mR xs σ r v (uN s 8 0) := Or.inl ⟨s, h, ovl_8, rfl, rfl⟩
theorem bI_z {P : Prop} [Decidable P] (h : bI P = 0) : ¬ P := fun q => by rw [bI_t q] at h; exact absurd h (by decide)
theorem bI_nz {P : Prop} [Decidable P] (h : ¬ bI P = 0) : P := Classical.byContradiction fun q => h (bI_f q)
theorem edg_kn {σ : ZS} (h : zI σ) : (edgI σ).2.1 = σ.2.1 ∧ (edgI σ).1 6 = σ.1 6 := (edg_keep (P := fun s => s.1 3 ≤ 24 ∧ s.2.1 = σ.2.1 ∧ s.1 6 = σ.1 6) (fun s g hs _ => ⟨by rw [end_1 (by decide)]; exact hs.1, end_n.trans hs.2.1, (end_1 (by decide)).trans hs.2.2⟩) (fun _ hs => hs.1) _ _ _ ⟨h.bd.2.2.2.1, rfl, rfl⟩).2
theorem zR_edg {σ : ZS} (h : zI σ) (hR : zR σ) : zR (edgI σ) := (edg_keep (P := fun s => s.1 3 ≤ 24 ∧ zR s) (fun s g hs _ => ⟨by rw [end_1 (by decide)]; exact hs.1, zR_end hs.2⟩) (fun _ hs => hs.1) _ _ _ ⟨h.bd.2.2.2.1, hR⟩).2
theorem zR_silF {s : ZS} {i : Nat} (h : zR s) : zR (silF i s) := by
  unfold silF
  split
  · exact zR_dec h
  · exact h
theorem zR_silN {σ : ZS} (h : zR σ) (n : Nat) : zR (fN silF σ n) := fN_ind h (fun _ _ _ q => zR_silF q)
theorem silF_n {s : ZS} {i k : Nat} (h4 : ¬ k = 4) (h5 : ¬ k = 5) : (silF i s).2.1 k = s.2.1 k := by
  unfold silF
  split
  · exact dec_n h4 h5
  · rfl
theorem sil_n {σ : ZS} {k : Nat} (h4 : ¬ k = 4) (h5 : ¬ k = 5) : (silI σ).2.1 k = σ.2.1 k := fN_ind (P := fun s : ZS => s.2.1 k = σ.2.1 k) rfl (fun _ _ _ q => (silF_n h4 h5).trans q)
theorem cntP_0 {f : Nat → Int32} : ∀ {n : Nat}, (∀ i, i < n → ¬ f i = 117) → cntP f n = 0
  | 0, _ => rfl
  | n + 1, h => by
    unfold cntP
    rw [fN_s, if_neg (h n (by omega))]
    exact cntP_0 (fun i hi => h i (by omega))
theorem silN_17 {σ : ZS} : ∀ (n i : Nat), i < n → ¬ (fN silF σ n).2.2 17 i = 117
  | n + 1, i, hi => by
    rw [fN_s]
    unfold silF
    split
    · rename_i hc
      rw [dec_17]
      show ¬ (if i = n then _ else (fN silF σ n).2.2 17 i) = 117
      by_cases e : i = n
      · rw [if_pos e]; split <;> decide
      · rw [if_neg e]; exact silN_17 n i (by omega)
    · rename_i hc
      by_cases e : i = n
      · rw [e]; exact hc
      · exact silN_17 n i (by omega)
theorem sil_6 {σ : ZS} (hI : zI σ) (hU : zU σ) : (silI σ).1 6 = 0 := by
  obtain ⟨-, h2, h3, -⟩ := zIU_silN hI hU _ (Nat.le_refl _)
  have h2 : (silI σ).1 6 = cntP ((silI σ).2.2 17) ((silI σ).1 4) := h2
  rw [h2]
  refine cntP_0 (fun i hi => silN_17 (σ.1 4) i ?_)
  have h3 : (silI σ).1 4 = σ.1 4 := h3
  omega
theorem ovl_silF {t s : ZS} (h : ovl t s) {i : Nat} : ovl (silF i t) (silF i s) := by
  obtain ⟨b, c, f, rfl⟩ := ovl_ex h
  unfold silF
  by_cases h9 : s.2.2 17 i = 117
  · rw [if_pos h9, if_pos (show (uK s b c f).2.2 17 i = 117 from h9)]
    exact ovl_dec h
  · rw [if_neg h9, if_neg (show ¬ (uK s b c f).2.2 17 i = 117 from h9)]
    exact h
theorem ovl_sil {t s : ZS} (h : ovl t s) : ovl (silI t) (silI s) := by
  have : ∀ n, ovl (fN silF t n) (fN silF s n) := fun n => by
    induction n with
    | zero => exact h
    | succ n ih => rw [fN_s, fN_s]; exact ovl_silF ih
  unfold silI
  rw [h.1]
  exact this _
def mT (t s : ZS) : Prop := ovl t s ∧ t.2.1 7 = bI (0 < s.1 6) ∧ t.2.1 8 = 0
theorem mT_0 {σ : ZS} (h : σ.2.1 7 = bI (0 < σ.1 6)) : mT (uN σ 8 0) σ := ⟨ovl_8, h, rfl⟩
theorem zIUR_day {σ : ZS} (h : zI σ ∧ zU σ ∧ zR σ) : zI (dayI σ) ∧ zU (dayI σ) ∧ zR (dayI σ) := by
  obtain ⟨h1, h2, h3⟩ := h
  obtain ⟨h4, h5⟩ := zIU_day h1 h2
  refine ⟨h4, h5, ?_⟩
  have h3' : zR (uN σ 0 (σ.2.1 0 + 1)) := h3
  by_cases hc : 0 < σ.1 6 ∧ σ.2.1 0 + 1 = σ.2.1 3
  · rw [dayI_a hc.1 hc.2]
    exact zR_edg (zIU_sil (zI_n0 h1) (zU_n0 h2)).1 (zR_silN h3' _)
  · rw [dayI_b hc]
    exact zR_edg (zI_n0 h1) h3'
theorem passB {s t t2 : ZS} (hs : zI s ∧ zU s ∧ zR s) (hT : mT t s) (h : ¬ (0 < s.1 6 ∧ s.2.1 0 + 1 = s.2.1 3)) (ho : ovl t2 (edgI (uN t 0 (t.2.1 0 + 1)))) (hn : t2.2.1 = (uN t 0 (t.2.1 0 + 1)).2.1) : mT t2 (dayI s) := by
  obtain ⟨h1, h7, h8⟩ := hT
  rw [dayI_b h]
  have e0 : t.2.1 0 = s.2.1 0 := h1.2.1 0 (by decide) (by decide)
  refine ⟨ovl_tr ho (ovl_edgI ?_), ?_, (congrFun hn 8).trans h8⟩
  · rw [e0]; exact ovl_uN h1 0 _
  · rw [(edg_kn (zI_n0 hs.1)).2]
    exact (congrFun hn 7).trans h7
theorem passB1 {s t t2 : ZS} (hs : zI s ∧ zU s ∧ zR s) (hT : mT t s) (h : t.2.1 7 = 0) (ho : ovl t2 (edgI (uN t 0 (t.2.1 0 + 1)))) (hn : t2.2.1 = (uN t 0 (t.2.1 0 + 1)).2.1) : mT t2 (dayI s) := passB hs hT (fun q => bI_z (hT.2.1.symm.trans h) q.1) ho hn
theorem passB2 {s t t2 : ZS} (hs : zI s ∧ zU s ∧ zR s) (hT : mT t s) (h : ¬ t.2.1 0 + 1 = t.2.1 3) (ho : ovl t2 (edgI (uN t 0 (t.2.1 0 + 1)))) (hn : t2.2.1 = (uN t 0 (t.2.1 0 + 1)).2.1) : mT t2 (dayI s) := passB hs hT (fun q => h (by rw [hT.1.2.1 0 (by decide) (by decide), hT.1.2.1 3 (by decide) (by decide)]; exact q.2)) ho hn
theorem passA {s t t2 : ZS} (hs : zI s ∧ zU s ∧ zR s) (hT : mT t s) (hc : ¬ t.2.1 7 = 0) (hd : t.2.1 0 + 1 = t.2.1 3) (ho : ovl t2 (edgI (uN (silI (uN t 0 (t.2.1 0 + 1))) 7 0))) (hn : t2.2.1 = (uN (silI (uN t 0 (t.2.1 0 + 1))) 7 0).2.1) : mT t2 (dayI s) := by
  obtain ⟨h1, h7, h8⟩ := hT
  have e0 : t.2.1 0 = s.2.1 0 := h1.2.1 0 (by decide) (by decide)
  have e3 : t.2.1 3 = s.2.1 3 := h1.2.1 3 (by decide) (by decide)
  have h6 : 0 < s.1 6 := bI_nz (by rw [← h7]; exact hc)
  have z1 : zI (uN s 0 (s.2.1 0 + 1)) := zI_n0 hs.1
  have z2 : zU (uN s 0 (s.2.1 0 + 1)) := zU_n0 hs.2.1
  rw [dayI_a h6 (by rw [← e0, ← e3]; exact hd)]
  refine ⟨ovl_tr ho (ovl_edgI (ovl_tr ovl_7 (ovl_sil ?_))), ?_, ?_⟩
  · rw [e0]; exact ovl_uN h1 0 _
  · rw [(edg_kn (zIU_sil z1 z2).1).2, sil_6 z1 z2, congrFun hn 7]
    rfl
  · rw [congrFun hn 8]
    show (silI (uN t 0 (t.2.1 0 + 1))).2.1 8 = 0
    rw [sil_n (by decide) (by decide)]
    exact h8
theorem mT_cnt {t s : ZS} (ho : ovl t s) (hU : zU s) : cntP (t.2.2 17) (t.1 4) = s.1 6 := (zU_ovl ho hU).symm.trans (congrFun ho.1 6)
def ansF (σ : ZS) (x : Int32) (i : Nat) (v : Int32) (t : ZS) : Prop := ovl t (ansI σ x i v) ∧ t.2.1 8 = 0 ∧ zI (ansI σ x i v) ∧ zU (ansI σ x i v)
theorem ans_k {σ : ZS} {x v : Int32} {i : Nat} (hI : zI σ) (hU : zU σ) (hi : i < σ.1 4) (hu : σ.2.2 17 i = 117) (h117 : ¬ v = 117) (hv : ¬ v = 114) : ansF σ x i v (decI (uN σ 8 0) i v x) := by
  unfold ansF ansI
  rw [if_neg hv]
  exact ⟨ovl_dec ovl_8, dec_n (by decide) (by decide), zI_dec hI, zU_dec hU hi hu h117⟩
theorem ans_r {σ : ZS} {x v : Int32} {i : Nat} {t : ZS} (hI : zI σ) (hU : zU σ) (hi : i < σ.1 4) (hu : σ.2.2 17 i = 117) (h117 : ¬ v = 117) (hv : v = 114) (ho : ovl t (edgI (decI (uN σ 8 0) i v x))) (hn : t.2.1 = (decI (uN σ 8 0) i v x).2.1) : ansF σ x i v t := by
  unfold ansF ansI
  rw [if_pos hv]
  exact ⟨ovl_tr ho (ovl_edgI (ovl_dec ovl_8)), (congrFun hn 8).trans (dec_n (by decide) (by decide)), zI_edg (zI_dec hI), zIU_edg (zI_dec hI) (zU_dec hU hi hu h117)⟩
theorem ans_e {σ : ZS} {x y v b : Int32} {i : Nat} {t : ZS} (h : ansF σ x i v t) (hb : b = bI (0 < (ansI σ x i v).1 6)) (he : sp_answer σ x y v = .inr (nI ((ansI σ x i v).1 6), opF (ansI σ x i v))) : mR [eIS, eNS, eIA, eUO] σ (sp_answer σ x y v) (nI ((ansI σ x i v).1 6)) (uN t 7 b) := mR_ok he (ovl_tr ovl_7 (ovl_tr h.1 (ovl_sy ovl_7))) hb h.2.1
-- the campaign's opening
def cnA (f : Nat → Int32) (n : Nat) : Nat := fN (fun i c => if f i = 97 then c + 1 else c) 0 n
theorem cnA_le {f : Nat → Int32} : ∀ n : Nat, cnA f n ≤ n
  | 0 => Nat.le_refl 0
  | n + 1 => by
    have := cnA_le (f := f) n
    unfold cnA at this ⊢
    rw [fN_s]
    split <;> omega
theorem cnA_0 {f : Nat → Int32} : ∀ {n : Nat}, cnA f n = 0 → ∀ i, i < n → ¬ f i = 97
  | n + 1, h, i, hi => by
    unfold cnA at h
    rw [fN_s] at h
    split at h
    · omega
    · rename_i hc
      rcases Nat.lt_succ_iff_lt_or_eq.mp hi with q | q
      · exact cnA_0 h i q
      · rw [q]; exact hc
theorem cnA_1 {f : Nat → Int32} : ∀ {n : Nat}, (∀ i, i < n → ¬ f i = 97) → cnA f n = 0
  | 0, _ => rfl
  | n + 1, h => by
    unfold cnA
    rw [fN_s, if_neg (h n (by omega))]
    exact cnA_1 (fun i hi => h i (by omega))
theorem fpI_ovl {t s : ZS} (h : ovl t s) : fpI t = fpI s := funext fun k => by
  obtain ⟨b, c, f, rfl⟩ := ovl_ex h
  induction k with
  | zero => rfl
  | succ k ih =>
    funext x
    show (if pIn x (s.1 0) then (if s.2.2 19 (ix x) = 0 then x else fpI (uK s b c f) k (s.2.2 2 (ix x))) else -1) = _
    rw [ih]
    rfl
theorem walkX_ovl {t s : ZS} (h : ovl t s) {p : Nat} : walkX t p = walkX s p := funext fun k => by
  obtain ⟨b, c, f, rfl⟩ := ovl_ex h
  induction k with
  | zero => rfl
  | succ k ih =>
    funext x
    show (if pIn x 8 then fN (fun i acc => if hB (s.2.2 5 (ix x)) i then acc + walkX (uK s b c f) p k (nI i) else acc) (bI (hB (s.2.2 4 (ix x)) p)) 8 else 0) = _
    rw [ih]
    rfl
theorem revI_ovl {t s : ZS} (h : ovl t s) {g : Nat} : revI t g = revI s g := by
  have e := fpI_ovl h
  obtain ⟨b, c, f, rfl⟩ := ovl_ex h
  unfold revI
  unfold revL
  rw [e]
  rfl
theorem revI_8 {s : ZS} {v : Int32} {g : Nat} : revI (uN s 8 v) g = revI s g := revI_ovl ovl_8
