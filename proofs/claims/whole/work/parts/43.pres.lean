/-! Bits; what holds all along is kept by what the days and the answers do. -/
def gB (x : Int32) (j : Nat) : Bool := x.toBitVec.getLsbD j
theorem gB_ext {x y : Int32} (h : ∀ i, i < 32 → gB x i = gB y i) : x = y := Int32.toBitVec_inj.mp (BitVec.eq_of_getLsbD_eq (fun i hi => h i hi))
theorem bt1_tp : ∀ l, l < 32 → (bt1 l).toBitVec = BitVec.twoPow 32 l := by decide +kernel
theorem tp_ne : ∀ l, l < 32 → BitVec.twoPow 32 l ≠ 0#32 := by decide +kernel
theorem hB_g {x : Int32} {j : Nat} (hj : j < 32) : hB x j ↔ gB x j = true := by
  have h1 : (x &&& bt1 j = 0) ↔ gB x j = false := by
    rw [← Int32.toBitVec_inj, Int32.toBitVec_and, bt1_tp j hj, BitVec.and_twoPow]
    show (if gB x j = true then BitVec.twoPow 32 j else 0#32) = 0#32 ↔ _
    cases hg : gB x j
    · simp
    · simp only [if_true]
      exact ⟨fun h => absurd h (tp_ne j hj), fun h => by cases h⟩
  show ¬ (x &&& bt1 j = 0) ↔ _
  rw [h1]
  cases gB x j <;> simp
theorem gB_or (x y : Int32) (j : Nat) : gB (x ||| y) j = (gB x j || gB y j) := by unfold gB; rw [Int32.toBitVec_or, BitVec.getLsbD_or]
theorem gB_and (x y : Int32) (j : Nat) : gB (x &&& y) j = (gB x j && gB y j) := by unfold gB; rw [Int32.toBitVec_and, BitVec.getLsbD_and]
theorem gB_xor (x y : Int32) (j : Nat) : gB (x ^^^ y) j = (gB x j ^^ gB y j) := by unfold gB; rw [Int32.toBitVec_xor, BitVec.getLsbD_xor]
theorem gB_m1 : ∀ i, i < 32 → gB (-1) i = true := by decide +kernel
theorem gB_0 (j : Nat) : gB 0 j = false := BitVec.getLsbD_zero
theorem gB_bt1 {i j : Nat} (hi : i < 32) : gB (bt1 i) j = (decide (i = j)) := by
  unfold gB
  rw [bt1_tp i hi, BitVec.getLsbD_twoPow]
  by_cases h : i = j
  · subst h; simp [hi]
  · simp [h]
theorem hB_or {x y : Int32} {j : Nat} (hj : j < 32) : hB (x ||| y) j ↔ hB x j ∨ hB y j := by rw [hB_g hj, hB_g hj, hB_g hj, gB_or, Bool.or_eq_true]
theorem hB_and {x y : Int32} {j : Nat} (hj : j < 32) : hB (x &&& y) j ↔ hB x j ∧ hB y j := by rw [hB_g hj, hB_g hj, hB_g hj, gB_and, Bool.and_eq_true]
theorem hB_not {x : Int32} {j : Nat} (hj : j < 32) : hB (x ^^^ -1) j ↔ ¬ hB x j := by rw [hB_g hj, hB_g hj, gB_xor, gB_m1 j hj]; cases gB x j <;> simp
theorem hB_xor {x y : Int32} {j : Nat} (hj : j < 32) : hB (x ^^^ y) j ↔ ¬ (hB x j ↔ hB y j) := by rw [hB_g hj, hB_g hj, hB_g hj, gB_xor]; cases gB x j <;> cases gB y j <;> simp
theorem hB_bt1 {i j : Nat} (hi : i < 32) (hj : j < 32) : hB (bt1 i) j ↔ i = j := by rw [hB_g hj, gB_bt1 hi, decide_eq_true_eq]
theorem hB_0 {j : Nat} (hj : j < 32) : ¬ hB 0 j := by rw [hB_g hj, gB_0]; simp
theorem hB_ext {x y : Int32} (h : ∀ i, i < 32 → (hB x i ↔ hB y i)) : x = y := gB_ext fun i hi => by
  have := h i hi
  rw [hB_g hi, hB_g hi] at this
  cases hx : gB x i <;> cases hy : gB y i <;> simp_all
theorem zSm_or {x y : Int32} {n : Nat} (hx : zSm x n) (hy : zSm y n) : zSm (x ||| y) n := fun k h1 h2 h => ((hB_or h2).mp h).elim (hx k h1 h2) (hy k h1 h2)
theorem zSm_and {x y : Int32} {n : Nat} (hx : zSm x n) : zSm (x &&& y) n := fun k h1 h2 h => hx k h1 h2 ((hB_and h2).mp h).1
theorem zSm_xor {x y : Int32} {n : Nat} (hx : zSm x n) (hy : zSm y n) : zSm (x ^^^ y) n := fun k h1 h2 h => (hB_xor h2).mp h ⟨fun q => absurd q (hx k h1 h2), fun q => absurd q (hy k h1 h2)⟩
theorem zSm_bt1 {j n : Nat} (h : j < n) (hn : n ≤ 32) : zSm (bt1 j) n := fun k h1 h2 q => by
  have := (hB_bt1 (by omega) h2).mp q
  omega
theorem zSm_0 {n : Nat} : zSm 0 n := fun k _ h2 => hB_0 h2
theorem zSm_mono {x : Int32} {n m : Nat} (h : zSm x n) (hnm : n ≤ m) : zSm x m := fun k h1 h2 => h k (by omega) h2
theorem upd_all {f : Nat → Int32} {P : Int32 → Prop} {i : Nat} {v : Int32} {n : Nat} (h : ∀ j, j < n → P (f j)) (hv : P v) : ∀ j, j < n → P (upd f i v j) := fun j hj => by
  show P (if j = i then v else f j)
  split
  · exact hv
  · exact h j hj
-- what the evidence, an answer, an end leave as it was
theorem zI_ev {σ : ZS} {sg g dy : Int32} (h : zI σ) : zI (evAdd σ sg g dy) := by
  unfold evAdd
  split
  · exact h
  · obtain ⟨b0, b1, b2, b3, b4, b5⟩ := h.bd
    exact ⟨⟨b0, b1, b2, b3, b4, by show σ.1 5 + 1 ≤ 99; omega⟩, h.2⟩
theorem zI_settle {σ : ZS} {i : Nat} {vd dc : Int32} (h : zI σ) : zI (settle σ i vd dc) := by
  unfold settle
  dsimp only
  split
  · exact h
  · exact h
theorem zI_dec {σ : ZS} {i : Nat} {vd dc : Int32} (h : zI σ) : zI (decI σ i vd dc) := by
  simp only [decI]
  split
  · have h1 := zI_ev (sg := vd) (g := σ.2.2 16 i) (dy := (settle σ i vd dc).2.1 0) (zI_settle (i := i) (vd := vd) (dc := dc) h)
    exact h1
  · exact zI_ev (zI_settle h)
theorem zI_end {σ : ZS} {g : Nat} (h : zI σ) (hg : g < σ.1 3) : zI (endI σ g) := by
  unfold endI
  obtain ⟨b0, b1, b2, b3, b4, b5⟩ := h.bd
  split
  · have h1 : zI (uA σ 11 (upd (σ.2.2 11) g 120)) := h
    exact zI_ev h1
  · rename_i hp
    obtain ⟨j, hj, ej⟩ := h.per g hg hp
    obtain ⟨r, hr, er⟩ := h.gRt g hg
    refine zI_ev ?_
    have hd : ∀ r', r' < 10 → zSm (upd (σ.2.2 8) (ix (σ.2.2 10 g)) (σ.2.2 8 (ix (σ.2.2 10 g)) ||| bt1 (ix (σ.2.2 21 g))) r') 10 := by
      rw [er, ej, ix_nI (by omega), ix_nI (by omega)]
      exact upd_all (P := fun x => zSm x 10) h.den (zSm_or (h.den r (by omega)) (zSm_bt1 (by omega) (by decide)))
    exact ⟨h.1, h.2.1, h.2.2.1, h.2.2.2.1, h.2.2.2.2.1, h.2.2.2.2.2.1, h.2.2.2.2.2.2.1, h.2.2.2.2.2.2.2.1, h.2.2.2.2.2.2.2.2.1, h.2.2.2.2.2.2.2.2.2.1, hd, h.2.2.2.2.2.2.2.2.2.2.2⟩
/-- what is neither written by an end nor by the evidence -/
theorem ev_1 {σ : ZS} {sg g dy : Int32} {k : Nat} (hk : ¬ k = 5) : (evAdd σ sg g dy).1 k = σ.1 k := by
  unfold evAdd
  split
  · rfl
  · show va_up σ.1 5 (σ.1 5 + 1) k = σ.1 k
    unfold va_up
    rw [if_neg hk]
theorem ev_n {σ : ZS} {sg g dy : Int32} : (evAdd σ sg g dy).2.1 = σ.2.1 := by unfold evAdd; split <;> rfl
theorem ev_a {σ : ZS} {sg g dy : Int32} {k : Nat} (h14 : ¬ k = 14) (h15 : ¬ k = 15) (h23 : ¬ k = 23) (h24 : ¬ k = 24) : (evAdd σ sg g dy).2.2 k = σ.2.2 k := by
  unfold evAdd
  split
  · rfl
  · simp [uA, uC, va_up, h14, h15, h23, h24]
theorem st_n {σ : ZS} {i : Nat} {vd dc : Int32} {k : Nat} (h4 : ¬ k = 4) (h5 : ¬ k = 5) : (settle σ i vd dc).2.1 k = σ.2.1 k := by
  unfold settle
  dsimp only
  split <;> simp [uN, uA, uC, va_up, h4, h5]
theorem st_1 {σ : ZS} {i : Nat} {vd dc : Int32} {k : Nat} (hk : ¬ k = 6) : (settle σ i vd dc).1 k = σ.1 k := by
  unfold settle
  dsimp only
  split <;> simp [uN, uA, uC, va_up, hk]
theorem st_6 {σ : ZS} {i : Nat} {vd dc : Int32} : (settle σ i vd dc).1 6 = σ.1 6 - 1 := by
  unfold settle
  dsimp only
  split <;> simp [uN, uA, uC, va_up]
theorem st_a {σ : ZS} {i : Nat} {vd dc : Int32} {k : Nat} (h17 : ¬ k = 17) (h18 : ¬ k = 18) : (settle σ i vd dc).2.2 k = σ.2.2 k := by
  unfold settle
  dsimp only
  split <;> simp [uN, uA, uC, va_up, h17, h18]
theorem st_17 {σ : ZS} {i : Nat} {vd dc : Int32} : (settle σ i vd dc).2.2 17 = upd (σ.2.2 17) i vd := by
  unfold settle
  dsimp only
  split <;> simp [uN, uA, uC, va_up]
theorem st_18 {σ : ZS} {i : Nat} {vd dc : Int32} : (settle σ i vd dc).2.2 18 = upd (σ.2.2 18) i dc := by
  unfold settle
  dsimp only
  split <;> simp [uN, uA, uC, va_up]
theorem dec_1 {σ : ZS} {i : Nat} {vd dc : Int32} {k : Nat} (h5 : ¬ k = 5) (h6 : ¬ k = 6) : (decI σ i vd dc).1 k = σ.1 k := by
  simp only [decI]
  split
  · show (evAdd _ _ _ _).1 k = _
    rw [ev_1 h5, st_1 h6]
  · rw [ev_1 h5, st_1 h6]
theorem dec_6 {σ : ZS} {i : Nat} {vd dc : Int32} : (decI σ i vd dc).1 6 = σ.1 6 - 1 := by
  simp only [decI]
  split
  · show (evAdd _ _ _ _).1 6 = _
    rw [ev_1 (by decide), st_6]
  · rw [ev_1 (by decide), st_6]
theorem dec_n {σ : ZS} {i : Nat} {vd dc : Int32} {k : Nat} (h4 : ¬ k = 4) (h5 : ¬ k = 5) : (decI σ i vd dc).2.1 k = σ.2.1 k := by
  simp only [decI]
  split
  · show (evAdd _ _ _ _).2.1 k = _
    rw [ev_n, st_n h4 h5]
  · rw [ev_n, st_n h4 h5]
theorem dec_a {σ : ZS} {i : Nat} {vd dc : Int32} {k : Nat} (h : ¬ k = 11 ∧ ¬ k = 12 ∧ ¬ k = 14 ∧ ¬ k = 15 ∧ ¬ k = 17 ∧ ¬ k = 18 ∧ ¬ k = 23 ∧ ¬ k = 24) : (decI σ i vd dc).2.2 k = σ.2.2 k := by
  obtain ⟨h11, h12, h14, h15, h17, h18, h23, h24⟩ := h
  simp only [decI]
  split
  · simp only [uA, va_up, if_neg h11, if_neg h12]
    rw [ev_a h14 h15 h23 h24, st_a h17 h18]
  · rw [ev_a h14 h15 h23 h24, st_a h17 h18]
theorem dec_17 {σ : ZS} {i : Nat} {vd dc : Int32} : (decI σ i vd dc).2.2 17 = upd (σ.2.2 17) i vd := by
  simp only [decI]
  split
  · show (evAdd _ _ _ _).2.2 17 = _
    rw [ev_a (by decide) (by decide) (by decide) (by decide), st_17]
  · rw [ev_a (by decide) (by decide) (by decide) (by decide), st_17]
theorem end_1 {σ : ZS} {g : Nat} {k : Nat} (h5 : ¬ k = 5) : (endI σ g).1 k = σ.1 k := by
  unfold endI
  split <;> rw [ev_1 h5] <;> rfl
theorem end_n {σ : ZS} {g : Nat} : (endI σ g).2.1 = σ.2.1 := by
  unfold endI
  split <;> rw [ev_n] <;> rfl
theorem end_a {σ : ZS} {g : Nat} {k : Nat} (h : ¬ k = 8 ∧ ¬ k = 11 ∧ ¬ k = 14 ∧ ¬ k = 15 ∧ ¬ k = 23 ∧ ¬ k = 24) : (endI σ g).2.2 k = σ.2.2 k := by
  obtain ⟨h8, h11, h14, h15, h23, h24⟩ := h
  unfold endI
  split <;> rw [ev_a h14 h15 h23 h24] <;> simp [uA, va_up, h8, h11]
-- how many items are undecided
def cntP (f : Nat → Int32) (n : Nat) : Nat := fN (fun i c => if f i = 117 then c + 1 else c) 0 n
theorem cntP_upd {f : Nat → Int32} {i : Nat} {v : Int32} (hf : f i = 117) (hv : ¬ v = 117) : ∀ {n : Nat}, i < n → cntP (upd f i v) n + 1 = cntP f n
  | n + 1, hi => by
    have same : ∀ m, m ≤ i → cntP (upd f i v) m = cntP f m := by
      intro m
      induction m with
      | zero => intro _; rfl
      | succ m ih =>
        intro hm
        show (if upd f i v m = 117 then cntP (upd f i v) m + 1 else cntP (upd f i v) m) = if f m = 117 then cntP f m + 1 else cntP f m
        rw [ih (by omega), show upd f i v m = f m from if_neg (by omega)]
    show (if upd f i v n = 117 then cntP (upd f i v) n + 1 else cntP (upd f i v) n) + 1 = if f n = 117 then cntP f n + 1 else cntP f n
    by_cases h : n = i
    · subst h
      rw [same n (Nat.le_refl n), show upd f n v n = v from if_pos rfl, if_neg hv, if_pos hf]
    · have := cntP_upd hf hv (show i < n by omega)
      rw [show upd f i v n = f n from if_neg h]
      split <;> omega
theorem cntP_pos {f : Nat → Int32} {i : Nat} (hf : f i = 117) : ∀ {n : Nat}, i < n → 0 < cntP f n
  | n + 1, hi => by
    show 0 < if f n = 117 then cntP f n + 1 else cntP f n
    by_cases h : n = i
    · subst h
      rw [if_pos hf]
      omega
    · have := cntP_pos hf (show i < n by omega)
      split <;> omega
theorem cntP_le {f : Nat → Int32} : ∀ n : Nat, cntP f n ≤ n
  | 0 => Nat.le_refl 0
  | n + 1 => by
    have := cntP_le (f := f) n
    show (if f n = 117 then cntP f n + 1 else cntP f n) ≤ n + 1
    split <;> omega
def zU (σ : ZS) : Prop := σ.1 6 = cntP (σ.2.2 17) (σ.1 4)
theorem zU_dec {σ : ZS} {i : Nat} {vd dc : Int32} (h : zU σ) (hi : i < σ.1 4) (hu : σ.2.2 17 i = 117) (hv : ¬ vd = 117) : zU (decI σ i vd dc) := by
  unfold zU at h ⊢
  rw [dec_6, dec_17, dec_1 (by decide) (by decide), h]
  have := cntP_upd hu hv hi
  omega
theorem zU_end {σ : ZS} {g : Nat} (h : zU σ) : zU (endI σ g) := by
  unfold zU at h ⊢
  rw [end_1 (by decide), end_1 (by decide), end_a (by decide)]
  exact h
-- the first that is due
theorem due_idx {s : ZS} {dy sn : Int32} : ∀ n : Nat, (fN (dueF s dy sn) (-1, 0) n).1 = -1 ∨ ∃ g, g < n ∧ (fN (dueF s dy sn) (-1, 0) n).1 = nI g ∧ dueB s dy sn g
  | 0 => Or.inl rfl
  | n + 1 => by
    rw [fN_s, dueF]
    split
    · rename_i h
      exact Or.inr ⟨n, by omega, rfl, h.1⟩
    · rcases due_idx (s := s) (dy := dy) (sn := sn) n with h | ⟨g, hg, e, hd⟩
      · exact Or.inl h
      · exact Or.inr ⟨g, by omega, e, hd⟩
theorem firstDue_idx {s : ZS} {dy sn : Int32} (h : ¬ firstDue s dy sn = -1) : ∃ g, g < s.1 3 ∧ firstDue s dy sn = nI g ∧ dueB s dy sn g := (due_idx (s.1 3)).resolve_left h
theorem edg_keep {P : ZS → Prop} (hP : ∀ s g, P s → g < s.1 3 → P (endI s g)) (hb : ∀ s, P s → s.1 3 ≤ 24) : ∀ (k : Nat) (sn : Int32) (s : ZS), P s → P (edg k sn s)
  | 0, _, _, h => h
  | k + 1, sn, s, h => by
    unfold edg
    split
    · exact h
    · rename_i hd
      obtain ⟨g, hg, e, -⟩ := firstDue_idx hd
      have hb1 := hb s h
      rw [e, ix_nI (by omega)]
      split
      · exact edg_keep hP hb k _ _ h
      · exact edg_keep hP hb k _ _ (hP s g h hg)
theorem zI_edg {σ : ZS} (h : zI σ) : zI (edgI σ) := edg_keep (P := zI) (fun _ _ h hg => zI_end h hg) (fun _ h => h.bd.2.2.2.1) _ _ _ h
theorem zIU_edg {σ : ZS} (h : zI σ) (hu : zU σ) : zU (edgI σ) := (edg_keep (P := fun s => zI s ∧ zU s) (fun _ _ h hg => ⟨zI_end h.1 hg, zU_end h.2⟩) (fun _ h => h.1.bd.2.2.2.1) _ _ _ ⟨h, hu⟩).2
theorem fN_ind {α : Type} {f : Nat → α → α} {P : α → Prop} {a : α} (h0 : P a) {n : Nat} (hs : ∀ i x, i < n → P x → P (f i x)) : P (fN f a n) := by
  have : ∀ m, m ≤ n → P (fN f a m) := by
    intro m
    induction m with
    | zero => exact fun _ => h0
    | succ m ih => exact fun hm => hs m _ (by omega) (ih (by omega))
  exact this n (Nat.le_refl n)
theorem zIU_silF {s : ZS} {i : Nat} (h : zI s ∧ zU s) (hi : i < s.1 4) : zI (silF i s) ∧ zU (silF i s) := by
  unfold silF
  split
  · rename_i hv
    refine ⟨zI_dec h.1, zU_dec h.2 hi hv ?_⟩
    split <;> decide
  · exact h
theorem silF_1 {s : ZS} {i k : Nat} (h5 : ¬ k = 5) (h6 : ¬ k = 6) : (silF i s).1 k = s.1 k := by
  unfold silF
  split
  · exact dec_1 h5 h6
  · rfl
theorem zIU_silN {σ : ZS} (h : zI σ) (hu : zU σ) : ∀ n, n ≤ σ.1 4 → zI (fN silF σ n) ∧ zU (fN silF σ n) ∧ (fN silF σ n).1 4 = σ.1 4 ∧ (fN silF σ n).1 3 = σ.1 3
  | 0, _ => ⟨h, hu, rfl, rfl⟩
  | n + 1, hn => by
    obtain ⟨h1, h2, h3, h4⟩ := zIU_silN h hu n (by omega)
    rw [fN_s]
    obtain ⟨h5, h6⟩ := zIU_silF (i := n) ⟨h1, h2⟩ (by omega)
    exact ⟨h5, h6, (silF_1 (by decide) (by decide)).trans h3, (silF_1 (by decide) (by decide)).trans h4⟩
theorem zIU_sil {σ : ZS} (h : zI σ) (hu : zU σ) : zI (silI σ) ∧ zU (silI σ) := ⟨(zIU_silN h hu _ (Nat.le_refl _)).1, (zIU_silN h hu _ (Nat.le_refl _)).2.1⟩
theorem zI_n0 {σ : ZS} {v : Int32} (h : zI σ) : zI (uN σ 0 v) := h
theorem zU_n0 {σ : ZS} {v : Int32} (h : zU σ) : zU (uN σ 0 v) := h
theorem zIU_day {σ : ZS} (h : zI σ) (hu : zU σ) : zI (dayI σ) ∧ zU (dayI σ) := by
  simp only [dayI]
  split
  · have h1 := zIU_sil (zI_n0 (v := σ.2.1 0 + 1) h) (zU_n0 (v := σ.2.1 0 + 1) hu)
    exact ⟨zI_edg h1.1, zIU_edg h1.1 h1.2⟩
  · exact ⟨zI_edg (zI_n0 h), zIU_edg (zI_n0 h) (zU_n0 hu)⟩
theorem dayI_a {s : ZS} (h1 : 0 < s.1 6) (h2 : s.2.1 0 + 1 = s.2.1 3) : dayI s = edgI (silI (uN s 0 (s.2.1 0 + 1))) := by
  exact congrArg edgI (if_pos (show 0 < (uN s 0 (s.2.1 0 + 1)).1 6 ∧ (uN s 0 (s.2.1 0 + 1)).2.1 0 = (uN s 0 (s.2.1 0 + 1)).2.1 3 from ⟨h1, h2⟩))
theorem dayI_b {s : ZS} (h : ¬ (0 < s.1 6 ∧ s.2.1 0 + 1 = s.2.1 3)) : dayI s = edgI (uN s 0 (s.2.1 0 + 1)) := by
  exact congrArg edgI (if_neg (show ¬ (0 < (uN s 0 (s.2.1 0 + 1)).1 6 ∧ (uN s 0 (s.2.1 0 + 1)).2.1 0 = (uN s 0 (s.2.1 0 + 1)).2.1 3) from h))
