/-! The reference's small helpers, in the class's words. -/
theorem or0 (x : Int32) : x ||| 0 = x := gB_ext fun i hi => by rw [gB_or, gB_0]; simp
theorem i32_add0 (x : Int32) : x + 0 = x := Int32.toBitVec_inj.mp (by rw [Int32.toBitVec_add]; simp)
theorem sh_l : ∀ n, n < 32 → ((nI n &&& 31).toBitVec.smod 32).toNat = n := by decide +kernel
theorem gB_shr {k : Nat} (hk : k < 32) (x : Int32) {i : Nat} (hi : i < 32) : gB (x >>> (nI k &&& 31)) i = if k + i < 32 then gB x (k + i) else gB x 31 := by
  unfold gB
  rw [Int32.toBitVec_shiftRight]
  show (x.toBitVec.sshiftRight ((nI k &&& 31).toBitVec.smod 32).toNat).getLsbD i = _
  rw [sh_l k hk, BitVec.getLsbD_sshiftRight, BitVec.msb_eq_getLsbD_last]
  simp [hi]
theorem gB_1 : ∀ i, i < 32 → gB 1 i = decide (i = 0) := by decide +kernel
theorem hB_sh {x : Int32} {k : Nat} (hk : k < 32) : (x >>> (nI k &&& 31)) &&& 1 = 1 ↔ hB x k := by
  rw [hB_g hk]
  constructor
  · intro h
    have h0 : gB ((x >>> (nI k &&& 31)) &&& 1) 0 = gB 1 0 := by rw [h]
    rw [gB_and, gB_shr hk x (by decide), gB_1 0 (by decide), if_pos (by omega)] at h0
    simpa using h0
  · intro h
    refine gB_ext fun i hi => ?_
    rw [gB_and, gB_shr hk x hi, gB_1 i hi]
    by_cases hz : i = 0
    · subst hz
      rw [if_pos (by omega)]
      simp [h]
    · simp [hz]
theorem le_sub1 {x : Int32} {n : Nat} (hn : n < 2 ^ 31) : x ≤ nI n - 1 ↔ x < nI n := by
  rw [Int32.le_iff_toInt_le, Int32.lt_iff_toInt_lt, nI_toInt hn]
  have h1 : (nI n - 1).toInt = (n : Int) - 1 := by
    cases n with
    | zero => decide
    | succ k => rw [nI_pred, nI_toInt (by omega)]; omega
  omega
def sizeI (x : Int32) : Int32 := fN (fun k n => n + bI (hB x k)) 0 16
def insI (σ : ZS) (g : Nat) : Int32 := fN (fun _ acc => belowR σ acc) (bt1 g) (σ.1 1)
-- sets as counts
def crd (x : Int32) : Nat → Nat := fN (fun k c => if hB x k then c + 1 else c) 0
theorem crd_s (x : Int32) (n : Nat) : crd x (n + 1) = if hB x n then crd x n + 1 else crd x n := rfl
theorem crd_le (x : Int32) : ∀ n, crd x n ≤ n
  | 0 => Nat.le_refl 0
  | n + 1 => by
    have := crd_le x n
    rw [crd_s]
    split <;> omega
theorem crd_sub {x y : Int32} : ∀ {n : Nat}, (∀ k, k < n → hB x k → hB y k) → crd x n ≤ crd y n
  | 0, _ => Nat.le_refl 0
  | n + 1, h => by
    have := crd_sub (n := n) (fun k hk => h k (by omega))
    rw [crd_s, crd_s]
    by_cases hx : hB x n
    · rw [if_pos hx, if_pos (h n (by omega) hx)]; omega
    · rw [if_neg hx]
      split <;> omega
theorem crd_lt {x y : Int32} : ∀ {n j : Nat}, (∀ k, k < n → hB x k → hB y k) → j < n → ¬ hB x j → hB y j → crd x n < crd y n
  | n + 1, j, h, hj, hx, hy => by
    rw [crd_s, crd_s]
    by_cases e : j = n
    · subst e
      have := crd_sub (n := j) (fun k hk => h k (by omega))
      rw [if_neg hx, if_pos hy]
      omega
    · have := crd_lt (n := n) (fun k hk => h k (by omega)) (show j < n by omega) hx hy
      by_cases hxn : hB x n
      · rw [if_pos hxn, if_pos (h n (by omega) hxn)]; omega
      · rw [if_neg hxn]
        split <;> omega
theorem belowF_sub {σ : ZS} {acc : Int32} {o k : Nat} (hk : k < 32) (h : hB acc k) : hB (belowF σ o acc) k := by
  unfold belowF
  split
  · exact (hB_or hk).mpr (Or.inl h)
  · exact h
theorem fN_mono {P : Int32 → Prop} {f : Nat → Int32 → Int32} {a : Int32} (h0 : P a) (hs : ∀ i x, P x → P (f i x)) (n : Nat) : P (fN f a n) := fN_ind h0 (fun i x _ h => hs i x h)
theorem belowR_sub {σ : ZS} {acc : Int32} {k : Nat} (hk : k < 32) (h : hB acc k) : hB (belowR σ acc) k := fN_mono (P := fun x => hB x k) h (fun _ _ h => belowF_sub hk h) _
theorem belowR_sm {σ : ZS} (hI : zI σ) {acc : Int32} (h : zSm acc (σ.1 1)) : zSm (belowR σ acc) (σ.1 1) := by
  have hb := hI.bd.2.1
  refine fN_ind (P := fun x => zSm x (σ.1 1)) h (fun i x hi hx => ?_)
  unfold belowF
  split
  · exact zSm_or hx (hI.nst i (by omega))
  · exact hx
def bl (σ : ZS) (g : Nat) : Nat → Int32 := fN (fun _ acc => belowR σ acc) (bt1 g)
theorem bl_s (σ : ZS) (g n : Nat) : bl σ g (n + 1) = belowR σ (bl σ g n) := rfl
theorem bl_sm {σ : ZS} (hI : zI σ) {g : Nat} (hg : g < σ.1 1) : ∀ n, zSm (bl σ g n) (σ.1 1)
  | 0 => zSm_bt1 hg (by have := hI.bd.2.1; omega)
  | n + 1 => belowR_sm hI (bl_sm hI hg n)
theorem bl_self {σ : ZS} {g : Nat} (hg : g < 32) : ∀ n, hB (bl σ g n) g
  | 0 => (hB_bt1 hg hg).mpr rfl
  | n + 1 => belowR_sub hg (bl_self hg n)
theorem bl_step {σ : ZS} (hI : zI σ) {g : Nat} (hg : g < σ.1 1) {n : Nat} (hlow : n + 1 ≤ crd (bl σ g n) (σ.1 1)) : bl σ g (n + 1) = bl σ g n ∨ n + 2 ≤ crd (bl σ g (n + 1)) (σ.1 1) := by
  have hb := hI.bd.2.1
  by_cases e : bl σ g (n + 1) = bl σ g n
  · exact Or.inl e
  · right
    have hsub : ∀ k, k < 32 → hB (bl σ g n) k → hB (bl σ g (n + 1)) k := fun k hk h => by rw [bl_s]; exact belowR_sub hk h
    have hex : ∃ j, j < σ.1 1 ∧ ¬ hB (bl σ g n) j ∧ hB (bl σ g (n + 1)) j := by
      refine Classical.byContradiction fun hno => e (hB_ext fun i hi => ⟨fun h => ?_, hsub i hi⟩)
      by_cases hn : i < σ.1 1
      · exact Classical.byContradiction fun hx => hno ⟨i, hn, hx, h⟩
      · exact absurd h (bl_sm hI hg (n + 1) i (by omega) hi)
    obtain ⟨j, hj, h1, h2⟩ := hex
    have := crd_lt (fun k hk => hsub k (by omega)) hj h1 h2
    omega
theorem bl_grow {σ : ZS} (hI : zI σ) {g : Nat} (hg : g < σ.1 1) (n : Nat) : bl σ g (n + 1) = bl σ g n ∨ n + 2 ≤ crd (bl σ g (n + 1)) (σ.1 1) := by
  have hb := hI.bd.2.1
  induction n with
  | zero =>
    refine bl_step hI hg ?_
    have := crd_lt (x := 0) (y := bl σ g 0) (n := σ.1 1) (j := g) (fun k hk h => absurd h (hB_0 (by omega))) hg (hB_0 (by omega)) (bl_self (by omega) 0)
    omega
  | succ m ih =>
    rcases ih with h | h
    · left
      rw [bl_s, h, ← bl_s, h]
    · exact bl_step hI hg (by omega)
theorem bl_fix {σ : ZS} (hI : zI σ) {g : Nat} (hg : g < σ.1 1) : bl σ g (σ.1 1) = bl σ g (σ.1 1 - 1) := by
  have h1 : σ.1 1 = (σ.1 1 - 1) + 1 := by omega
  rcases bl_grow hI hg (σ.1 1 - 1) with h | h
  · rw [← h1] at h
    exact h
  · have := crd_le (bl σ g (σ.1 1 - 1 + 1)) (σ.1 1)
    omega
theorem insI_eq {σ : ZS} (hI : zI σ) {g : Nat} (hg : g < σ.1 1) : insI σ g = belowI σ g := bl_fix hI hg
-- counts by the JDK and by the reference
theorem sm_nat {x : Int32} (h : zSm x 10) : ∃ n, n < 1024 ∧ x = nI n := by
  refine ⟨x.toBitVec.toNat, ?_, Int32.toBitVec_inj.mp (by show _ = BitVec.ofNat 32 _; simp)⟩
  have : x.toBitVec.toNat < 2 ^ 10 := Nat.lt_pow_two_of_testBit _ (fun i hi => by
    by_cases h32 : i < 32
    · have h1 := h i hi h32
      rw [hB_g h32] at h1
      have h2 : gB x i = false := by cases hg : gB x i <;> simp_all
      exact h2
    · exact Nat.testBit_lt_two_pow (Nat.lt_of_lt_of_le x.toBitVec.isLt (Nat.pow_le_pow_right (by decide) (by omega))))
  exact this
