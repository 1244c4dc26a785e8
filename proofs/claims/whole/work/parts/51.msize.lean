/-! The JDK's count of bits is the reference's, below 1024. -/
set_option maxRecDepth 100000 in
theorem bcnt_size : ∀ n, n < 1024 → bcnt (nI n) = sizeI (nI n) := by decide +kernel
theorem bcnt_sm {x : Int32} (h : zSm x 10) : bcnt x = sizeI x := by
  obtain ⟨n, hn, rfl⟩ := sm_nat h
  exact bcnt_size n hn
/-- a set told by a condition: its size is the count -/
theorem size_cnt {x : Int32} {P : Nat → Prop} [DecidablePred P] {n : Nat} (hn : n ≤ 16) (h : ∀ k, k < 16 → (hB x k ↔ k < n ∧ P k)) : sizeI x = fN (fun o c => if P o then c + 1 else c) (0 : Int32) n := by
  have h1 : ∀ m, m ≤ n → fN (fun k c => c + bI (hB x k)) (0 : Int32) m = fN (fun o c => if P o then c + 1 else c) (0 : Int32) m := by
    intro m
    induction m with
    | zero => intro _; rfl
    | succ m ih =>
      intro hm
      rw [fN_s, fN_s, ih (by omega)]
      by_cases hp : P m
      · rw [bI_t ((h m (by omega)).mpr ⟨by omega, hp⟩), if_pos hp]
      · rw [bI_f (fun q => hp ((h m (by omega)).mp q).2), if_neg hp, i32_add0]
  have h2 : ∀ d, n + d ≤ 16 → fN (fun k c => c + bI (hB x k)) (0 : Int32) (n + d) = fN (fun k c => c + bI (hB x k)) (0 : Int32) n := by
    intro d
    induction d with
    | zero => intro _; rfl
    | succ d ih =>
      intro h16
      rw [← Nat.add_assoc, fN_s, ih (by omega), bI_f (fun q => by have := ((h (n + d) (by omega)).mp q).1; omega), i32_add0]
  unfold sizeI
  have h3 := h2 (16 - n) (by omega)
  rw [show n + (16 - n) = 16 by omega] at h3
  rw [h3, h1 n (Nat.le_refl n)]
