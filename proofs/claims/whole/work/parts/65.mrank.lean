/-! Groups below others have fewer below them; paths counted to that depth. -/
theorem fb_sub {σ : ZS} {acc : Int32} {n k : Nat} (hk : k < 32) (h : hB acc k) : hB (fN (belowF σ) acc n) k := fN_mono (P := fun x => hB x k) h (fun _ _ h => belowF_sub hk h) n
theorem belowR_in {σ : ZS} {acc : Int32} {o j : Nat} (hj : j < 32) (ho : o < 32) (h1 : hB acc o) (h2 : hB (σ.2.2 5 o) j) : ∀ n, o < n → hB (fN (belowF σ) acc n) j
  | n + 1, hn => by
    rw [fN_s]
    rcases Nat.lt_succ_iff_lt_or_eq.mp hn with q | q
    · exact belowF_sub hj (belowR_in hj ho h1 h2 n q)
    · subst q
      show hB (if hB (fN (belowF σ) acc o) o then fN (belowF σ) acc o ||| σ.2.2 5 o else fN (belowF σ) acc o) j
      rw [if_pos (fb_sub ho h1)]
      exact (hB_or hj).mpr (Or.inr h2)
theorem below_fix {σ : ZS} (hI : zI σ) {g : Nat} (hg : g < σ.1 1) : belowR σ (belowI σ g) = belowI σ g := by
  have e := bl_fix hI hg
  obtain ⟨n, hn⟩ : ∃ n, σ.1 1 = n + 1 := ⟨σ.1 1 - 1, by omega⟩
  have e1 : belowI σ g = bl σ g (σ.1 1 - 1) := rfl
  rw [e1, ← bl_s, show σ.1 1 - 1 + 1 = σ.1 1 by omega]
  exact e
theorem below_cl {σ : ZS} (hI : zI σ) {g o j : Nat} (hg : g < σ.1 1) (ho : o < σ.1 1) (hj : j < 32) (h1 : hB (belowI σ g) o) (h2 : hB (σ.2.2 5 o) j) : hB (belowI σ g) j := by
  have b1 := hI.bd.2.1
  rw [← below_fix hI hg]
  exact belowR_in hj (by omega) h1 h2 (σ.1 1) ho
theorem below_self {σ : ZS} (hI : zI σ) {g : Nat} (hg : g < σ.1 1) : hB (belowI σ g) g := by
  have b1 := hI.bd.2.1
  exact bl_self (by omega) _
theorem below_tr {σ : ZS} (hI : zI σ) {g k : Nat} (hg : g < σ.1 1) (hk : k < σ.1 1) (hk1 : hB (belowI σ g) k) : ∀ n j, j < 32 → hB (bl σ k n) j → hB (belowI σ g) j
  | 0, j, hj, h => by
    have b1 := hI.bd.2.1
    have e : k = j := (hB_bt1 (by omega) hj).mp h
    rw [← e]
    exact hk1
  | n + 1, j, hj, h => by
    have b1 := hI.bd.2.1
    have hP : ∀ j, j < 32 → hB (fN (belowF σ) (bl σ k n) (σ.1 1)) j → hB (belowI σ g) j := by
      refine fN_ind (P := fun x => ∀ j, j < 32 → hB x j → hB (belowI σ g) j) (below_tr hI hg hk hk1 n) (fun i x hi hx => ?_)
      unfold belowF
      split
      · rename_i hc
        intro j hj h
        rcases (hB_or hj).mp h with q | q
        · exact hx j hj q
        · exact below_cl hI hg hi hj (hx i (by omega) hc) q
      · exact hx
    exact hP j hj h
def rkG (σ : ZS) (g : Nat) : Nat := crd (belowI σ g) (σ.1 1)
theorem rk_lt {σ : ZS} (hI : zI σ) {g k : Nat} (hg : g < σ.1 1) (hk : k < σ.1 1) (h : hB (σ.2.2 5 g) k) : rkG σ k < rkG σ g := by
  have b1 := hI.bd.2.1
  exact crd_lt (fun j hj q => below_tr hI hg hk (below_cl hI hg hg (by omega) (below_self hI hg) h) _ j (by omega) q) hg (hI.acy g k hg hk h) (below_self hI hg)
theorem rk_pos {σ : ZS} (hI : zI σ) {g : Nat} (hg : g < σ.1 1) : 0 < rkG σ g := by
  have b1 := hI.bd.2.1
  have := crd_lt (x := 0) (y := belowI σ g) (n := σ.1 1) (j := g) (fun j hj q => absurd q (hB_0 (by omega))) hg (hB_0 (by omega)) (below_self hI hg)
  unfold rkG
  omega
theorem rk_le {σ : ZS} (hI : zI σ) {g : Nat} : rkG σ g ≤ 8 := Nat.le_trans (crd_le _ _) hI.bd.2.1
theorem fN_stop {α : Type} {f : Nat → α → α} {a : α} {n : Nat} : ∀ m, n ≤ m → (∀ i x, n ≤ i → i < m → f i x = x) → fN f a m = fN f a n
  | 0, hm, _ => by rw [show n = 0 by omega]
  | m + 1, hm, h => by
    by_cases e : n = m + 1
    · rw [e]
    · rw [fN_s, h m _ (by omega) (by omega)]
      exact fN_stop m (by omega) (fun i x h1 h2 => h i x h1 (by omega))
theorem walkX_n {σ : ZS} (hI : zI σ) {q d g : Nat} (hg : g < σ.1 1) : walkX σ q (d + 1) (nI g) = fN (fun i acc => if hB (σ.2.2 5 g) i then acc + walkX σ q d (nI i) else acc) (bI (hB (σ.2.2 4 g) q)) (σ.1 1) := by
  have b1 := hI.bd.2.1
  rw [walkX_t (by omega)]
  refine fN_stop 8 b1 (fun i x h1 h2 => ?_)
  exact if_neg (hI.nst g (by omega) i h1 (by omega))
