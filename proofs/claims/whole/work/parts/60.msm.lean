/-! Rows of bits that stay below ten; what two of the reference's calls find in another way. -/
theorem mem_sm {σ : ZS} (hI : zI σ) {g : Nat} : zSm (memI σ g) 10 := by
  have b1 := hI.bd.2.1
  refine fN_ind (P := fun x => zSm x 10) zSm_0 (fun i x hi h => ?_)
  unfold memF
  split
  · exact zSm_or h (hI.dir i (by omega))
  · exact h
theorem reach_sm {σ : ZS} (hI : zI σ) {g : Nat} (hg : g < σ.1 3) : zSm (reachI σ g) 10 := by
  obtain ⟨b0, b1, -⟩ := hI.bd
  unfold reachI
  by_cases hc : σ.2.2 21 g = -1
  · obtain ⟨j, hj, e⟩ := hI.grp g hg hc
    rw [if_pos hc, e, if_pos (pIn_nI (by omega) hj), ix_nI (by omega), hI.all j hj]
    exact mem_sm hI
  · obtain ⟨j, hj, e⟩ := hI.per g hg hc
    rw [if_neg hc, e, ix_nI (by omega)]
    exact zSm_bt1 (by omega) (by decide)
theorem hold_sm {σ : ZS} (hI : zI σ) {r : Nat} {x : Int32} : zSm (holdI σ r x) 10 := by
  refine zSm_and (y := σ.2.2 8 r ^^^ -1) (fN_ind (P := fun x => zSm x 10) zSm_0 (fun i x hi h => ?_))
  unfold holdF
  split
  · exact zSm_or h (reach_sm hI hi)
  · exact h
theorem rgt_sm {σ : ZS} (hI : zI σ) {q : Nat} : zSm (rgtI σ q) 10 := by
  have b2 := hI.bd.2.2.1
  refine fN_ind (P := fun x => zSm x 10) zSm_0 (fun i x hi h => ?_)
  unfold rgtF
  split
  · exact zSm_or h (zSm_bt1 (by omega) (by decide))
  · exact h
/-- the evidence's seals are what a replay of them finds -/
def zE (σ : ZS) : Prop := ∀ e, e < σ.1 5 → replI σ (e + 1) = σ.2.2 15 e
theorem sp_sealBR {σ : ZS} (hb : zBd σ) (hE : zE σ) (x : Int32) : sp_sealByReplay σ x = sp_sealAt σ x := by
  unfold sp_sealByReplay sp_sealAt
  by_cases h : pIn x (σ.1 5)
  · obtain ⟨j, hj, rfl⟩ := pIn_idx (by have := hb.2.2.2.2.2; omega) h
    rw [if_pos h, if_pos h, ix_nI (by have := hb.2.2.2.2.2; omega), hE j hj]
  · rw [if_neg h, if_neg h]
theorem nx_inv {σ : ZS} {x : Int32} : ∀ n, n < 2 ^ 31 → (fN (nxF σ x) (-1, 0) n = (-1, 0)) ∨ ∃ j, j < n ∧ fN (nxF σ x) (-1, 0) n = (nI j, rgI σ (ix (σ.2.2 16 j)))
  | 0, _ => Or.inl rfl
  | n + 1, hn => by
    rw [fN_s]
    have ih := nx_inv (σ := σ) (x := x) n (by omega)
    unfold nxF
    split
    · split
      · exact Or.inr ⟨n, by omega, rfl⟩
      · rcases ih with q | ⟨j, hj, e⟩
        · exact Or.inl q
        · exact Or.inr ⟨j, by omega, e⟩
    · rcases ih with q | ⟨j, hj, e⟩
      · exact Or.inl q
      · exact Or.inr ⟨j, by omega, e⟩
