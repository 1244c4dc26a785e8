/-! Stand-ins, seals, decisions: the reference's way and the class's are one. -/
theorem crd_or {x : Int32} {j : Nat} (hj : j < 32) (hx : ¬ hB x j) : ∀ {n : Nat}, n ≤ 32 → crd (x ||| bt1 j) n = crd x n + (if j < n then 1 else 0)
  | 0, _ => rfl
  | n + 1, hn => by
    rw [crd_s, crd_s, crd_or hj hx (n := n) (by omega)]
    by_cases e : j = n
    · subst e
      rw [if_pos ((hB_or hj).mpr (Or.inr ((hB_bt1 hj hj).mpr rfl))), if_neg hx, if_neg (Nat.lt_irrefl j), if_pos (Nat.lt_succ_self j)]
    · have h1 : hB (x ||| bt1 j) n ↔ hB x n := by
        rw [hB_or (by omega), hB_bt1 hj (by omega)]
        exact ⟨fun h => h.resolve_right e, Or.inl⟩
      by_cases hn2 : hB x n
      · rw [if_pos (h1.mpr hn2), if_pos hn2]
        by_cases hl : j < n
        · rw [if_pos hl, if_pos (by omega)]
        · rw [if_neg hl, if_neg (by omega)]
      · rw [if_neg (fun q => hn2 (h1.mp q)), if_neg hn2]
        by_cases hl : j < n
        · rw [if_pos hl, if_pos (by omega)]
        · rw [if_neg hl, if_neg (by omega)]
theorem fpI_m1 {σ : ZS} : ∀ k, fpI σ k (-1) = -1
  | 0 => rfl
  | k + 1 => by rw [fpI, if_neg pIn_m1]
/-- what has been passed: so many people, all absent; a passed one's substitute is passed, or the one at hand -/
def sbP (σ : ZS) (k : Nat) (cur S : Int32) : Prop := crd S (σ.1 0) = k ∧ (∀ j, j < 32 → hB S j → j < σ.1 0 ∧ ¬ σ.2.2 19 j = 0) ∧ (∀ j, j < σ.1 0 → hB S j → σ.2.2 2 j = cur ∨ ∃ i, i < σ.1 0 ∧ σ.2.2 2 j = nI i ∧ hB S i) ∧ zRef cur (σ.1 0)
theorem crd_0 : ∀ {n : Nat}, n ≤ 32 → crd 0 n = 0
  | 0, _ => rfl
  | n + 1, hn => by rw [crd_s, if_neg (hB_0 (by omega)), crd_0 (n := n) (by omega)]
theorem sbP_0 {σ : ZS} {x : Int32} (hI : zI σ) (hx : zRef x (σ.1 0)) : sbP σ 0 x 0 := by
  have hb := hI.bd.1
  exact ⟨crd_0 (by omega), fun j hj h => absurd h (hB_0 hj), fun j hj h => absurd h (hB_0 (by omega)), hx⟩
theorem sbP_s {σ : ZS} (hI : zI σ) {k j : Nat} {S : Int32} (h : sbP σ k (nI j) S) (hj : j < σ.1 0) (ha : ¬ σ.2.2 19 j = 0) (hS : ¬ hB S j) : sbP σ (k + 1) (σ.2.2 2 j) (S ||| bt1 j) := by
  obtain ⟨h1, h2, h3, h4⟩ := h
  have hb := hI.bd.1
  refine ⟨?_, fun i hi hB1 => ?_, fun i hi hB1 => ?_, hI.sub j hj⟩
  · rw [crd_or (by omega) hS (by omega), h1, if_pos hj]
  · rcases (hB_or hi).mp hB1 with q | q
    · exact h2 i hi q
    · have := (hB_bt1 (by omega) hi).mp q
      subst this
      exact ⟨hj, ha⟩
  · rcases (hB_or (by omega)).mp hB1 with q | q
    · rcases h3 i hi q with e | ⟨i2, hi2, e, hB2⟩
      · exact Or.inr ⟨j, hj, e, (hB_or (by omega)).mpr (Or.inr ((hB_bt1 (by omega) (by omega)).mpr rfl))⟩
      · exact Or.inr ⟨i2, hi2, e, (hB_or (by omega)).mpr (Or.inl hB2)⟩
    · have := (hB_bt1 (by omega) (by omega)).mp q
      subst this
      exact Or.inl rfl
theorem sbP_lt {σ : ZS} (hI : zI σ) {k j : Nat} {cur S : Int32} (h : sbP σ k cur S) (hj : j < σ.1 0) (hS : ¬ hB S j) : k < σ.1 0 := by
  have hb := hI.bd.1
  have h1 := h.1
  have h2 : crd (S ||| bt1 j) (σ.1 0) = crd S (σ.1 0) + 1 := by rw [crd_or (by omega) hS (by omega), if_pos hj]
  have := crd_le (S ||| bt1 j) (σ.1 0)
  omega
theorem sb_step {σ : ZS} (hI : zI σ) {k j : Nat} (hk : k < σ.1 0) (hj : j < σ.1 0) (ha : ¬ σ.2.2 19 j = 0) : fpI σ (σ.1 0 - (k + 1)) (σ.2.2 2 j) = fpI σ (σ.1 0 - k) (nI j) := by
  have hb := hI.bd.1
  rw [show σ.1 0 - k = (σ.1 0 - (k + 1)) + 1 by omega, fpI, if_pos (pIn_nI (by omega) hj), ix_nI (by omega), if_neg ha]
theorem sb_here {σ : ZS} (hI : zI σ) {k j : Nat} (hk : k < σ.1 0) (hj : j < σ.1 0) (ha : σ.2.2 19 j = 0) : fpI σ (σ.1 0 - k) (nI j) = nI j := by
  have hb := hI.bd.1
  rw [show σ.1 0 - k = (σ.1 0 - (k + 1)) + 1 by omega, fpI, if_pos (pIn_nI (by omega) hj), ix_nI (by omega), if_pos ha]
theorem sb_loop {σ : ZS} (hI : zI σ) {k j : Nat} {S : Int32} (h : sbP σ k (nI j) S) (hj : j < σ.1 0) (hS : hB S j) : ∀ (m i : Nat), i < σ.1 0 → hB S i → fpI σ m (nI i) = -1
  | 0, _, _, _ => rfl
  | m + 1, i, hi, hSi => by
    have hb := hI.bd.1
    rw [fpI, if_pos (pIn_nI (by omega) hi), ix_nI (by omega), if_neg (h.2.1 i (by omega) hSi).2]
    rcases h.2.2.1 i hi hSi with e | ⟨i2, hi2, e, hS2⟩
    · rw [e]
      exact sb_loop hI h hj hS m j hj hS
    · rw [e]
      exact sb_loop hI h hj hS m i2 hi2 hS2
-- seals
def zR (σ : ZS) : Prop := ∀ e, e < σ.1 5 → ∃ v, v < 65536 ∧ σ.2.2 15 e = nI v
theorem shr11 {v : Nat} (hv : v < 65536) : nI v >>> ((11 : Int32) &&& 31) = ((nI v).toUInt32 >>> ((11 : Int32).toUInt32 &&& Int32.toUInt32 31)).toInt32 := by
  rw [pk_shrN (by omega) _ 11 (by decide), pk_ushrN (by omega) _ 11 (by decide)]
theorem ev5 {σ : ZS} {sg g dy v : Int32} : evAdd (uN σ 5 v) sg g dy = uN (evAdd σ sg g dy) 5 v := by
  unfold evAdd
  by_cases h : 99 ≤ σ.1 5
  · rw [if_pos h, if_pos (show 99 ≤ (uN σ 5 v).1 5 from h)]
  · rw [if_neg h, if_neg (show ¬ 99 ≤ (uN σ 5 v).1 5 from h)]
    rfl
theorem ev6 {σ : ZS} {sg g dy : Int32} {v : Nat} : evAdd (uC σ 6 v) sg g dy = uC (evAdd σ sg g dy) 6 v := by
  unfold evAdd
  by_cases h : 99 ≤ σ.1 5
  · rw [if_pos h, if_pos (show 99 ≤ (uC σ 6 v).1 5 from h)]
  · rw [if_neg h, if_neg (show ¬ 99 ≤ (uC σ 6 v).1 5 from h)]
    refine Prod.ext ?_ rfl
    funext k
    show va_up (va_up σ.1 6 v) 5 (σ.1 5 + 1) k = va_up (va_up σ.1 5 (σ.1 5 + 1)) 6 v k
    unfold va_up
    by_cases h5 : k = 5
    · subst h5; rfl
    · by_cases h6 : k = 6
      · subst h6; rfl
      · rw [if_neg h5, if_neg h6, if_neg h6, if_neg h5]
/-- what the reference writes when it decides -/
def st0 (σ : ZS) (i : Nat) (vd dc : Int32) : ZS := uN (uA (uA σ 17 (upd (σ.2.2 17) i vd)) 18 (upd (σ.2.2 18) i dc)) 4 (σ.2.1 4 + 1)
theorem wM_6 {ad : Nat → Nat} {T : Nat → ClassId} {σ : ZS} {v : Nat} : wM ad T (uC σ 6 v) = wM ad T σ := rfl
theorem settle_k {σ : ZS} {i : Nat} {vd dc : Int32} (h : ¬ vd = 114) : settle σ i vd dc = uC (st0 σ i vd dc) 6 (σ.1 6 - 1) := by
  unfold settle
  dsimp only
  rw [if_neg h]
  rfl
theorem settle_r {σ : ZS} {i : Nat} {vd dc : Int32} (h : vd = 114) : settle σ i vd dc = uN (uC (st0 σ i vd dc) 6 (σ.1 6 - 1)) 5 (σ.2.1 5 + 1) := by
  unfold settle
  dsimp only
  rw [if_pos h]
  rfl
theorem decM_k {ad : Nat → Nat} {T : Nat → ClassId} {σ : ZS} {i g : Nat} {vd dc : Int32} (e : σ.2.2 16 i = nI g) (h : ¬ vd = 114) : wM ad T (decI σ i vd dc) = wM ad T (evAdd (st0 σ i vd dc) vd (nI g) (σ.2.1 0)) := by
  rw [decI_k e h, settle_k h, ev6, wM_6]
  rfl
theorem decM_r {ad : Nat → Nat} {T : Nat → ClassId} {σ : ZS} {i g : Nat} {vd dc : Int32} (e : σ.2.2 16 i = nI g) (hg : g < 2 ^ 31) (h : vd = 114) (s : ZS) (hs : s = evAdd (st0 σ i vd dc) vd (nI g) (σ.2.1 0)) : wM ad T (decI σ i vd dc) = wM ad T (uA (uA (uN s 5 (s.2.1 5 + 1)) 11 (upd (s.2.2 11) g 119)) 12 (upd (s.2.2 12) g (s.2.1 0 + s.2.1 2))) := by
  have h2 : evAdd (settle σ i vd dc) vd (nI g) ((settle σ i vd dc).2.1 0) = uN (uC s 6 (σ.1 6 - 1)) 5 (σ.2.1 5 + 1) := by
    rw [settle_r h, ev5, ev6, hs]
    rfl
  rw [decI_r e hg h _ rfl, h2]
  have h3 : s.2.1 5 = σ.2.1 5 := by rw [hs, ev_n]; rfl
  rw [← h3]
  rfl
theorem zR_ev {σ : ZS} {sg g dy : Int32} (h : zR σ) : zR (evAdd σ sg g dy) := by
  unfold evAdd
  split
  · exact h
  · intro e he
    have he : e < σ.1 5 + 1 := he
    show ∃ v, v < 65536 ∧ upd (σ.2.2 15) (σ.1 5) _ e = nI v
    unfold upd
    split
    · unfold sealI
      generalize ((((if 0 < σ.1 5 then σ.2.2 15 (σ.1 5 - 1) else 0) <<< ((5 : Int32) &&& 31)) ||| ((if 0 < σ.1 5 then σ.2.2 15 (σ.1 5 - 1) else 0).toUInt32 >>> ((11 : Int32).toUInt32 &&& Int32.toUInt32 31)).toInt32)) = a
      generalize (257 * g + 17 * dy + sg) = b
      obtain ⟨u, hu, eu⟩ := pk_andE a (m := 65535) 16 (by decide)
      obtain ⟨w, hw, ew⟩ := pk_andE b (m := 65535) 16 (by decide)
      rw [eu, ew]
      refine ⟨u ^^^ w, Nat.xor_lt_two_pow (n := 16) hu hw, Int32.toBitVec_inj.mp (BitVec.eq_of_toNat_eq ?_)⟩
      have hx : u ^^^ w < 2 ^ 16 := Nat.xor_lt_two_pow hu hw
      rw [Int32.toBitVec_xor, BitVec.toNat_xor, pk_tn (by omega), pk_tn (by omega), pk_tn (by omega)]
    · exact h e (by omega)
theorem zR_dec {σ : ZS} {i : Nat} {vd dc : Int32} (h : zR σ) : zR (decI σ i vd dc) := by
  have h1 : zR (settle σ i vd dc) := by
    unfold settle
    dsimp only
    split <;> exact h
  simp only [decI]
  split
  · have h2 := zR_ev (sg := vd) (g := σ.2.2 16 i) (dy := (settle σ i vd dc).2.1 0) h1
    exact h2
  · exact zR_ev h1
theorem zR_end {σ : ZS} {g : Nat} (h : zR σ) : zR (endI σ g) := by
  unfold endI
  split <;> exact zR_ev (by exact h)
