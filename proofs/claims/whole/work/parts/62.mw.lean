/-! For the reference's writing calls. -/
theorem upd_e {f : Nat → Int32} {i : Nat} {v : Int32} : upd f i v i = v := if_pos rfl
def zBo (σ : ZS) : Prop := ∀ j, j < σ.1 0 → σ.2.2 19 j = 0 ∨ σ.2.2 19 j = 1
theorem abs_v {σ : ZS} (hI : zI σ) (hv : zBo σ) {j : Nat} (hj : j < σ.1 0) : bI (hB (σ.2.1 6) j) = σ.2.2 19 j := by
  rcases hv j hj with e | e
  · rw [e]; exact bI_f (fun q => (hI.abs j hj).mp q e)
  · rw [e]; exact bI_t ((hI.abs j hj).mpr (by rw [e]; decide))
/-- there is such a grant, or no room -/
def mdF (σ : ZS) (r x k : Int32) : Nat → Int32 := fN (fun g b => b ||| bI (actOf σ g r ∧ σ.2.2 25 g = x ∧ σ.2.2 26 g = k)) (bI (σ.1 3 = 24))
abbrev mdP (σ : ZS) (r x k : Int32) : Prop := σ.1 3 = 24 ∨ exB (σ.1 3) (fun g => actOf σ g r ∧ σ.2.2 25 g = x ∧ σ.2.2 26 g = k) = true
theorem bI_or {P P' : Prop} [Decidable P] [Decidable P'] : bI P ||| bI P' = bI (P ∨ P') := by
  by_cases h : P
  · by_cases h2 : P'
    · rw [bI_t h, bI_t h2, bI_t (Or.inl h)]; decide
    · rw [bI_t h, bI_f h2, bI_t (Or.inl h)]; decide
  · by_cases h2 : P'
    · rw [bI_f h, bI_t h2, bI_t (Or.inr h2)]; decide
    · rw [bI_f h, bI_f h2, bI_f (fun q => q.elim h h2)]; decide
theorem mdF_n {σ : ZS} {r x k : Int32} {n : Nat} : mdF σ r x k (n + 1) = mdF σ r x k n ||| bI (actOf σ n r ∧ σ.2.2 25 n = x ∧ σ.2.2 26 n = k) := rfl
theorem mdF_s {σ : ZS} {r x k : Int32} : ∀ n, mdF σ r x k n = bI (σ.1 3 = 24 ∨ exB n (fun g => actOf σ g r ∧ σ.2.2 25 g = x ∧ σ.2.2 26 g = k) = true)
  | 0 => bI_c ⟨fun h => Or.inl h, fun h => h.elim id (fun q => by obtain ⟨g, hg, -⟩ := exB_iff.mp q; omega)⟩
  | n + 1 => by
    show mdF σ r x k n ||| _ = _
    rw [mdF_s n, bI_or]
    refine bI_c ⟨fun h => ?_, fun h => ?_⟩
    · rcases h with (h | h) | h
      · exact Or.inl h
      · obtain ⟨g, hg, q⟩ := exB_iff.mp h
        exact Or.inr (exB_t (by omega) q)
      · exact Or.inr (exB_t (Nat.lt_succ_self n) h)
    · rcases h with h | h
      · exact Or.inl (Or.inl h)
      · obtain ⟨g, hg, q⟩ := exB_iff.mp h
        rcases Nat.lt_succ_iff_lt_or_eq.mp hg with r2 | r2
        · exact Or.inl (Or.inr (exB_t r2 q))
        · exact Or.inr (r2 ▸ q)
theorem mdP_p {σ : ZS} (hI : zI σ) {r : Int32} {j : Nat} (hj : j < σ.1 0) : mdP σ r (nI j) 0 ↔ (hasAct σ r (nI j) (-1) ∨ σ.1 3 = 24) := by
  obtain ⟨b0, b1, -⟩ := hI.bd
  have : ∀ g, g < σ.1 3 → ((actOf σ g r ∧ σ.2.2 25 g = nI j ∧ σ.2.2 26 g = 0) ↔ (actOf σ g r ∧ σ.2.2 21 g = nI j ∧ σ.2.2 22 g = -1)) := fun g hg => by
    rcases hI.tgt g hg with ⟨i, hi, e1, e2, e3, e4⟩ | ⟨i, hi, e1, e2, e3, e4⟩
    · rw [e1, e2, e3, e4]; simp
    · rw [e1, e2, e4]
      exact ⟨fun q => absurd q.2.2 (by decide), fun q => absurd q.2.1.symm (nI_m1 (by omega))⟩
  unfold mdP
  rw [exB_iff, hasAct, exB_iff]
  constructor
  · rintro (h | ⟨g, hg, q⟩)
    · exact Or.inr h
    · exact Or.inl ⟨g, hg, (this g hg).mp q⟩
  · rintro (⟨g, hg, q⟩ | h)
    · exact Or.inr ⟨g, hg, (this g hg).mpr q⟩
    · exact Or.inl h
theorem mdP_g {σ : ZS} (hI : zI σ) {r : Int32} {j : Nat} (hj : j < σ.1 1) : mdP σ r (nI j) 1 ↔ (hasAct σ r (-1) (nI j) ∨ σ.1 3 = 24) := by
  obtain ⟨b0, b1, -⟩ := hI.bd
  have : ∀ g, g < σ.1 3 → ((actOf σ g r ∧ σ.2.2 25 g = nI j ∧ σ.2.2 26 g = 1) ↔ (actOf σ g r ∧ σ.2.2 21 g = -1 ∧ σ.2.2 22 g = nI j)) := fun g hg => by
    rcases hI.tgt g hg with ⟨i, hi, e1, e2, e3, e4⟩ | ⟨i, hi, e1, e2, e3, e4⟩
    · rw [e1, e2, e4]
      exact ⟨fun q => absurd q.2.2 (by decide), fun q => absurd q.2.1 (nI_m1 (by omega))⟩
    · rw [e1, e2, e3, e4]; simp
  unfold mdP
  rw [exB_iff, hasAct, exB_iff]
  constructor
  · rintro (h | ⟨g, hg, q⟩)
    · exact Or.inr h
    · exact Or.inl ⟨g, hg, (this g hg).mp q⟩
  · rintro (⟨g, hg, q⟩ | h)
    · exact Or.inr ⟨g, hg, (this g hg).mpr q⟩
    · exact Or.inl h
def gvS (σ : ZS) (r x k : Int32) : ZS := if mdP σ r x k then uN σ 8 2 else gNew σ r x x x k
theorem gvS_t {σ : ZS} {r x k : Int32} (h : mdP σ r x k) : gvS σ r x k = uN σ 8 2 := if_pos h
theorem gvS_f {σ : ZS} {r x k : Int32} (h : ¬ mdP σ r x k) : gvS σ r x k = gNew σ r x x x k := if_neg h
theorem wM_21 {ad : Nat → Nat} {T : Nat → ClassId} {c : Nat → Nat} {n : Nat → Int32} {a : Nat → Nat → Int32} {f g : Nat → Int32} : wM ad T (c, n, va_up (va_up a 21 f) 22 g) = wM ad T (c, n, a) := rfl
def gBas (σ : ZS) (r tg k : Int32) : ZS := uA (uA (uC (uA (uA (uA σ 10 (upd (σ.2.2 10) (σ.1 3) r)) 11 (upd (σ.2.2 11) (σ.1 3) 97)) 13 (upd (σ.2.2 13) (σ.1 3) (σ.2.1 0))) 3 (σ.1 3 + 1)) 25 (upd (σ.2.2 25) (σ.1 3) tg)) 26 (upd (σ.2.2 26) (σ.1 3) k)
theorem gN_bas {σ : ZS} {r a b tg k : Int32} : gNew σ r a b tg k = uA (uA (gBas σ r tg k) 21 (upd (σ.2.2 21) (σ.1 3) a)) 22 (upd (σ.2.2 22) (σ.1 3) b) := by
  refine Prod.ext rfl (Prod.ext rfl (funext fun j => ?_))
  show va_up (va_up (va_up (va_up (va_up (va_up (va_up σ.2.2 10 _) 21 _) 22 _) 11 _) 13 _) 25 _) 26 _ j = va_up (va_up (va_up (va_up (va_up (va_up (va_up σ.2.2 10 _) 11 _) 13 _) 25 _) 26 _) 21 _) 22 _ j
  unfold va_up
  by_cases h26 : j = 26
  · subst h26; rfl
  · by_cases h25 : j = 25
    · subst h25; rfl
    · by_cases h13 : j = 13
      · subst h13; rfl
      · by_cases h11 : j = 11
        · subst h11; rfl
        · simp only [if_neg h26, if_neg h25, if_neg h13, if_neg h11]
theorem wM_gB {ad : Nat → Nat} {T : Nat → ClassId} {σ : ZS} {r a b tg k : Int32} : wM ad T (gNew σ r a b tg k) = wM ad T (gBas σ r tg k) := (congrArg (wM ad T) gN_bas).trans wM_21
theorem wM_gg {ad : Nat → Nat} {T : Nat → ClassId} {σ : ZS} {r a b c d tg k : Int32} : wM ad T (gNew (uN σ 8 0) r a b tg k) = wM ad T (uN (gNew σ r c d tg k) 8 0) := by
  have e : uN (gNew σ r c d tg k) 8 0 = gNew (uN σ 8 0) r c d tg k := rfl
  rw [e, wM_gB, wM_gB]
