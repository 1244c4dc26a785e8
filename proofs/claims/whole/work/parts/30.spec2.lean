/-! What holds of the state all along (zI), and what the class's own private methods compute. -/
/-- a grant's receiver: a person or a group, as the class and as the reference hold it -/
def zTgt (σ : ZS) (g : Nat) : Prop := (∃ j, j < σ.1 0 ∧ σ.2.2 21 g = nI j ∧ σ.2.2 22 g = -1 ∧ σ.2.2 25 g = nI j ∧ σ.2.2 26 g = 0) ∨ (∃ j, j < σ.1 1 ∧ σ.2.2 21 g = -1 ∧ σ.2.2 22 g = nI j ∧ σ.2.2 25 g = nI j ∧ σ.2.2 26 g = 1)
/-- x has no bit at or above n -/
def zSm (x : Int32) (n : Nat) : Prop := ∀ k, n ≤ k → k < 32 → ¬ hB x k
def zI (σ : ZS) : Prop := zBd σ ∧
  (∀ j, j < σ.1 0 → zRef (σ.2.2 1 j) (σ.1 0)) ∧ (∀ j, j < σ.1 0 → zRef (σ.2.2 2 j) (σ.1 0)) ∧
  (∀ g, g < σ.1 1 → zIdx (σ.2.2 3 g) (σ.1 0)) ∧ (∀ r, r < σ.1 2 → zIdx (σ.2.2 7 r) (σ.1 0)) ∧
  (∀ g, g < σ.1 3 → zIdx (σ.2.2 10 g) (σ.1 2)) ∧ (∀ g, g < σ.1 3 → zTgt σ g) ∧
  (∀ i, i < σ.1 4 → zIdx (σ.2.2 16 i) (σ.1 3)) ∧
  (∀ q, q < σ.1 0 → (hB (σ.2.1 6) q ↔ ¬ σ.2.2 19 q = 0)) ∧
  (∀ g, g < 8 → zSm (σ.2.2 4 g) 10) ∧ (∀ r, r < 10 → zSm (σ.2.2 8 r) 10) ∧
  (∀ g, g < 8 → zSm (σ.2.2 5 g) (σ.1 1)) ∧ (∀ g, σ.1 1 ≤ g → g < 8 → σ.2.2 4 g = 0 ∧ σ.2.2 5 g = 0 ∧ σ.2.2 20 g = 0) ∧
  (∀ g k, g < σ.1 1 → k < σ.1 1 → hB (σ.2.2 5 g) k → ¬ hB (belowI σ k) g) ∧
  (∀ g, g < σ.1 1 → σ.2.2 20 g = memI σ g)
theorem zI.bd {σ : ZS} (h : zI σ) : zBd σ := h.1
theorem zI.mgr {σ : ZS} (h : zI σ) : ∀ j, j < σ.1 0 → zRef (σ.2.2 1 j) (σ.1 0) := h.2.1
theorem zI.sub {σ : ZS} (h : zI σ) : ∀ j, j < σ.1 0 → zRef (σ.2.2 2 j) (σ.1 0) := h.2.2.1
theorem zI.gOw {σ : ZS} (h : zI σ) : ∀ g, g < σ.1 1 → zIdx (σ.2.2 3 g) (σ.1 0) := h.2.2.2.1
theorem zI.rOw {σ : ZS} (h : zI σ) : ∀ r, r < σ.1 2 → zIdx (σ.2.2 7 r) (σ.1 0) := h.2.2.2.2.1
theorem zI.gRt {σ : ZS} (h : zI σ) : ∀ g, g < σ.1 3 → zIdx (σ.2.2 10 g) (σ.1 2) := h.2.2.2.2.2.1
theorem zI.tgt {σ : ZS} (h : zI σ) : ∀ g, g < σ.1 3 → zTgt σ g := h.2.2.2.2.2.2.1
theorem zI.itm {σ : ZS} (h : zI σ) : ∀ i, i < σ.1 4 → zIdx (σ.2.2 16 i) (σ.1 3) := h.2.2.2.2.2.2.2.1
theorem zI.abs {σ : ZS} (h : zI σ) : ∀ q, q < σ.1 0 → (hB (σ.2.1 6) q ↔ ¬ σ.2.2 19 q = 0) := h.2.2.2.2.2.2.2.2.1
theorem zI.dir {σ : ZS} (h : zI σ) : ∀ g, g < 8 → zSm (σ.2.2 4 g) 10 := h.2.2.2.2.2.2.2.2.2.1
theorem zI.den {σ : ZS} (h : zI σ) : ∀ r, r < 10 → zSm (σ.2.2 8 r) 10 := h.2.2.2.2.2.2.2.2.2.2.1
theorem zI.nst {σ : ZS} (h : zI σ) : ∀ g, g < 8 → zSm (σ.2.2 5 g) (σ.1 1) := h.2.2.2.2.2.2.2.2.2.2.2.1
theorem zI.new {σ : ZS} (h : zI σ) : ∀ g, σ.1 1 ≤ g → g < 8 → σ.2.2 4 g = 0 ∧ σ.2.2 5 g = 0 ∧ σ.2.2 20 g = 0 := h.2.2.2.2.2.2.2.2.2.2.2.2.1
theorem zI.acy {σ : ZS} (h : zI σ) : ∀ g k, g < σ.1 1 → k < σ.1 1 → hB (σ.2.2 5 g) k → ¬ hB (belowI σ k) g := h.2.2.2.2.2.2.2.2.2.2.2.2.2.1
theorem zI.all {σ : ZS} (h : zI σ) : ∀ g, g < σ.1 1 → σ.2.2 20 g = memI σ g := h.2.2.2.2.2.2.2.2.2.2.2.2.2.2
/-- the people whom a grant reaches -/
def reachI (σ : ZS) (g : Nat) : Int32 := if σ.2.2 21 g = -1 then (if pIn (σ.2.2 22 g) (σ.1 1) then σ.2.2 20 (ix (σ.2.2 22 g)) else 0) else bt1 (ix (σ.2.2 21 g))
def holdF (σ : ZS) (r : Nat) (x : Int32) (g : Nat) (acc : Int32) : Int32 := if ¬ nI g = x ∧ actOf σ g (nI r) then acc ||| reachI σ g else acc
/-- the people who hold a right, without the grant x -/
def holdI (σ : ZS) (r : Nat) (x : Int32) : Int32 := fN (holdF σ r x) 0 (σ.1 3) &&& (σ.2.2 8 r ^^^ -1)
def rgtF (σ : ZS) (q : Nat) (r : Nat) (acc : Int32) : Int32 := if hB (holdI σ r (-1)) q then acc ||| bt1 r else acc
def rgtI (σ : ZS) (q : Nat) : Int32 := fN (rgtF σ q) 0 (σ.1 2)
def wayF (σ : ZS) (q r : Nat) (g : Nat) (acc : Int32) : Int32 := if actOf σ g (nI r) then (if σ.2.2 21 g = nI q then acc + 1 else acc) + walkX σ q 8 (σ.2.2 22 g) else acc
def wayI (σ : ZS) (q r : Nat) : Int32 := fN (wayF σ q r) 0 (σ.1 3)
def grgF (σ : ZS) (r : Nat) (g : Nat) (acc : Int32) : Int32 := if actOf σ g (nI r) ∧ σ.2.2 21 g = -1 then acc ||| bt1 (ix (σ.2.2 22 g)) else acc
def grgI (σ : ZS) (r : Nat) : Int32 := fN (grgF σ r) 0 (σ.1 3)
abbrev lenP (σ : ZS) (q r : Nat) (k : Nat) : Prop := ¬ (grgI σ r &&& withI σ q k = 0)
/-- the least number of groups on a path, or -1 -/
def lenI (σ : ZS) (q r : Nat) : Int32 := if hasAct σ (nI r) (nI q) (-1) then 0 else match (List.range 8).find? (fun k => decide (lenP σ q r k)) with
  | some k => nI (k + 1)
  | none => -1
theorem lenI_0 {σ : ZS} {q r : Nat} (h : hasAct σ (nI r) (nI q) (-1)) : lenI σ q r = 0 := if_pos h
theorem lenI_k {σ : ZS} {q r k : Nat} (h : ¬ hasAct σ (nI r) (nI q) (-1)) (hk : k < 8) (hp : lenP σ q r k) (hq : ∀ a, a < k → ¬ lenP σ q r a) : lenI σ q r = nI (k + 1) := by
  have : (List.range 8).find? (fun k => decide (lenP σ q r k)) = some k := by
    rw [List.find?_range_eq_some]
    exact ⟨decide_eq_true hp, List.mem_range.mpr hk, fun j hj => by simpa using hq j hj⟩
  rw [lenI, if_neg h, this]
theorem lenI_n {σ : ZS} {q r : Nat} (h : ¬ hasAct σ (nI r) (nI q) (-1)) (hq : ∀ a, a < 8 → ¬ lenP σ q r a) : lenI σ q r = -1 := by
  have : (List.range 8).find? (fun k => decide (lenP σ q r k)) = none := by
    rw [List.find?_range_eq_none]
    exact fun j hj => by simpa using hq j hj
  rw [lenI, if_neg h, this]
/-- the risk of a right for a person, the holders known -/
def rateI (σ : ZS) (r q : Nat) (h : Int32) : Int32 := if bcnt (peersI σ q) = 0 then 100 * σ.2.2 6 r else 100 * σ.2.2 6 r * bcnt (peersI σ q &&& (h ^^^ -1)) / bcnt (peersI σ q)
def mxI (x y : Int32) : Int32 := if x < y then y else x
def rgF (σ : ZS) (r : Nat) (re h : Int32) (q : Nat) (acc : Int32) : Int32 := if hB re q then mxI acc (rateI σ r q h) else acc
def rgM (σ : ZS) (g : Nat) : Int32 := fN (rgF σ (ix (σ.2.2 10 g)) (reachI σ g) (holdI σ (ix (σ.2.2 10 g)) (-1))) 0 (σ.1 0)
theorem rgM_of {σ : ZS} {g r : Nat} (er : σ.2.2 10 g = nI r) (hr : r < 2 ^ 31) : rgM σ g = fN (rgF σ r (reachI σ g) (holdI σ r (-1))) 0 (σ.1 0) := by rw [rgM, er, ix_nI hr]
def rgI (σ : ZS) (g : Nat) : Int32 := if 30 ≤ σ.2.1 0 - σ.2.2 13 g then rgM σ g + 50 else rgM σ g
/-- the first stand-in, x's own, or the next -/
abbrev revOk (x but : Int32) : Prop := ¬ x = -1 ∧ ¬ x = but
def revL (σ : ZS) (but : Int32) : Int32 := match (List.range (σ.1 0)).find? (fun j => decide (revOk (fpI σ (σ.1 0) (nI j)) but)) with
  | some j => fpI σ (σ.1 0) (nI j)
  | none => -1
theorem revL_some {σ : ZS} {but : Int32} {i : Nat} (hi : i < σ.1 0) (h : revOk (fpI σ (σ.1 0) (nI i)) but) (hq : ∀ a, a < i → ¬ revOk (fpI σ (σ.1 0) (nI a)) but) : revL σ but = fpI σ (σ.1 0) (nI i) := by
  have : (List.range (σ.1 0)).find? (fun j => decide (revOk (fpI σ (σ.1 0) (nI j)) but)) = some i := by
    rw [List.find?_range_eq_some]
    exact ⟨decide_eq_true h, List.mem_range.mpr hi, fun j hj => by rw [decide_eq_false (hq j hj)]; rfl⟩
  rw [revL, this]
theorem revL_none {σ : ZS} {but : Int32} (hq : ∀ a, a < σ.1 0 → ¬ revOk (fpI σ (σ.1 0) (nI a)) but) : revL σ but = -1 := by
  have : (List.range (σ.1 0)).find? (fun j => decide (revOk (fpI σ (σ.1 0) (nI j)) but)) = none := by
    rw [List.find?_range_eq_none]
    exact fun j hj => by rw [decide_eq_false (hq j hj)]; rfl
  rw [revL, this]
def closeI (σ : ZS) (g : Nat) : Int32 := if σ.2.2 21 g = -1 then (if pIn (σ.2.2 22 g) (σ.1 1) then σ.2.2 3 (ix (σ.2.2 22 g)) else -1) else σ.2.2 1 (ix (σ.2.2 21 g))
def revI (σ : ZS) (g : Nat) : Int32 :=
  if revOk (fpI σ (σ.1 0) (closeI σ g)) (σ.2.2 21 g) then fpI σ (σ.1 0) (closeI σ g)
  else if revOk (fpI σ (σ.1 0) (σ.2.2 7 (ix (σ.2.2 10 g)))) (σ.2.2 21 g) then fpI σ (σ.1 0) (σ.2.2 7 (ix (σ.2.2 10 g)))
  else revL σ (σ.2.2 21 g)
/-- whether the end of a grant would cut the last holder of a vital right -/
abbrev cutI (σ : ZS) (g : Nat) : Prop := ¬ σ.2.2 9 (ix (σ.2.2 10 g)) = 0 ∧ (if σ.2.2 21 g = -1 then holdI σ (ix (σ.2.2 10 g)) (nI g) else holdI σ (ix (σ.2.2 10 g)) (nI g) &&& (bt1 (ix (σ.2.2 21 g)) ^^^ -1)) = 0
theorem cutI_g {σ : ZS} {g r : Nat} (er : σ.2.2 10 g = nI r) (hr : r < 2 ^ 31) (c : σ.2.2 21 g = -1) (h : cutI σ g) : holdI σ r (nI g) = 0 := by
  have h2 := h.2
  rwa [if_pos c, er, ix_nI hr] at h2
theorem cutI_gt {σ : ZS} {g r : Nat} (er : σ.2.2 10 g = nI r) (hr : r < 2 ^ 31) (v : ¬ σ.2.2 9 r = 0) (c : σ.2.2 21 g = -1) (h : holdI σ r (nI g) = 0) : cutI σ g := by
  refine ⟨?_, ?_⟩
  · rw [er, ix_nI hr]; exact v
  · rw [if_pos c, er, ix_nI hr]; exact h
theorem cutI_p {σ : ZS} {g r j : Nat} (er : σ.2.2 10 g = nI r) (hr : r < 2 ^ 31) (ej : σ.2.2 21 g = nI j) (hj : j < 2 ^ 31) (h : cutI σ g) : holdI σ r (nI g) &&& (bt1 j ^^^ -1) = 0 := by
  have h2 := h.2
  rwa [ej, if_neg (nI_m1 hj), er, ix_nI hr, ix_nI hj] at h2
theorem cutI_pt {σ : ZS} {g r j : Nat} (er : σ.2.2 10 g = nI r) (hr : r < 2 ^ 31) (v : ¬ σ.2.2 9 r = 0) (ej : σ.2.2 21 g = nI j) (hj : j < 2 ^ 31) (h : holdI σ r (nI g) &&& (bt1 j ^^^ -1) = 0) : cutI σ g := by
  refine ⟨?_, ?_⟩
  · rw [er, ix_nI hr]; exact v
  · rw [ej, if_neg (nI_m1 hj), er, ix_nI hr, ix_nI hj]; exact h
def decI (σ : ZS) (i : Nat) (vd dc : Int32) : ZS :=
  let s0 := settle σ i vd dc
  let s := evAdd s0 vd (σ.2.2 16 i) (s0.2.1 0)
  if vd = 114 then uA (uA s 11 (upd (s.2.2 11) (ix (σ.2.2 16 i)) 119)) 12 (upd (s.2.2 12) (ix (σ.2.2 16 i)) (s.2.1 0 + s.2.1 2)) else s
theorem decI_k {σ : ZS} {i g : Nat} {vd dc : Int32} (e : σ.2.2 16 i = nI g) (h : ¬ vd = 114) : decI σ i vd dc = evAdd (settle σ i vd dc) vd (nI g) ((settle σ i vd dc).2.1 0) := by
  simp only [decI]
  rw [if_neg h, e]
theorem decI_r {σ : ZS} {i g : Nat} {vd dc : Int32} (e : σ.2.2 16 i = nI g) (hg : g < 2 ^ 31) (h : vd = 114) (s : ZS) (hs : s = evAdd (settle σ i vd dc) vd (nI g) ((settle σ i vd dc).2.1 0)) : decI σ i vd dc = uA (uA s 11 (upd (s.2.2 11) g 119)) 12 (upd (s.2.2 12) g (s.2.1 0 + s.2.1 2)) := by
  simp only [decI]
  rw [if_pos h, e, ix_nI hg, hs]
def endI (σ : ZS) (g : Nat) : ZS :=
  if σ.2.2 21 g = -1 then evAdd (uA σ 11 (upd (σ.2.2 11) g 120)) 120 (nI g) (σ.2.1 0)
  else evAdd (uA (uA σ 11 (upd (σ.2.2 11) g 120)) 8 (upd (σ.2.2 8) (ix (σ.2.2 10 g)) (σ.2.2 8 (ix (σ.2.2 10 g)) ||| bt1 (ix (σ.2.2 21 g))))) 120 (nI g) (σ.2.1 0)
theorem zI.per {σ : ZS} (h : zI σ) (g : Nat) (hg : g < σ.1 3) (c : ¬ σ.2.2 21 g = -1) : zIdx (σ.2.2 21 g) (σ.1 0) := by
  rcases h.tgt g hg with ⟨j, hj, e, -⟩ | ⟨j, hj, e, -⟩
  · exact ⟨j, hj, e⟩
  · exact absurd e c
theorem zI.grp {σ : ZS} (h : zI σ) (g : Nat) (hg : g < σ.1 3) (c : σ.2.2 21 g = -1) : zIdx (σ.2.2 22 g) (σ.1 1) := by
  rcases h.tgt g hg with ⟨j, hj, e, -⟩ | ⟨j, hj, -, e, -⟩
  · have := h.bd.1
    exact absurd (e.symm.trans c) (nI_m1 (by omega))
  · exact ⟨j, hj, e⟩
