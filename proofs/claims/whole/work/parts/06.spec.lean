/-! What the methods compute, in numbers. -/
def fN {α : Type} (f : Nat → α → α) (a : α) : Nat → α
  | 0 => a
  | n + 1 => f n (fN f a n)
theorem fN_s {α : Type} (f : Nat → α → α) (a : α) (n : Nat) : fN f a (n + 1) = f n (fN f a n) := rfl
theorem zsub1 {n : Nat} (h : 0 < n) : nI n - 1 = nI (n - 1) := by
  obtain ⟨k, rfl⟩ : ∃ k, n = k + 1 := ⟨n - 1, by omega⟩
  exact nI_pred k
abbrev eIA : String := "java/lang/IllegalArgumentException"
abbrev eNS : String := "java/util/NoSuchElementException"
abbrev eIS : String := "java/lang/IllegalStateException"
abbrev eUO : String := "java/lang/UnsupportedOperationException"
abbrev eIO : String := "java/lang/IndexOutOfBoundsException"
abbrev eAR : String := "java/lang/ArithmeticException"
/-- an answer and the state behind it, or what is thrown -/
abbrev ZR : Type := String ⊕ Int32 × ZS
def bt1 (j : Nat) : Int32 := (1 : Int32) <<< (nI j &&& 31)
/-- bit j of x -/
abbrev hB (x : Int32) (j : Nat) : Prop := ¬ (x &&& bt1 j = 0)
/-- x is a number below n -/
abbrev pIn (x : Int32) (n : Nat) : Prop := 0 ≤ x ∧ x < nI n
def zIdx (x : Int32) (n : Nat) : Prop := ∃ j : Nat, j < n ∧ x = nI j
def zRef (x : Int32) (n : Nat) : Prop := x = -1 ∨ zIdx x n
theorem pIn_idx {x : Int32} {n : Nat} (hn : n < 2 ^ 31) (h : pIn x n) : zIdx x n := by
  obtain ⟨j, hj, e⟩ := nI_of (x := x) (fun q => by
    have h1 := Int32.le_iff_toInt_le.mp h.1
    have h2 := Int32.lt_iff_toInt_lt.mp q
    omega)
  refine ⟨j, ?_, e⟩
  have h3 := h.2
  rw [e] at h3
  exact (nI_ltI hj hn).mp h3
theorem pIn_of {x : Int32} {n : Nat} (hn : n < 2 ^ 31) (h : zIdx x n) : pIn x n := by
  obtain ⟨j, hj, rfl⟩ := h
  exact ⟨nI_pos' (by omega), nI_lt hj hn⟩
theorem pIn_nI {j n : Nat} (hn : n < 2 ^ 31) (h : j < n) : pIn (nI j) n := pIn_of hn ⟨j, h, rfl⟩
theorem zi_lt {x y : Int32} : x < y ↔ ¬ y ≤ x := by rw [Int32.lt_iff_toInt_lt, Int32.le_iff_toInt_le]; omega
theorem zi_le {x y : Int32} : x ≤ y ↔ ¬ y < x := by rw [Int32.lt_iff_toInt_lt, Int32.le_iff_toInt_le]; omega
theorem pIn_f1 {x : Int32} {n : Nat} (h : x < 0) : ¬ pIn x n := fun q => (zi_lt.mp h) q.1
theorem pIn_f2 {x : Int32} {n : Nat} (h : nI n ≤ x) : ¬ pIn x n := fun q => (zi_lt.mp q.2) h
theorem pIn_t {x : Int32} {n : Nat} (h1 : ¬ x < 0) (h2 : ¬ nI n ≤ x) : pIn x n := ⟨zi_le.mpr h1, zi_lt.mpr h2⟩
theorem nI_m1 {j : Nat} (h : j < 2 ^ 31) : ¬ nI j = -1 := fun q => by
  have h1 := nI_toInt h
  rw [q] at h1
  have h2 : (-1 : Int32).toInt = -1 := by decide
  omega
def ix (x : Int32) : Nat := x.toNatClampNeg
theorem ix_nI {j : Nat} (h : j < 2 ^ 31) : ix (nI j) = j := nI_clamp h
/-- the lowest bit of x below n, or -1 -/
def lowI (x : Int32) (n : Nat) : Int32 := match (List.range n).find? (fun j => decide (hB x j)) with
  | some j => nI j
  | none => -1
theorem lowI_some {x : Int32} {n i : Nat} (hi : i < n) (h : hB x i) (hq : ∀ a, a < i → ¬ hB x a) : lowI x n = nI i := by
  have : (List.range n).find? (fun j => decide (hB x j)) = some i := by
    rw [List.find?_range_eq_some]
    exact ⟨decide_eq_true h, List.mem_range.mpr hi, fun j hj => by simpa using hq j hj⟩
  unfold lowI
  rw [this]
theorem lowI_none {x : Int32} {n : Nat} (hq : ∀ a, a < n → ¬ hB x a) : lowI x n = -1 := by
  have : (List.range n).find? (fun j => decide (hB x j)) = none := by
    rw [List.find?_range_eq_none]
    exact fun j hj => by simpa using hq j hj
  unfold lowI
  rw [this]
-- people
/-- the first one who is present, from x on, after at most k looks -/
def fpI (σ : ZS) : Nat → Int32 → Int32
  | 0, _ => -1
  | k + 1, x => if pIn x (σ.1 0) then (if σ.2.2 19 (ix x) = 0 then x else fpI σ k (σ.2.2 2 (ix x))) else -1
def peersF (σ : ZS) (p : Nat) (o : Nat) (acc : Int32) : Int32 := if ¬ o = p ∧ σ.2.2 0 o = σ.2.2 0 p then acc ||| bt1 o else acc
def peersI (σ : ZS) (p : Nat) : Int32 := fN (peersF σ p) 0 (σ.1 0)
-- groups
def belowF (σ : ZS) (o : Nat) (acc : Int32) : Int32 := if hB acc o then acc ||| σ.2.2 5 o else acc
def belowR (σ : ZS) (acc : Int32) : Int32 := fN (belowF σ) acc (σ.1 1)
def belowI (σ : ZS) (g : Nat) : Int32 := fN (fun _ acc => belowR σ acc) (bt1 g) (σ.1 1 - 1)
def memF (σ : ZS) (b : Int32) (i : Nat) (acc : Int32) : Int32 := if hB b i then acc ||| σ.2.2 4 i else acc
def memI (σ : ZS) (g : Nat) : Int32 := fN (memF σ (belowI σ g)) 0 (σ.1 1)
/-- the row of all members, found anew -/
def allF (σ : ZS) (g : Nat) (f : Nat → Int32) : Nat → Int32 := upd f g (memI σ g)
def reAll (σ : ZS) : ZS := uA σ 20 (fN (allF σ) (σ.2.2 20) (σ.1 1))
/-- the JDK's count of bits -/
def bcnt (x : Int32) : Int32 :=
  let sh (x : Int32) (k : Int32) : Int32 := (x.toUInt32 >>> (k.toUInt32 &&& Int32.toUInt32 31)).toInt32
  let a := x - (sh x 1 &&& 1431655765)
  let b := (a &&& 858993459) + (sh a 2 &&& 858993459)
  let c := (b + sh b 4) &&& 252645135
  let d := c + sh c 8
  let e := d + sh d 16
  e &&& 63
def wi0F (σ : ZS) (p : Nat) (g : Nat) (acc : Int32) : Int32 := if hB (σ.2.2 4 g) p then acc ||| bt1 g else acc
def wi1F (σ : ZS) (near : Int32) (g : Nat) (acc : Int32) : Int32 := if ¬ (σ.2.2 5 g &&& near = 0) then acc ||| bt1 g else acc
/-- the groups from which a path of at most k + 1 groups leads to the person -/
def withI (σ : ZS) (p : Nat) (k : Nat) : Int32 := fN (fun _ acc => fN (wi1F σ acc) acc (σ.1 1)) (fN (wi0F σ p) 0 (σ.1 1)) k
/-- the number of paths from x, of at most d groups -/
def walkX (σ : ZS) (p : Nat) : Nat → Int32 → Int32
  | 0, _ => 0
  | d + 1, x => if pIn x 8 then fN (fun i acc => if hB (σ.2.2 5 (ix x)) i then acc + walkX σ p d (nI i) else acc) (bI (hB (σ.2.2 4 (ix x)) p)) 8 else 0
theorem walkX_f {σ : ZS} {p d : Nat} {x : Int32} (h : ¬ pIn x 8) : walkX σ p (d + 1) x = 0 := by rw [walkX, if_neg h]
theorem walkX_t {σ : ZS} {p d g : Nat} (h : g < 8) : walkX σ p (d + 1) (nI g) = fN (fun i acc => if hB (σ.2.2 5 g) i then acc + walkX σ p d (nI i) else acc) (bI (hB (σ.2.2 4 g) p)) 8 := by
  rw [walkX, if_pos (pIn_nI (by decide) h), ix_nI (by omega)]
def onPath (σ : ZS) (starts : Int32) (p k : Nat) : Nat → Int32
  | 0 => lowI (starts &&& withI σ p (k - 1)) (σ.1 1)
  | t + 1 => if pIn (onPath σ starts p k t) (σ.1 1) then lowI (σ.2.2 5 (ix (onPath σ starts p k t)) &&& withI σ p (k - (t + 1) - 1)) (σ.1 1) else -1
theorem pIn_m1 {n : Nat} : ¬ pIn (-1) n := pIn_f1 (by decide)
theorem onPath_stuck {σ : ZS} {starts : Int32} {p k i : Nat} (h : ¬ pIn (onPath σ starts p k i) (σ.1 1)) : ∀ {t : Nat}, i < t → onPath σ starts p k t = -1
  | t + 1, ht => by
    rcases Nat.lt_succ_iff_lt_or_eq.mp ht with h1 | h1
    · rw [onPath, onPath_stuck h h1, if_neg pIn_m1]
    · rw [onPath, ← h1, if_neg h]
-- grants
def gAdd (σ : ZS) (r pe gr dy : Int32) : ZS := uC (uA (uA (uA (uA (uA σ 10 (upd (σ.2.2 10) (σ.1 3) r)) 21 (upd (σ.2.2 21) (σ.1 3) pe)) 22 (upd (σ.2.2 22) (σ.1 3) gr)) 11 (upd (σ.2.2 11) (σ.1 3) 97)) 13 (upd (σ.2.2 13) (σ.1 3) dy)) 3 (σ.1 3 + 1)
abbrev actOf (σ : ZS) (g : Nat) (r : Int32) : Prop := σ.2.2 10 g = r ∧ ¬ σ.2.2 11 g = 120
abbrev hasAct (σ : ZS) (r x y : Int32) : Prop := exB (σ.1 3) (fun g => actOf σ g r ∧ σ.2.2 21 g = x ∧ σ.2.2 22 g = y) = true
abbrev hasSt (σ : ZS) (c : Int32) : Prop := exB (σ.1 3) (fun g => σ.2.2 11 g = c) = true
abbrev dueB (σ : ZS) (day seen : Int32) (g : Nat) : Prop := σ.2.2 11 g = 119 ∧ σ.2.2 12 g ≤ day ∧ ¬ hB seen g
def dueF (σ : ZS) (day seen : Int32) (g : Nat) (b : Int32 × Int32) : Int32 × Int32 := if dueB σ day seen g ∧ (b.1 = -1 ∨ σ.2.2 12 g < b.2) then (nI g, σ.2.2 12 g) else b
def firstDue (σ : ZS) (day seen : Int32) : Int32 := (fN (dueF σ day seen) (-1, 0) (σ.1 3)).1
-- evidence
def sealI (before g day sign : Int32) : Int32 := (((before <<< ((5 : Int32) &&& 31)) ||| (before.toUInt32 >>> ((11 : Int32).toUInt32 &&& Int32.toUInt32 31)).toInt32) &&& 65535) ^^^ ((257 * g + 17 * day + sign) &&& 65535)
def evSeal (σ : ZS) (before : Int32) (e : Nat) : Int32 := sealI before (σ.2.2 23 e) (σ.2.2 24 e) (σ.2.2 14 e)
def replI (σ : ZS) (k : Nat) : Int32 := fN (fun e acc => evSeal σ acc e) 0 k
def evAdd (σ : ZS) (sign g day : Int32) : ZS := if 99 ≤ σ.1 5 then σ else
  uC (uA (uA (uA (uA σ 14 (upd (σ.2.2 14) (σ.1 5) sign)) 23 (upd (σ.2.2 23) (σ.1 5) g)) 24 (upd (σ.2.2 24) (σ.1 5) day)) 15 (upd (σ.2.2 15) (σ.1 5) (sealI (if 0 < σ.1 5 then σ.2.2 15 (σ.1 5 - 1) else 0) g day sign))) 5 (σ.1 5 + 1)
-- campaigns
def addIt (σ : ZS) (g : Int32) : ZS := uC (uC (uA (uA σ 16 (upd (σ.2.2 16) (σ.1 4) g)) 17 (upd (σ.2.2 17) (σ.1 4) 117)) 4 (σ.1 4 + 1)) 6 (σ.1 6 + 1)
def settle (σ : ZS) (i : Nat) (vd dc : Int32) : ZS :=
  let s := uN (uC (uA (uA σ 17 (upd (σ.2.2 17) i vd)) 18 (upd (σ.2.2 18) i dc)) 6 (σ.1 6 - 1)) 4 (σ.2.1 4 + 1)
  if vd = 114 then uN s 5 (σ.2.1 5 + 1) else s
-- bounds
def zBd (σ : ZS) : Prop := σ.1 0 ≤ 10 ∧ σ.1 1 ≤ 8 ∧ σ.1 2 ≤ 10 ∧ σ.1 3 ≤ 24 ∧ σ.1 4 ≤ 24 ∧ σ.1 5 ≤ 99
