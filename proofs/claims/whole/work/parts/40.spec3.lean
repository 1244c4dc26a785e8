/-! What each call of the class's face answers: a value and a state, or what it throws. -/
def zK (σ : ZS) : Prop := (∀ g, narrow .char (.int (σ.2.2 11 g)) = .int (σ.2.2 11 g)) ∧ (∀ g, narrow .char (.int (σ.2.2 17 g)) = .int (σ.2.2 17 g)) ∧ (∀ g, narrow .char (.int (σ.2.2 14 g)) = .int (σ.2.2 14 g)) ∧ (∀ g, narrow .boolean (.int (σ.2.2 19 g)) = .int (σ.2.2 19 g))
def sp_standIn (σ : ZS) (x : Int32) : ZR := if pIn x (σ.1 0) then .inr (fpI σ (σ.1 0) x, σ) else .inl eNS
def sp_isMember (σ : ZS) (x y : Int32) : ZR := if pIn x (σ.1 1) ∧ pIn y (σ.1 0) then .inr (bI (hB (σ.2.2 20 (ix x)) (ix y)), σ) else .inl eNS
def sp_members (σ : ZS) (x : Int32) : ZR := if pIn x (σ.1 1) then .inr (bcnt (σ.2.2 20 (ix x)), σ) else .inl eNS
def sp_holds (σ : ZS) (x y : Int32) : ZR := if pIn x (σ.1 0) ∧ pIn y (σ.1 2) then .inr (bI (hB (holdI σ (ix y) (-1)) (ix x)), σ) else .inl eNS
def sp_holdsByPaths (σ : ZS) (x y : Int32) : ZR := if pIn x (σ.1 0) ∧ pIn y (σ.1 2) then .inr (bI (¬ hB (σ.2.2 8 (ix y)) (ix x) ∧ 0 < wayI σ (ix x) (ix y)), σ) else .inl eNS
def sp_rightsOf (σ : ZS) (x : Int32) : ZR := if pIn x (σ.1 0) then .inr (bcnt (rgtI σ (ix x)), σ) else .inl eNS
def sp_holdersOf (σ : ZS) (x : Int32) : ZR := if pIn x (σ.1 2) then .inr (bcnt (holdI σ (ix x) (-1)), σ) else .inl eNS
def sp_rightBits (σ : ZS) (x : Int32) : ZR := if pIn x (σ.1 0) then .inr (rgtI σ (ix x), σ) else .inl eNS
def sp_apart (σ : ZS) (x y : Int32) : ZR := if pIn x (σ.1 0) ∧ pIn y (σ.1 0) then .inr (bcnt (rgtI σ (ix x) ^^^ rgtI σ (ix y)), σ) else .inl eNS
def sp_isDenied (σ : ZS) (x y : Int32) : ZR := if pIn x (σ.1 0) ∧ pIn y (σ.1 2) then .inr (bI (hB (σ.2.2 8 (ix y)) (ix x)), σ) else .inl eNS
def sp_paths (σ : ZS) (x y : Int32) : ZR := if pIn x (σ.1 0) ∧ pIn y (σ.1 2) then .inr (wayI σ (ix x) (ix y), σ) else .inl eNS
def sp_pathLength (σ : ZS) (x y : Int32) : ZR := if pIn x (σ.1 0) ∧ pIn y (σ.1 2) then (if lenI σ (ix x) (ix y) = -1 then .inl eIS else .inr (lenI σ (ix x) (ix y), σ)) else .inl eNS
def sp_pathAt (σ : ZS) (x y z : Int32) : ZR := if pIn x (σ.1 0) ∧ pIn y (σ.1 2) then (if lenI σ (ix x) (ix y) = -1 then .inl eIS else if 0 ≤ z ∧ z < lenI σ (ix x) (ix y) then .inr (onPath σ (grgI σ (ix y)) (ix x) (ix (lenI σ (ix x) (ix y))) (ix z), σ) else .inl eIO) else .inl eNS
def sp_riskOf (σ : ZS) (x : Int32) : ZR := if pIn x (σ.1 3) then (if σ.2.2 11 (ix x) = 120 then .inl eIS else .inr (rgI σ (ix x), σ)) else .inl eNS
def sp_riskFor (σ : ZS) (x y : Int32) : ZR := if pIn x (σ.1 0) ∧ pIn y (σ.1 2) then .inr (rateI σ (ix y) (ix x) (holdI σ (ix y) (-1)), σ) else .inl eNS
def sp_reviewerOf (σ : ZS) (x : Int32) : ZR := if pIn x (σ.1 3) then .inr (revI σ (ix x), σ) else .inl eNS
def sp_stateOf (σ : ZS) (x : Int32) : ZR := if pIn x (σ.1 3) then .inr (σ.2.2 11 (ix x), σ) else .inl eNS
def sp_dueDay (σ : ZS) (x : Int32) : ZR := if pIn x (σ.1 3) then (if σ.2.2 11 (ix x) = 119 then .inr (σ.2.2 12 (ix x), σ) else .inl eIS) else .inl eNS
def sp_lastUse (σ : ZS) (x : Int32) : ZR := if pIn x (σ.1 3) then .inr (σ.2.2 13 (ix x), σ) else .inl eNS
def sp_isBlocked (σ : ZS) (x : Int32) : ZR := if pIn x (σ.1 3) then .inr (bI (¬ σ.2.2 11 (ix x) = 120 ∧ cutI σ (ix x)), σ) else .inl eNS
def sp_grantOf (σ : ZS) (x : Int32) : ZR := if pIn x (σ.1 4) then .inr (σ.2.2 16 (ix x), σ) else .inl eNS
def sp_verdict (σ : ZS) (x : Int32) : ZR := if pIn x (σ.1 4) then .inr (σ.2.2 17 (ix x), σ) else .inl eNS
def sp_decider (σ : ZS) (x : Int32) : ZR := if pIn x (σ.1 4) then (if σ.2.2 17 (ix x) = 117 then .inl eIS else .inr (σ.2.2 18 (ix x), σ)) else .inl eNS
def sp_signAt (σ : ZS) (x : Int32) : ZR := if pIn x (σ.1 5) then .inr (σ.2.2 14 (ix x), σ) else .inl eNS
def sp_sealAt (σ : ZS) (x : Int32) : ZR := if pIn x (σ.1 5) then .inr (σ.2.2 15 (ix x), σ) else .inl eNS
def sp_sealByReplay (σ : ZS) (x : Int32) : ZR := if pIn x (σ.1 5) then .inr (replI σ (ix x + 1), σ) else .inl eNS
def nxF (σ : ZS) (x : Int32) (i : Nat) (b : Int32 × Int32) : Int32 × Int32 := if σ.2.2 17 i = 117 ∧ revI σ (ix (σ.2.2 16 i)) = x then (if b.1 = -1 ∨ b.2 < rgI σ (ix (σ.2.2 16 i)) then (nI i, rgI σ (ix (σ.2.2 16 i))) else b) else b
def nxI (σ : ZS) (x : Int32) : Int32 := (fN (nxF σ x) (-1, 0) (σ.1 4)).1
def sp_nextItem (σ : ZS) (x : Int32) : ZR := if pIn x (σ.1 0) then (if nxI σ x = -1 then .inl eIS else .inr (nxI σ x, σ)) else .inl eNS
def trcI (σ : ZS) : Int64 := fN (fun e acc => acc * 31 + (σ.2.2 15 e).toInt64) 0 (σ.1 5)
def sp_setLimit (σ : ZS) (x : Int32) : ZR := if 0 ≤ x ∧ x ≤ 999 then .inr (σ.2.1 1, uN σ 1 x) else .inl eIA
def sp_setGrace (σ : ZS) (x : Int32) : ZR := if 0 ≤ x ∧ x ≤ 10 then .inr (σ.2.1 2, uN σ 2 x) else .inl eIA
def sp_addPerson (σ : ZS) (d m : Int32) : ZR := if 0 ≤ d ∧ d ≤ 3 then (if m = -1 ∨ pIn m (σ.1 0) then (if σ.1 0 = 10 then .inl eIS else .inr (nI (σ.1 0), uC (uA (uA (uA σ 0 (upd (σ.2.2 0) (σ.1 0) d)) 1 (upd (σ.2.2 1) (σ.1 0) m)) 2 (upd (σ.2.2 2) (σ.1 0) (-1))) 0 (σ.1 0 + 1))) else .inl eNS) else .inl eIA
def sp_setAbsent (σ : ZS) (x b : Int32) : ZR := if pIn x (σ.1 0) then .inr (σ.2.2 19 (ix x), uN (uA σ 19 (upd (σ.2.2 19) (ix x) b)) 6 (if b = 0 then σ.2.1 6 &&& (bt1 (ix x) ^^^ -1) else σ.2.1 6 ||| bt1 (ix x))) else .inl eNS
def sp_setSubstitute (σ : ZS) (x y : Int32) : ZR := if pIn x (σ.1 0) ∧ (y = -1 ∨ pIn y (σ.1 0)) then (if x = y then .inl eIA else .inr (σ.2.2 2 (ix x), uA σ 2 (upd (σ.2.2 2) (ix x) y))) else .inl eNS
def sp_addGroup (σ : ZS) (x : Int32) : ZR := if pIn x (σ.1 0) then (if σ.1 1 = 8 then .inl eIS else .inr (nI (σ.1 1), uC (uA σ 3 (upd (σ.2.2 3) (σ.1 1) x)) 1 (σ.1 1 + 1))) else .inl eNS
def sp_addMember (σ : ZS) (x y : Int32) : ZR := if pIn x (σ.1 1) ∧ pIn y (σ.1 0) then (if hB (σ.2.2 4 (ix x)) (ix y) then .inl eIS else .inr (bcnt (σ.2.2 4 (ix x) ||| bt1 (ix y)), reAll (uA σ 4 (upd (σ.2.2 4) (ix x) (σ.2.2 4 (ix x) ||| bt1 (ix y)))))) else .inl eNS
def sp_removeMember (σ : ZS) (x y : Int32) : ZR := if pIn x (σ.1 1) ∧ pIn y (σ.1 0) then (if hB (σ.2.2 4 (ix x)) (ix y) then .inr (bcnt (σ.2.2 4 (ix x) &&& (bt1 (ix y) ^^^ -1)), reAll (uA σ 4 (upd (σ.2.2 4) (ix x) (σ.2.2 4 (ix x) &&& (bt1 (ix y) ^^^ -1))))) else .inl eIS) else .inl eNS
def sp_nest (σ : ZS) (x y : Int32) : ZR := if pIn x (σ.1 1) ∧ pIn y (σ.1 1) then (if hB (belowI σ (ix y)) (ix x) then .inl eUO else if hB (σ.2.2 5 (ix x)) (ix y) then .inl eIS else .inr (bcnt (σ.2.2 5 (ix x) ||| bt1 (ix y)), reAll (uA σ 5 (upd (σ.2.2 5) (ix x) (σ.2.2 5 (ix x) ||| bt1 (ix y)))))) else .inl eNS
def sp_addRight (σ : ZS) (s o v : Int32) : ZR := if 1 ≤ s ∧ s ≤ 9 then (if pIn o (σ.1 0) then (if σ.1 2 = 10 then .inl eIS else .inr (nI (σ.1 2), uC (uA (uA (uA σ 6 (upd (σ.2.2 6) (σ.1 2) s)) 7 (upd (σ.2.2 7) (σ.1 2) o)) 9 (upd (σ.2.2 9) (σ.1 2) v)) 2 (σ.1 2 + 1))) else .inl eNS) else .inl eIA
/-- a new grant, as the class and as the reference keep it -/
def gNew (σ : ZS) (r pe gr tg k : Int32) : ZS := uA (uA (gAdd σ r pe gr (σ.2.1 0)) 25 (upd (σ.2.2 25) (σ.1 3) tg)) 26 (upd (σ.2.2 26) (σ.1 3) k)
def sp_grantPerson (σ : ZS) (x y : Int32) : ZR := if pIn x (σ.1 2) ∧ pIn y (σ.1 0) then (if hasAct σ x y (-1) ∨ σ.1 3 = 24 then .inl eIS else .inr (nI (σ.1 3), gNew (uA σ 8 (upd (σ.2.2 8) (ix x) (σ.2.2 8 (ix x) &&& (bt1 (ix y) ^^^ -1)))) x y (-1) y 0)) else .inl eNS
def sp_grantGroup (σ : ZS) (x y : Int32) : ZR := if pIn x (σ.1 2) ∧ pIn y (σ.1 1) then (if hasAct σ x (-1) y ∨ σ.1 3 = 24 then .inl eIS else .inr (nI (σ.1 3), gNew σ x (-1) y y 1)) else .inl eNS
def useF (σ : ZS) (p r : Nat) (g : Nat) (b : Int32 × (Nat → Int32)) : Int32 × (Nat → Int32) := if actOf σ g (nI r) ∧ hB (reachI σ g) p then (b.1 + 1, upd b.2 g (σ.2.1 0)) else b
def useI (σ : ZS) (p r : Nat) : Int32 × (Nat → Int32) := fN (useF σ p r) (0, σ.2.2 13) (σ.1 3)
def sp_use (σ : ZS) (x y : Int32) : ZR := if pIn x (σ.1 0) ∧ pIn y (σ.1 2) then (if hB (holdI σ (ix y) (-1)) (ix x) then .inr ((useI σ (ix x) (ix y)).1, uA σ 13 (useI σ (ix x) (ix y)).2) else .inl eIS) else .inl eNS
def opnF (σ : ZS) (g : Nat) (s : ZS) : ZS := if σ.2.2 11 g = 97 then addIt s (nI g) else s
def opnI (σ : ZS) (d : Int32) : ZS := fN (opnF σ) (uC (uC (uN σ 3 (σ.2.1 0 + d)) 4 0) 6 0) (σ.1 3)
def sp_openCampaign (σ : ZS) (x : Int32) : ZR := if 1 ≤ x ∧ x ≤ 30 then (if 0 < σ.1 6 ∨ ¬ hasSt σ 97 then .inl eIS else .inr (nI ((opnI σ x).1 4), uN (opnI σ x) 7 1)) else .inl eIA
theorem zI.u13 {σ : ZS} {f : Nat → Int32} (h : zI σ) : zI (uA σ 13 f) := h
-- what the days do
def edg : Nat → Int32 → ZS → ZS
  | 0, _, s => s
  | k + 1, seen, s => if firstDue s (s.2.1 0) seen = -1 then s else edg k (seen ||| bt1 (ix (firstDue s (s.2.1 0) seen))) (if cutI s (ix (firstDue s (s.2.1 0) seen)) then s else endI s (ix (firstDue s (s.2.1 0) seen)))
def edgI (σ : ZS) : ZS := edg (σ.1 3) 0 σ
def silF (i : Nat) (s : ZS) : ZS := if s.2.2 17 i = 117 then decI s i (if s.2.1 1 ≤ rgI s (ix (s.2.2 16 i)) then 114 else 107) (-1) else s
def silI (σ : ZS) : ZS := fN silF σ (σ.1 4)
/-- a day begins -/
def dayI (s : ZS) : ZS :=
  let s := uN s 0 (s.2.1 0 + 1)
  edgI (if 0 < s.1 6 ∧ s.2.1 0 = s.2.1 3 then silI s else s)
/-- whether a campaign is open, as the reference keeps it -/
def opF (s : ZS) : ZS := uN s 7 (bI (0 < s.1 6))
def sp_pass (σ : ZS) (x : Int32) : ZR := if 1 ≤ x ∧ x ≤ 30 then .inr ((fN (fun _ s => dayI s) σ (ix x)).2.1 0, opF (fN (fun _ s => dayI s) σ (ix x))) else .inl eIA
def ansI (σ : ZS) (x : Int32) (i : Nat) (v : Int32) : ZS := if v = 114 then edgI (decI σ i v x) else decI σ i v x
def sp_answer (σ : ZS) (x y v : Int32) : ZR := if 0 < σ.1 6 then (if pIn x (σ.1 0) ∧ pIn y (σ.1 4) then (if v = 107 ∨ v = 114 then (if σ.2.2 17 (ix y) = 117 ∧ revI σ (ix (σ.2.2 16 (ix y))) = x then .inr (nI ((ansI σ x (ix y) v).1 6), opF (ansI σ x (ix y) v)) else .inl eUO) else .inl eIA) else .inl eNS) else .inl eIS
