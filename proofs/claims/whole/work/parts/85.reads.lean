/-! The calls that read leave the state as it was. -/
theorem rd_standIn {σ s : ZS} {x v : Int32} (h : sp_standIn σ x = .inr (v, s)) : s = σ := by
  unfold sp_standIn at h
  repeat' split at h
  all_goals first
    | exact (Prod.ext_iff.mp (Sum.inr.inj h)).2.symm
    | cases h
theorem rd_isMember {σ s : ZS} {x y v : Int32} (h : sp_isMember σ x y = .inr (v, s)) : s = σ := by
  unfold sp_isMember at h
  repeat' split at h
  all_goals first
    | exact (Prod.ext_iff.mp (Sum.inr.inj h)).2.symm
    | cases h
theorem rd_members {σ s : ZS} {x v : Int32} (h : sp_members σ x = .inr (v, s)) : s = σ := by
  unfold sp_members at h
  repeat' split at h
  all_goals first
    | exact (Prod.ext_iff.mp (Sum.inr.inj h)).2.symm
    | cases h
theorem rd_holds {σ s : ZS} {x y v : Int32} (h : sp_holds σ x y = .inr (v, s)) : s = σ := by
  unfold sp_holds at h
  repeat' split at h
  all_goals first
    | exact (Prod.ext_iff.mp (Sum.inr.inj h)).2.symm
    | cases h
theorem rd_holdsByPaths {σ s : ZS} {x y v : Int32} (h : sp_holdsByPaths σ x y = .inr (v, s)) : s = σ := by
  unfold sp_holdsByPaths at h
  repeat' split at h
  all_goals first
    | exact (Prod.ext_iff.mp (Sum.inr.inj h)).2.symm
    | cases h
theorem rd_rightsOf {σ s : ZS} {x v : Int32} (h : sp_rightsOf σ x = .inr (v, s)) : s = σ := by
  unfold sp_rightsOf at h
  repeat' split at h
  all_goals first
    | exact (Prod.ext_iff.mp (Sum.inr.inj h)).2.symm
    | cases h
theorem rd_holdersOf {σ s : ZS} {x v : Int32} (h : sp_holdersOf σ x = .inr (v, s)) : s = σ := by
  unfold sp_holdersOf at h
  repeat' split at h
  all_goals first
    | exact (Prod.ext_iff.mp (Sum.inr.inj h)).2.symm
    | cases h
theorem rd_rightBits {σ s : ZS} {x v : Int32} (h : sp_rightBits σ x = .inr (v, s)) : s = σ := by
  unfold sp_rightBits at h
  repeat' split at h
  all_goals first
    | exact (Prod.ext_iff.mp (Sum.inr.inj h)).2.symm
    | cases h
theorem rd_apart {σ s : ZS} {x y v : Int32} (h : sp_apart σ x y = .inr (v, s)) : s = σ := by
  unfold sp_apart at h
  repeat' split at h
  all_goals first
    | exact (Prod.ext_iff.mp (Sum.inr.inj h)).2.symm
    | cases h
theorem rd_isDenied {σ s : ZS} {x y v : Int32} (h : sp_isDenied σ x y = .inr (v, s)) : s = σ := by
  unfold sp_isDenied at h
  repeat' split at h
  all_goals first
    | exact (Prod.ext_iff.mp (Sum.inr.inj h)).2.symm
    | cases h
theorem rd_paths {σ s : ZS} {x y v : Int32} (h : sp_paths σ x y = .inr (v, s)) : s = σ := by
  unfold sp_paths at h
  repeat' split at h
  all_goals first
    | exact (Prod.ext_iff.mp (Sum.inr.inj h)).2.symm
    | cases h
theorem rd_pathLength {σ s : ZS} {x y v : Int32} (h : sp_pathLength σ x y = .inr (v, s)) : s = σ := by
  unfold sp_pathLength at h
  repeat' split at h
  all_goals first
    | exact (Prod.ext_iff.mp (Sum.inr.inj h)).2.symm
    | cases h
theorem rd_pathAt {σ s : ZS} {x y z v : Int32} (h : sp_pathAt σ x y z = .inr (v, s)) : s = σ := by
  unfold sp_pathAt at h
  repeat' split at h
  all_goals first
    | exact (Prod.ext_iff.mp (Sum.inr.inj h)).2.symm
    | cases h
theorem rd_riskOf {σ s : ZS} {x v : Int32} (h : sp_riskOf σ x = .inr (v, s)) : s = σ := by
  unfold sp_riskOf at h
  repeat' split at h
  all_goals first
    | exact (Prod.ext_iff.mp (Sum.inr.inj h)).2.symm
    | cases h
theorem rd_riskFor {σ s : ZS} {x y v : Int32} (h : sp_riskFor σ x y = .inr (v, s)) : s = σ := by
  unfold sp_riskFor at h
  repeat' split at h
  all_goals first
    | exact (Prod.ext_iff.mp (Sum.inr.inj h)).2.symm
    | cases h
theorem rd_reviewerOf {σ s : ZS} {x v : Int32} (h : sp_reviewerOf σ x = .inr (v, s)) : s = σ := by
  unfold sp_reviewerOf at h
  repeat' split at h
  all_goals first
    | exact (Prod.ext_iff.mp (Sum.inr.inj h)).2.symm
    | cases h
theorem rd_stateOf {σ s : ZS} {x v : Int32} (h : sp_stateOf σ x = .inr (v, s)) : s = σ := by
  unfold sp_stateOf at h
  repeat' split at h
  all_goals first
    | exact (Prod.ext_iff.mp (Sum.inr.inj h)).2.symm
    | cases h
theorem rd_dueDay {σ s : ZS} {x v : Int32} (h : sp_dueDay σ x = .inr (v, s)) : s = σ := by
  unfold sp_dueDay at h
  repeat' split at h
  all_goals first
    | exact (Prod.ext_iff.mp (Sum.inr.inj h)).2.symm
    | cases h
theorem rd_lastUse {σ s : ZS} {x v : Int32} (h : sp_lastUse σ x = .inr (v, s)) : s = σ := by
  unfold sp_lastUse at h
  repeat' split at h
  all_goals first
    | exact (Prod.ext_iff.mp (Sum.inr.inj h)).2.symm
    | cases h
theorem rd_isBlocked {σ s : ZS} {x v : Int32} (h : sp_isBlocked σ x = .inr (v, s)) : s = σ := by
  unfold sp_isBlocked at h
  repeat' split at h
  all_goals first
    | exact (Prod.ext_iff.mp (Sum.inr.inj h)).2.symm
    | cases h
theorem rd_grantOf {σ s : ZS} {x v : Int32} (h : sp_grantOf σ x = .inr (v, s)) : s = σ := by
  unfold sp_grantOf at h
  repeat' split at h
  all_goals first
    | exact (Prod.ext_iff.mp (Sum.inr.inj h)).2.symm
    | cases h
theorem rd_verdict {σ s : ZS} {x v : Int32} (h : sp_verdict σ x = .inr (v, s)) : s = σ := by
  unfold sp_verdict at h
  repeat' split at h
  all_goals first
    | exact (Prod.ext_iff.mp (Sum.inr.inj h)).2.symm
    | cases h
theorem rd_decider {σ s : ZS} {x v : Int32} (h : sp_decider σ x = .inr (v, s)) : s = σ := by
  unfold sp_decider at h
  repeat' split at h
  all_goals first
    | exact (Prod.ext_iff.mp (Sum.inr.inj h)).2.symm
    | cases h
theorem rd_signAt {σ s : ZS} {x v : Int32} (h : sp_signAt σ x = .inr (v, s)) : s = σ := by
  unfold sp_signAt at h
  repeat' split at h
  all_goals first
    | exact (Prod.ext_iff.mp (Sum.inr.inj h)).2.symm
    | cases h
theorem rd_sealAt {σ s : ZS} {x v : Int32} (h : sp_sealAt σ x = .inr (v, s)) : s = σ := by
  unfold sp_sealAt at h
  repeat' split at h
  all_goals first
    | exact (Prod.ext_iff.mp (Sum.inr.inj h)).2.symm
    | cases h
theorem rd_sealByReplay {σ s : ZS} {x v : Int32} (h : sp_sealByReplay σ x = .inr (v, s)) : s = σ := by
  unfold sp_sealByReplay at h
  repeat' split at h
  all_goals first
    | exact (Prod.ext_iff.mp (Sum.inr.inj h)).2.symm
    | cases h
theorem rd_nextItem {σ s : ZS} {x v : Int32} (h : sp_nextItem σ x = .inr (v, s)) : s = σ := by
  unfold sp_nextItem at h
  repeat' split at h
  all_goals first
    | exact (Prod.ext_iff.mp (Sum.inr.inj h)).2.symm
    | cases h
