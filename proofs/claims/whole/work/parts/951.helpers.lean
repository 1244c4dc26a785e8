/-! The law's helpers: a call of the class, its answer kept or its exception told by a number. -/
/-- the classes of the handlers, that the printed words leave out -/
def lwH : List Cond := [Cond.classLink RL 13 "java/lang/IllegalArgumentException", Cond.classLink RL 15 "java/util/NoSuchElementException", Cond.classLink RL 17 "java/lang/IllegalStateException", Cond.classLink RL 39 "java/lang/UnsupportedOperationException", Cond.classLink RL 111 "java/lang/IndexOutOfBoundsException", Cond.classLink RL 161 "java/lang/ArithmeticException"]
theorem lwH_in : ∀ w ∈ lwH, w ∈ lw_tbl := by decide +kernel
theorem lwH_good : ∀ w ∈ lwH, (w.onTables && w.keeps) = true := by decide +kernel
theorem lh_m {big ws : List Cond} (h : GoodIn big ws) : GoodIn (big ++ lwH) ws := fun w hw => ⟨List.mem_append_left _ (h w hw).1, (h w hw).2⟩
theorem lh_S {big ws : List Cond} {own : String} {index : Nat} {y : MethodName} (h : GoodIn big (va_wsS own index y ws)) : GoodIn (big ++ lwH) (va_wsS own index y (ws ++ lwH)) := by
  intro w hw
  unfold va_wsS at hw h
  rcases List.mem_append.mp hw with h1 | h1
  · exact lh_m h w (List.mem_append_left _ h1)
  · rcases List.mem_append.mp h1 with h2 | h2
    · exact lh_m h w (List.mem_append_right _ h2)
    · exact ⟨List.mem_append_right _ h2, Or.inl (lwH_good w h2)⟩
theorem lh_tab {Ts : List Cond} {hs : List (Nat × Nat × String)} (h : ∀ q ∈ hs, Cond.classLink RL q.2.1 q.2.2 ∈ lwH ∧ q.2.1 ≠ 0 ∧ q.2.2 ∈ zCast) : ∀ q ∈ hs, Cond.classLink RL q.2.1 q.2.2 ∈ Ts ++ lwH ∧ q.2.1 ≠ 0 ∧ q.2.2 ∈ zCast := fun q hq => ⟨List.mem_append_right _ (h q hq).1, (h q hq).2⟩
theorem qd_L_addPerson : yL_addPerson.cls ≠ "java/lang/invoke/MethodHandle" ∧ yL_addPerson.cls ≠ "java/lang/invoke/VarHandle" ∧ (parseMethodDescriptor yL_addPerson.desc).map (fun d => d.parameters.length) = some 4 := by decide +kernel
set_option maxHeartbeats 4000000 in
set_option maxRecDepth 100000 in
theorem k_L_addPerson (l : Launch) (hfl : l.stackTraces = false) (D : va_G) (ad : Nat → Nat) (T : Nat → ClassId) (σ : ZS) (hV : zV σ) (p0 p1 : Int32) (ao : Nat) (f : Nat → Int64) : zM l yL_addPerson (wsL_addPerson ++ lwH) ({ frames := 8, cells := 2, slots := 12, locals := 133 }) D (zT T) [.ref (ad 0), .int p0, .int p1, .ref ao] (wH ad ao T σ f) 2 12 (qI D (zT T) (fun v w => ∃ t f', lR cvI [eIA, eNS, eIS] σ (sp_addPerson σ p0 p1) v t f' ∧ w = wH ad ao T t f')) := by
  refine zg_ofL (cc := cL_addPerson) (maxL := 5) (ret := (some .int)) (hh := [(0, 10, 13, 13), (0, 10, 17, 15), (0, 10, 21, 17)]) (by decide) rfl (Nat.le_of_ble_eq_true rfl) (fun p e s m below meth c A htab hr X => ?_)
  have X : zC p s m _ meth c cL_addPerson 5 (wsL_addPerson ++ lwH) RL D (zT T) A := X
  have hok : zTabOk (wsL_addPerson ++ lwH) RL [(13, 13, eIA), (17, 15, eNS), (21, 17, eIS)] := ⟨lh_tab (by decide +kernel), by decide +kernel⟩
  refine zg_aload_n X dL_addPerson_0 rfl ?_
  refine zg_iconst X (v := 0) dL_addPerson_1 (by decide) ?_
  refine zg_aload_n X dL_addPerson_2 rfl ?_
  refine zg_iload_n X dL_addPerson_3 rfl ?_
  refine zg_iload_n X dL_addPerson_4 rfl ?_
  refine zg_hcVi X (lo := 0) (hi := 10) (hs := [(13, 13, eIA), (17, 15, eNS), (21, 17, eIS)]) htab hok ⟨by decide, by decide⟩ (k_X6_addPerson l hfl D ad T σ hV.1.1.1 p0 p1) (lh_m gL_addPerson_X6_addPerson) rfl rfl rfl qv_X6_addPerson rfl ⟨Nat.le_of_ble_eq_true rfl, Nat.le_of_ble_eq_true rfl⟩ rfl (Nat.le_of_ble_eq_true rfl) ⟨Nat.le_of_ble_eq_true rfl, Nat.le_of_ble_eq_true rfl⟩ dL_addPerson_5 (fun E h9 => ?_) (fun r t h9 => ?_)
  · skip
    have h8 := zx_addPerson h9
    rcases h8 with rfl | rfl | rfl
    · skip
      refine ⟨(13, 13, eIA), List.mem_of_getElem? (i := 0) rfl, rfl, fun a => ?_⟩
      refine zg_astore X dL_addPerson_13 (by decide) ?_
      refine zg_iconst X (v := 1) dL_addPerson_15 (by decide) ?_
      exact zg_iret X hr dL_addPerson_16 (Nat.le_of_ble_eq_true rfl) (Nat.le_of_ble_eq_true rfl) (⟨σ, f, Or.inr ⟨eIA, 0, h9, rfl, rfl, rfl⟩, rfl⟩)
    · skip
      refine ⟨(17, 15, eNS), List.mem_of_getElem? (i := 1) rfl, rfl, fun a => ?_⟩
      refine zg_astore X dL_addPerson_17 (by decide) ?_
      refine zg_iconst X (v := 2) dL_addPerson_19 (by decide) ?_
      exact zg_iret X hr dL_addPerson_20 (Nat.le_of_ble_eq_true rfl) (Nat.le_of_ble_eq_true rfl) (⟨σ, f, Or.inr ⟨eNS, 1, h9, rfl, rfl, rfl⟩, rfl⟩)
    · skip
      refine ⟨(21, 17, eIS), List.mem_of_getElem? (i := 2) rfl, rfl, fun a => ?_⟩
      refine zg_astore X dL_addPerson_21 (by decide) ?_
      refine zg_iconst X (v := 3) dL_addPerson_23 (by decide) ?_
      exact zg_iret X hr dL_addPerson_24 (Nat.le_of_ble_eq_true rfl) (Nat.le_of_ble_eq_true rfl) (⟨σ, f, Or.inr ⟨eIS, 2, h9, rfl, rfl, rfl⟩, rfl⟩)
  · skip
    refine zg_i2l X dL_addPerson_8 ?_
    refine zg_last X (q0 := 32) (t0 := 3) (n := 1) (f := f) rfl rfl (vp_in_nI (n := 0) (N := 1) (by decide) (by decide)) dL_addPerson_9 (w' := wH ad ao T t (vp_updL f 0 r.toInt64)) rfl ?_
    refine zg_goto X dL_addPerson_10 (tgt := 25) (by decide) ?_
    refine zg_iconst X (v := 0) dL_addPerson_25 (by decide) ?_
    exact zg_iret X hr dL_addPerson_26 (Nat.le_of_ble_eq_true rfl) (Nat.le_of_ble_eq_true rfl) (⟨t, _, Or.inl ⟨r, h9, rfl, rfl⟩, rfl⟩)
theorem qd_L_setAbsent : yL_setAbsent.cls ≠ "java/lang/invoke/MethodHandle" ∧ yL_setAbsent.cls ≠ "java/lang/invoke/VarHandle" ∧ (parseMethodDescriptor yL_setAbsent.desc).map (fun d => d.parameters.length) = some 4 := by decide +kernel
set_option maxHeartbeats 4000000 in
set_option maxRecDepth 100000 in
theorem k_L_setAbsent (l : Launch) (hfl : l.stackTraces = false) (D : va_G) (ad : Nat → Nat) (T : Nat → ClassId) (σ : ZS) (hV : zV σ) (p0 p1 : Int32) (hb : p1 = 0 ∨ p1 = 1) (ao : Nat) (f : Nat → Int64) : zM l yL_setAbsent (wsL_setAbsent ++ lwH) ({ frames := 8, cells := 1, slots := 6, locals := 134 }) D (zT T) [.ref (ad 0), .int p0, .int p1, .ref ao] (wH ad ao T σ f) 1 6 (qI D (zT T) (fun v w => ∃ t f', lR cvB [eNS] σ (sp_setAbsent σ p0 p1) v t f' ∧ w = wH ad ao T t f')) := by
  refine zg_ofL (cc := cL_setAbsent) (maxL := 5) (ret := (some .int)) (hh := [(0, 17, 20, 15)]) (by decide) rfl (Nat.le_of_ble_eq_true rfl) (fun p e s m below meth c A htab hr X => ?_)
  have X : zC p s m _ meth c cL_setAbsent 5 (wsL_setAbsent ++ lwH) RL D (zT T) A := X
  have hok : zTabOk (wsL_setAbsent ++ lwH) RL [(20, 15, eNS)] := ⟨lh_tab (by decide +kernel), by decide +kernel⟩
  refine zg_aload_n X dL_setAbsent_0 rfl ?_
  refine zg_iconst X (v := 0) dL_setAbsent_1 (by decide) ?_
  refine zg_aload_n X dL_setAbsent_2 rfl ?_
  refine zg_iload_n X dL_setAbsent_3 rfl ?_
  refine zg_iload_n X dL_setAbsent_4 rfl ?_
  refine zg_hcVi X (lo := 0) (hi := 17) (hs := [(20, 15, eNS)]) htab hok ⟨by decide, by decide⟩ (k_X6_setAbsent l hfl D ad T σ hV.1.1.1 p0 p1 hb hV.1.2.1) (lh_m gL_setAbsent_X6_setAbsent) rfl rfl rfl qv_X6_setAbsent rfl ⟨Nat.le_of_ble_eq_true rfl, Nat.le_of_ble_eq_true rfl⟩ rfl (Nat.le_of_ble_eq_true rfl) ⟨Nat.le_of_ble_eq_true rfl, Nat.le_of_ble_eq_true rfl⟩ dL_setAbsent_5 (fun E h9 => ?_) (fun r t h9 => ?_)
  · skip
    have h8 := zx_setAbsent h9
    subst h8
    refine ⟨(20, 15, eNS), List.mem_of_getElem? (i := 0) rfl, rfl, fun a => ?_⟩
    refine zg_astore X dL_setAbsent_20 (by decide) ?_
    refine zg_iconst X (v := 1) dL_setAbsent_22 (by decide) ?_
    exact zg_iret X hr dL_setAbsent_23 (Nat.le_of_ble_eq_true rfl) (Nat.le_of_ble_eq_true rfl) (⟨σ, f, Or.inr ⟨eNS, 0, h9, rfl, rfl, rfl⟩, rfl⟩)
  · skip
    refine zg_if_eq X dL_setAbsent_8 (tgt := 15) (by decide) (fun c9 => ?_) (fun c9 => ?_)
    · skip
      refine zg_lconst X (v := 0) dL_setAbsent_15 rfl ?_
      refine zg_last X (q0 := 32) (t0 := 3) (n := 1) (f := f) rfl rfl (vp_in_nI (n := 0) (N := 1) (by decide) (by decide)) dL_setAbsent_16 (w' := wH ad ao T t (vp_updL f 0 0)) rfl ?_
      refine zg_goto X dL_setAbsent_17 (tgt := 24) (by decide) ?_
      refine zg_iconst X (v := 0) dL_setAbsent_24 (by decide) ?_
      exact zg_iret X hr dL_setAbsent_25 (Nat.le_of_ble_eq_true rfl) (Nat.le_of_ble_eq_true rfl) (⟨t, _, Or.inl ⟨r, h9, rfl, (show (0 : Int64) = cvB r from (if_pos c9).symm)⟩, rfl⟩)
    · skip
      refine zg_lconst X (v := 1) dL_setAbsent_11 rfl ?_
      refine zg_goto X dL_setAbsent_12 (tgt := 16) (by decide) ?_
      refine zg_last X (q0 := 32) (t0 := 3) (n := 1) (f := f) rfl rfl (vp_in_nI (n := 0) (N := 1) (by decide) (by decide)) dL_setAbsent_16 (w' := wH ad ao T t (vp_updL f 0 1)) rfl ?_
      refine zg_goto X dL_setAbsent_17 (tgt := 24) (by decide) ?_
      refine zg_iconst X (v := 0) dL_setAbsent_24 (by decide) ?_
      exact zg_iret X hr dL_setAbsent_25 (Nat.le_of_ble_eq_true rfl) (Nat.le_of_ble_eq_true rfl) (⟨t, _, Or.inl ⟨r, h9, rfl, (show (1 : Int64) = cvB r from (if_neg c9).symm)⟩, rfl⟩)
theorem qd_L_setSubstitute : yL_setSubstitute.cls ≠ "java/lang/invoke/MethodHandle" ∧ yL_setSubstitute.cls ≠ "java/lang/invoke/VarHandle" ∧ (parseMethodDescriptor yL_setSubstitute.desc).map (fun d => d.parameters.length) = some 4 := by decide +kernel
set_option maxHeartbeats 4000000 in
set_option maxRecDepth 100000 in
theorem k_L_setSubstitute (l : Launch) (hfl : l.stackTraces = false) (D : va_G) (ad : Nat → Nat) (T : Nat → ClassId) (σ : ZS) (hV : zV σ) (p0 p1 : Int32) (ao : Nat) (f : Nat → Int64) : zM l yL_setSubstitute (wsL_setSubstitute ++ lwH) ({ frames := 8, cells := 3, slots := 18, locals := 134 }) D (zT T) [.ref (ad 0), .int p0, .int p1, .ref ao] (wH ad ao T σ f) 3 18 (qI D (zT T) (fun v w => ∃ t f', lR cvI [eNS, eIA] σ (sp_setSubstitute σ p0 p1) v t f' ∧ w = wH ad ao T t f')) := by
  refine zg_ofL (cc := cL_setSubstitute) (maxL := 5) (ret := (some .int)) (hh := [(0, 10, 13, 15), (0, 10, 17, 13)]) (by decide) rfl (Nat.le_of_ble_eq_true rfl) (fun p e s m below meth c A htab hr X => ?_)
  have X : zC p s m _ meth c cL_setSubstitute 5 (wsL_setSubstitute ++ lwH) RL D (zT T) A := X
  have hok : zTabOk (wsL_setSubstitute ++ lwH) RL [(13, 15, eNS), (17, 13, eIA)] := ⟨lh_tab (by decide +kernel), by decide +kernel⟩
  refine zg_aload_n X dL_setSubstitute_0 rfl ?_
  refine zg_iconst X (v := 0) dL_setSubstitute_1 (by decide) ?_
  refine zg_aload_n X dL_setSubstitute_2 rfl ?_
  refine zg_iload_n X dL_setSubstitute_3 rfl ?_
  refine zg_iload_n X dL_setSubstitute_4 rfl ?_
  refine zg_hcVi X (lo := 0) (hi := 10) (hs := [(13, 15, eNS), (17, 13, eIA)]) htab hok ⟨by decide, by decide⟩ (k_X6_setSubstitute l hfl D ad T σ hV.1.1.1 p0 p1) (lh_m gL_setSubstitute_X6_setSubstitute) rfl rfl rfl qv_X6_setSubstitute rfl ⟨Nat.le_of_ble_eq_true rfl, Nat.le_of_ble_eq_true rfl⟩ rfl (Nat.le_of_ble_eq_true rfl) ⟨Nat.le_of_ble_eq_true rfl, Nat.le_of_ble_eq_true rfl⟩ dL_setSubstitute_5 (fun E h9 => ?_) (fun r t h9 => ?_)
  · skip
    have h8 := zx_setSubstitute h9
    rcases h8 with rfl | rfl
    · skip
      refine ⟨(13, 15, eNS), List.mem_of_getElem? (i := 0) rfl, rfl, fun a => ?_⟩
      refine zg_astore X dL_setSubstitute_13 (by decide) ?_
      refine zg_iconst X (v := 1) dL_setSubstitute_15 (by decide) ?_
      exact zg_iret X hr dL_setSubstitute_16 (Nat.le_of_ble_eq_true rfl) (Nat.le_of_ble_eq_true rfl) (⟨σ, f, Or.inr ⟨eNS, 0, h9, rfl, rfl, rfl⟩, rfl⟩)
    · skip
      refine ⟨(17, 13, eIA), List.mem_of_getElem? (i := 1) rfl, rfl, fun a => ?_⟩
      refine zg_astore X dL_setSubstitute_17 (by decide) ?_
      refine zg_iconst X (v := 2) dL_setSubstitute_19 (by decide) ?_
      exact zg_iret X hr dL_setSubstitute_20 (Nat.le_of_ble_eq_true rfl) (Nat.le_of_ble_eq_true rfl) (⟨σ, f, Or.inr ⟨eIA, 1, h9, rfl, rfl, rfl⟩, rfl⟩)
  · skip
    refine zg_i2l X dL_setSubstitute_8 ?_
    refine zg_last X (q0 := 32) (t0 := 3) (n := 1) (f := f) rfl rfl (vp_in_nI (n := 0) (N := 1) (by decide) (by decide)) dL_setSubstitute_9 (w' := wH ad ao T t (vp_updL f 0 r.toInt64)) rfl ?_
    refine zg_goto X dL_setSubstitute_10 (tgt := 21) (by decide) ?_
    refine zg_iconst X (v := 0) dL_setSubstitute_21 (by decide) ?_
    exact zg_iret X hr dL_setSubstitute_22 (Nat.le_of_ble_eq_true rfl) (Nat.le_of_ble_eq_true rfl) (⟨t, _, Or.inl ⟨r, h9, rfl, rfl⟩, rfl⟩)
theorem qd_L_addGroup : yL_addGroup.cls ≠ "java/lang/invoke/MethodHandle" ∧ yL_addGroup.cls ≠ "java/lang/invoke/VarHandle" ∧ (parseMethodDescriptor yL_addGroup.desc).map (fun d => d.parameters.length) = some 3 := by decide +kernel
set_option maxHeartbeats 4000000 in
set_option maxRecDepth 100000 in
theorem k_L_addGroup (l : Launch) (hfl : l.stackTraces = false) (D : va_G) (ad : Nat → Nat) (T : Nat → ClassId) (σ : ZS) (hV : zV σ) (p0 : Int32) (ao : Nat) (f : Nat → Int64) : zM l yL_addGroup (wsL_addGroup ++ lwH) ({ frames := 8, cells := 2, slots := 12, locals := 132 }) D (zT T) [.ref (ad 0), .int p0, .ref ao] (wH ad ao T σ f) 2 12 (qI D (zT T) (fun v w => ∃ t f', lR cvI [eNS, eIS] σ (sp_addGroup σ p0) v t f' ∧ w = wH ad ao T t f')) := by
  refine zg_ofL (cc := cL_addGroup) (maxL := 4) (ret := (some .int)) (hh := [(0, 9, 12, 15), (0, 9, 15, 17)]) (by decide) rfl (Nat.le_of_ble_eq_true rfl) (fun p e s m below meth c A htab hr X => ?_)
  have X : zC p s m _ meth c cL_addGroup 4 (wsL_addGroup ++ lwH) RL D (zT T) A := X
  have hok : zTabOk (wsL_addGroup ++ lwH) RL [(12, 15, eNS), (15, 17, eIS)] := ⟨lh_tab (by decide +kernel), by decide +kernel⟩
  refine zg_aload_n X dL_addGroup_0 rfl ?_
  refine zg_iconst X (v := 0) dL_addGroup_1 (by decide) ?_
  refine zg_aload_n X dL_addGroup_2 rfl ?_
  refine zg_iload_n X dL_addGroup_3 rfl ?_
  refine zg_hcVi X (lo := 0) (hi := 9) (hs := [(12, 15, eNS), (15, 17, eIS)]) htab hok ⟨by decide, by decide⟩ (k_X6_addGroup l hfl D ad T σ hV.1.1.1 p0) (lh_m gL_addGroup_X6_addGroup) rfl rfl rfl qv_X6_addGroup rfl ⟨Nat.le_of_ble_eq_true rfl, Nat.le_of_ble_eq_true rfl⟩ rfl (Nat.le_of_ble_eq_true rfl) ⟨Nat.le_of_ble_eq_true rfl, Nat.le_of_ble_eq_true rfl⟩ dL_addGroup_4 (fun E h9 => ?_) (fun r t h9 => ?_)
  · skip
    have h8 := zx_addGroup h9
    rcases h8 with rfl | rfl
    · skip
      refine ⟨(12, 15, eNS), List.mem_of_getElem? (i := 0) rfl, rfl, fun a => ?_⟩
      refine zg_astore_n X dL_addGroup_12 (by decide) ?_
      refine zg_iconst X (v := 1) dL_addGroup_13 (by decide) ?_
      exact zg_iret X hr dL_addGroup_14 (Nat.le_of_ble_eq_true rfl) (Nat.le_of_ble_eq_true rfl) (⟨σ, f, Or.inr ⟨eNS, 0, h9, rfl, rfl, rfl⟩, rfl⟩)
    · skip
      refine ⟨(15, 17, eIS), List.mem_of_getElem? (i := 1) rfl, rfl, fun a => ?_⟩
      refine zg_astore_n X dL_addGroup_15 (by decide) ?_
      refine zg_iconst X (v := 2) dL_addGroup_16 (by decide) ?_
      exact zg_iret X hr dL_addGroup_17 (Nat.le_of_ble_eq_true rfl) (Nat.le_of_ble_eq_true rfl) (⟨σ, f, Or.inr ⟨eIS, 1, h9, rfl, rfl, rfl⟩, rfl⟩)
  · skip
    refine zg_i2l X dL_addGroup_7 ?_
    refine zg_last X (q0 := 32) (t0 := 3) (n := 1) (f := f) rfl rfl (vp_in_nI (n := 0) (N := 1) (by decide) (by decide)) dL_addGroup_8 (w' := wH ad ao T t (vp_updL f 0 r.toInt64)) rfl ?_
    refine zg_goto X dL_addGroup_9 (tgt := 18) (by decide) ?_
    refine zg_iconst X (v := 0) dL_addGroup_18 (by decide) ?_
    exact zg_iret X hr dL_addGroup_19 (Nat.le_of_ble_eq_true rfl) (Nat.le_of_ble_eq_true rfl) (⟨t, _, Or.inl ⟨r, h9, rfl, rfl⟩, rfl⟩)
theorem qd_L_addMember : yL_addMember.cls ≠ "java/lang/invoke/MethodHandle" ∧ yL_addMember.cls ≠ "java/lang/invoke/VarHandle" ∧ (parseMethodDescriptor yL_addMember.desc).map (fun d => d.parameters.length) = some 4 := by decide +kernel
set_option maxHeartbeats 4000000 in
set_option maxRecDepth 100000 in
theorem k_L_addMember (l : Launch) (hfl : l.stackTraces = false) (D : va_G) (ad : Nat → Nat) (T : Nat → ClassId) (σ : ZS) (hV : zV σ) (p0 p1 : Int32) (ao : Nat) (f : Nat → Int64) : zM l yL_addMember (wsL_addMember ++ lwH) ({ frames := 8, cells := 3, slots := 18, locals := 133 }) D (zT T) [.ref (ad 0), .int p0, .int p1, .ref ao] (wH ad ao T σ f) 3 18 (qI D (zT T) (fun v w => ∃ t f', lR cvI [eNS, eIS] σ (sp_addMember σ p0 p1) v t f' ∧ w = wH ad ao T t f')) := by
  refine zg_ofL (cc := cL_addMember) (maxL := 5) (ret := (some .int)) (hh := [(0, 10, 13, 15), (0, 10, 17, 17)]) (by decide) rfl (Nat.le_of_ble_eq_true rfl) (fun p e s m below meth c A htab hr X => ?_)
  have X : zC p s m _ meth c cL_addMember 5 (wsL_addMember ++ lwH) RL D (zT T) A := X
  have hok : zTabOk (wsL_addMember ++ lwH) RL [(13, 15, eNS), (17, 17, eIS)] := ⟨lh_tab (by decide +kernel), by decide +kernel⟩
  refine zg_aload_n X dL_addMember_0 rfl ?_
  refine zg_iconst X (v := 0) dL_addMember_1 (by decide) ?_
  refine zg_aload_n X dL_addMember_2 rfl ?_
  refine zg_iload_n X dL_addMember_3 rfl ?_
  refine zg_iload_n X dL_addMember_4 rfl ?_
  refine zg_hcVi X (lo := 0) (hi := 10) (hs := [(13, 15, eNS), (17, 17, eIS)]) htab hok ⟨by decide, by decide⟩ (k_X6_addMember l hfl D ad T σ hV.1.1.1 p0 p1) (lh_m gL_addMember_X6_addMember) rfl rfl rfl qv_X6_addMember rfl ⟨Nat.le_of_ble_eq_true rfl, Nat.le_of_ble_eq_true rfl⟩ rfl (Nat.le_of_ble_eq_true rfl) ⟨Nat.le_of_ble_eq_true rfl, Nat.le_of_ble_eq_true rfl⟩ dL_addMember_5 (fun E h9 => ?_) (fun r t h9 => ?_)
  · skip
    have h8 := zx_addMember h9
    rcases h8 with rfl | rfl
    · skip
      refine ⟨(13, 15, eNS), List.mem_of_getElem? (i := 0) rfl, rfl, fun a => ?_⟩
      refine zg_astore X dL_addMember_13 (by decide) ?_
      refine zg_iconst X (v := 1) dL_addMember_15 (by decide) ?_
      exact zg_iret X hr dL_addMember_16 (Nat.le_of_ble_eq_true rfl) (Nat.le_of_ble_eq_true rfl) (⟨σ, f, Or.inr ⟨eNS, 0, h9, rfl, rfl, rfl⟩, rfl⟩)
    · skip
      refine ⟨(17, 17, eIS), List.mem_of_getElem? (i := 1) rfl, rfl, fun a => ?_⟩
      refine zg_astore X dL_addMember_17 (by decide) ?_
      refine zg_iconst X (v := 2) dL_addMember_19 (by decide) ?_
      exact zg_iret X hr dL_addMember_20 (Nat.le_of_ble_eq_true rfl) (Nat.le_of_ble_eq_true rfl) (⟨σ, f, Or.inr ⟨eIS, 1, h9, rfl, rfl, rfl⟩, rfl⟩)
  · skip
    refine zg_i2l X dL_addMember_8 ?_
    refine zg_last X (q0 := 32) (t0 := 3) (n := 1) (f := f) rfl rfl (vp_in_nI (n := 0) (N := 1) (by decide) (by decide)) dL_addMember_9 (w' := wH ad ao T t (vp_updL f 0 r.toInt64)) rfl ?_
    refine zg_goto X dL_addMember_10 (tgt := 21) (by decide) ?_
    refine zg_iconst X (v := 0) dL_addMember_21 (by decide) ?_
    exact zg_iret X hr dL_addMember_22 (Nat.le_of_ble_eq_true rfl) (Nat.le_of_ble_eq_true rfl) (⟨t, _, Or.inl ⟨r, h9, rfl, rfl⟩, rfl⟩)
theorem qd_L_removeMember : yL_removeMember.cls ≠ "java/lang/invoke/MethodHandle" ∧ yL_removeMember.cls ≠ "java/lang/invoke/VarHandle" ∧ (parseMethodDescriptor yL_removeMember.desc).map (fun d => d.parameters.length) = some 4 := by decide +kernel
set_option maxHeartbeats 4000000 in
set_option maxRecDepth 100000 in
theorem k_L_removeMember (l : Launch) (hfl : l.stackTraces = false) (D : va_G) (ad : Nat → Nat) (T : Nat → ClassId) (σ : ZS) (hV : zV σ) (p0 p1 : Int32) (ao : Nat) (f : Nat → Int64) : zM l yL_removeMember (wsL_removeMember ++ lwH) ({ frames := 8, cells := 3, slots := 18, locals := 133 }) D (zT T) [.ref (ad 0), .int p0, .int p1, .ref ao] (wH ad ao T σ f) 3 18 (qI D (zT T) (fun v w => ∃ t f', lR cvI [eNS, eIS] σ (sp_removeMember σ p0 p1) v t f' ∧ w = wH ad ao T t f')) := by
  refine zg_ofL (cc := cL_removeMember) (maxL := 5) (ret := (some .int)) (hh := [(0, 10, 13, 15), (0, 10, 17, 17)]) (by decide) rfl (Nat.le_of_ble_eq_true rfl) (fun p e s m below meth c A htab hr X => ?_)
  have X : zC p s m _ meth c cL_removeMember 5 (wsL_removeMember ++ lwH) RL D (zT T) A := X
  have hok : zTabOk (wsL_removeMember ++ lwH) RL [(13, 15, eNS), (17, 17, eIS)] := ⟨lh_tab (by decide +kernel), by decide +kernel⟩
  refine zg_aload_n X dL_removeMember_0 rfl ?_
  refine zg_iconst X (v := 0) dL_removeMember_1 (by decide) ?_
  refine zg_aload_n X dL_removeMember_2 rfl ?_
  refine zg_iload_n X dL_removeMember_3 rfl ?_
  refine zg_iload_n X dL_removeMember_4 rfl ?_
  refine zg_hcVi X (lo := 0) (hi := 10) (hs := [(13, 15, eNS), (17, 17, eIS)]) htab hok ⟨by decide, by decide⟩ (k_X6_removeMember l hfl D ad T σ hV.1.1.1 p0 p1) (lh_m gL_removeMember_X6_removeMember) rfl rfl rfl qv_X6_removeMember rfl ⟨Nat.le_of_ble_eq_true rfl, Nat.le_of_ble_eq_true rfl⟩ rfl (Nat.le_of_ble_eq_true rfl) ⟨Nat.le_of_ble_eq_true rfl, Nat.le_of_ble_eq_true rfl⟩ dL_removeMember_5 (fun E h9 => ?_) (fun r t h9 => ?_)
  · skip
    have h8 := zx_removeMember h9
    rcases h8 with rfl | rfl
    · skip
      refine ⟨(13, 15, eNS), List.mem_of_getElem? (i := 0) rfl, rfl, fun a => ?_⟩
      refine zg_astore X dL_removeMember_13 (by decide) ?_
      refine zg_iconst X (v := 1) dL_removeMember_15 (by decide) ?_
      exact zg_iret X hr dL_removeMember_16 (Nat.le_of_ble_eq_true rfl) (Nat.le_of_ble_eq_true rfl) (⟨σ, f, Or.inr ⟨eNS, 0, h9, rfl, rfl, rfl⟩, rfl⟩)
    · skip
      refine ⟨(17, 17, eIS), List.mem_of_getElem? (i := 1) rfl, rfl, fun a => ?_⟩
      refine zg_astore X dL_removeMember_17 (by decide) ?_
      refine zg_iconst X (v := 2) dL_removeMember_19 (by decide) ?_
      exact zg_iret X hr dL_removeMember_20 (Nat.le_of_ble_eq_true rfl) (Nat.le_of_ble_eq_true rfl) (⟨σ, f, Or.inr ⟨eIS, 1, h9, rfl, rfl, rfl⟩, rfl⟩)
  · skip
    refine zg_i2l X dL_removeMember_8 ?_
    refine zg_last X (q0 := 32) (t0 := 3) (n := 1) (f := f) rfl rfl (vp_in_nI (n := 0) (N := 1) (by decide) (by decide)) dL_removeMember_9 (w' := wH ad ao T t (vp_updL f 0 r.toInt64)) rfl ?_
    refine zg_goto X dL_removeMember_10 (tgt := 21) (by decide) ?_
    refine zg_iconst X (v := 0) dL_removeMember_21 (by decide) ?_
    exact zg_iret X hr dL_removeMember_22 (Nat.le_of_ble_eq_true rfl) (Nat.le_of_ble_eq_true rfl) (⟨t, _, Or.inl ⟨r, h9, rfl, rfl⟩, rfl⟩)
theorem qd_L_nest : yL_nest.cls ≠ "java/lang/invoke/MethodHandle" ∧ yL_nest.cls ≠ "java/lang/invoke/VarHandle" ∧ (parseMethodDescriptor yL_nest.desc).map (fun d => d.parameters.length) = some 4 := by decide +kernel
set_option maxHeartbeats 4000000 in
set_option maxRecDepth 100000 in
theorem k_L_nest (l : Launch) (hfl : l.stackTraces = false) (D : va_G) (ad : Nat → Nat) (T : Nat → ClassId) (σ : ZS) (hV : zV σ) (p0 p1 : Int32) (ao : Nat) (f : Nat → Int64) : zM l yL_nest (wsL_nest ++ lwH) ({ frames := 8, cells := 3, slots := 18, locals := 133 }) D (zT T) [.ref (ad 0), .int p0, .int p1, .ref ao] (wH ad ao T σ f) 3 18 (qI D (zT T) (fun v w => ∃ t f', lR cvI [eNS, eUO, eIS] σ (sp_nest σ p0 p1) v t f' ∧ w = wH ad ao T t f')) := by
  refine zg_ofL (cc := cL_nest) (maxL := 5) (ret := (some .int)) (hh := [(0, 10, 13, 15), (0, 10, 17, 39), (0, 10, 21, 17)]) (by decide) rfl (Nat.le_of_ble_eq_true rfl) (fun p e s m below meth c A htab hr X => ?_)
  have X : zC p s m _ meth c cL_nest 5 (wsL_nest ++ lwH) RL D (zT T) A := X
  have hok : zTabOk (wsL_nest ++ lwH) RL [(13, 15, eNS), (17, 39, eUO), (21, 17, eIS)] := ⟨lh_tab (by decide +kernel), by decide +kernel⟩
  refine zg_aload_n X dL_nest_0 rfl ?_
  refine zg_iconst X (v := 0) dL_nest_1 (by decide) ?_
  refine zg_aload_n X dL_nest_2 rfl ?_
  refine zg_iload_n X dL_nest_3 rfl ?_
  refine zg_iload_n X dL_nest_4 rfl ?_
  refine zg_hcVi X (lo := 0) (hi := 10) (hs := [(13, 15, eNS), (17, 39, eUO), (21, 17, eIS)]) htab hok ⟨by decide, by decide⟩ (k_X6_nest l hfl D ad T σ hV.1.1.1 p0 p1) (lh_m gL_nest_X6_nest) rfl rfl rfl qv_X6_nest rfl ⟨Nat.le_of_ble_eq_true rfl, Nat.le_of_ble_eq_true rfl⟩ rfl (Nat.le_of_ble_eq_true rfl) ⟨Nat.le_of_ble_eq_true rfl, Nat.le_of_ble_eq_true rfl⟩ dL_nest_5 (fun E h9 => ?_) (fun r t h9 => ?_)
  · skip
    have h8 := zx_nest h9
    rcases h8 with rfl | rfl | rfl
    · skip
      refine ⟨(13, 15, eNS), List.mem_of_getElem? (i := 0) rfl, rfl, fun a => ?_⟩
      refine zg_astore X dL_nest_13 (by decide) ?_
      refine zg_iconst X (v := 1) dL_nest_15 (by decide) ?_
      exact zg_iret X hr dL_nest_16 (Nat.le_of_ble_eq_true rfl) (Nat.le_of_ble_eq_true rfl) (⟨σ, f, Or.inr ⟨eNS, 0, h9, rfl, rfl, rfl⟩, rfl⟩)
    · skip
      refine ⟨(17, 39, eUO), List.mem_of_getElem? (i := 1) rfl, rfl, fun a => ?_⟩
      refine zg_astore X dL_nest_17 (by decide) ?_
      refine zg_iconst X (v := 2) dL_nest_19 (by decide) ?_
      exact zg_iret X hr dL_nest_20 (Nat.le_of_ble_eq_true rfl) (Nat.le_of_ble_eq_true rfl) (⟨σ, f, Or.inr ⟨eUO, 1, h9, rfl, rfl, rfl⟩, rfl⟩)
    · skip
      refine ⟨(21, 17, eIS), List.mem_of_getElem? (i := 2) rfl, rfl, fun a => ?_⟩
      refine zg_astore X dL_nest_21 (by decide) ?_
      refine zg_iconst X (v := 3) dL_nest_23 (by decide) ?_
      exact zg_iret X hr dL_nest_24 (Nat.le_of_ble_eq_true rfl) (Nat.le_of_ble_eq_true rfl) (⟨σ, f, Or.inr ⟨eIS, 2, h9, rfl, rfl, rfl⟩, rfl⟩)
  · skip
    refine zg_i2l X dL_nest_8 ?_
    refine zg_last X (q0 := 32) (t0 := 3) (n := 1) (f := f) rfl rfl (vp_in_nI (n := 0) (N := 1) (by decide) (by decide)) dL_nest_9 (w' := wH ad ao T t (vp_updL f 0 r.toInt64)) rfl ?_
    refine zg_goto X dL_nest_10 (tgt := 25) (by decide) ?_
    refine zg_iconst X (v := 0) dL_nest_25 (by decide) ?_
    exact zg_iret X hr dL_nest_26 (Nat.le_of_ble_eq_true rfl) (Nat.le_of_ble_eq_true rfl) (⟨t, _, Or.inl ⟨r, h9, rfl, rfl⟩, rfl⟩)
theorem qd_L_addRight : yL_addRight.cls ≠ "java/lang/invoke/MethodHandle" ∧ yL_addRight.cls ≠ "java/lang/invoke/VarHandle" ∧ (parseMethodDescriptor yL_addRight.desc).map (fun d => d.parameters.length) = some 5 := by decide +kernel
set_option maxHeartbeats 4000000 in
set_option maxRecDepth 100000 in
theorem k_L_addRight (l : Launch) (hfl : l.stackTraces = false) (D : va_G) (ad : Nat → Nat) (T : Nat → ClassId) (σ : ZS) (hV : zV σ) (p0 p1 p2 : Int32) (hb : p2 = 0 ∨ p2 = 1) (ao : Nat) (f : Nat → Int64) : zM l yL_addRight (wsL_addRight ++ lwH) ({ frames := 8, cells := 2, slots := 12, locals := 134 }) D (zT T) [.ref (ad 0), .int p0, .int p1, .int p2, .ref ao] (wH ad ao T σ f) 2 12 (qI D (zT T) (fun v w => ∃ t f', lR cvI [eIA, eNS, eIS] σ (sp_addRight σ p0 p1 p2) v t f' ∧ w = wH ad ao T t f')) := by
  refine zg_ofL (cc := cL_addRight) (maxL := 6) (ret := (some .int)) (hh := [(0, 12, 15, 13), (0, 12, 19, 15), (0, 12, 23, 17)]) (by decide) rfl (Nat.le_of_ble_eq_true rfl) (fun p e s m below meth c A htab hr X => ?_)
  have X : zC p s m _ meth c cL_addRight 6 (wsL_addRight ++ lwH) RL D (zT T) A := X
  have hok : zTabOk (wsL_addRight ++ lwH) RL [(15, 13, eIA), (19, 15, eNS), (23, 17, eIS)] := ⟨lh_tab (by decide +kernel), by decide +kernel⟩
  refine zg_aload X dL_addRight_0 rfl ?_
  refine zg_iconst X (v := 0) dL_addRight_2 (by decide) ?_
  refine zg_aload_n X dL_addRight_3 rfl ?_
  refine zg_iload_n X dL_addRight_4 rfl ?_
  refine zg_iload_n X dL_addRight_5 rfl ?_
  refine zg_iload_n X dL_addRight_6 rfl ?_
  refine zg_hcVi X (lo := 0) (hi := 12) (hs := [(15, 13, eIA), (19, 15, eNS), (23, 17, eIS)]) htab hok ⟨by decide, by decide⟩ (k_X6_addRight l hfl D ad T σ hV.1.1.1 p0 p1 p2 hb) (lh_m gL_addRight_X6_addRight) rfl rfl rfl qv_X6_addRight rfl ⟨Nat.le_of_ble_eq_true rfl, Nat.le_of_ble_eq_true rfl⟩ rfl (Nat.le_of_ble_eq_true rfl) ⟨Nat.le_of_ble_eq_true rfl, Nat.le_of_ble_eq_true rfl⟩ dL_addRight_7 (fun E h9 => ?_) (fun r t h9 => ?_)
  · skip
    have h8 := zx_addRight h9
    rcases h8 with rfl | rfl | rfl
    · skip
      refine ⟨(15, 13, eIA), List.mem_of_getElem? (i := 0) rfl, rfl, fun a => ?_⟩
      refine zg_astore X dL_addRight_15 (by decide) ?_
      refine zg_iconst X (v := 1) dL_addRight_17 (by decide) ?_
      exact zg_iret X hr dL_addRight_18 (Nat.le_of_ble_eq_true rfl) (Nat.le_of_ble_eq_true rfl) (⟨σ, f, Or.inr ⟨eIA, 0, h9, rfl, rfl, rfl⟩, rfl⟩)
    · skip
      refine ⟨(19, 15, eNS), List.mem_of_getElem? (i := 1) rfl, rfl, fun a => ?_⟩
      refine zg_astore X dL_addRight_19 (by decide) ?_
      refine zg_iconst X (v := 2) dL_addRight_21 (by decide) ?_
      exact zg_iret X hr dL_addRight_22 (Nat.le_of_ble_eq_true rfl) (Nat.le_of_ble_eq_true rfl) (⟨σ, f, Or.inr ⟨eNS, 1, h9, rfl, rfl, rfl⟩, rfl⟩)
    · skip
      refine ⟨(23, 17, eIS), List.mem_of_getElem? (i := 2) rfl, rfl, fun a => ?_⟩
      refine zg_astore X dL_addRight_23 (by decide) ?_
      refine zg_iconst X (v := 3) dL_addRight_25 (by decide) ?_
      exact zg_iret X hr dL_addRight_26 (Nat.le_of_ble_eq_true rfl) (Nat.le_of_ble_eq_true rfl) (⟨σ, f, Or.inr ⟨eIS, 2, h9, rfl, rfl, rfl⟩, rfl⟩)
  · skip
    refine zg_i2l X dL_addRight_10 ?_
    refine zg_last X (q0 := 32) (t0 := 3) (n := 1) (f := f) rfl rfl (vp_in_nI (n := 0) (N := 1) (by decide) (by decide)) dL_addRight_11 (w' := wH ad ao T t (vp_updL f 0 r.toInt64)) rfl ?_
    refine zg_goto X dL_addRight_12 (tgt := 27) (by decide) ?_
    refine zg_iconst X (v := 0) dL_addRight_27 (by decide) ?_
    exact zg_iret X hr dL_addRight_28 (Nat.le_of_ble_eq_true rfl) (Nat.le_of_ble_eq_true rfl) (⟨t, _, Or.inl ⟨r, h9, rfl, rfl⟩, rfl⟩)
theorem qd_L_grantPerson : yL_grantPerson.cls ≠ "java/lang/invoke/MethodHandle" ∧ yL_grantPerson.cls ≠ "java/lang/invoke/VarHandle" ∧ (parseMethodDescriptor yL_grantPerson.desc).map (fun d => d.parameters.length) = some 4 := by decide +kernel
set_option maxHeartbeats 4000000 in
set_option maxRecDepth 100000 in
theorem k_L_grantPerson (l : Launch) (hfl : l.stackTraces = false) (D : va_G) (ad : Nat → Nat) (T : Nat → ClassId) (σ : ZS) (hV : zV σ) (p0 p1 : Int32) (ao : Nat) (f : Nat → Int64) : zM l yL_grantPerson (wsL_grantPerson ++ lwH) ({ frames := 8, cells := 3, slots := 18, locals := 135 }) D (zT T) [.ref (ad 0), .int p0, .int p1, .ref ao] (wH ad ao T σ f) 3 18 (qI D (zT T) (fun v w => ∃ t f', lR cvI [eNS, eIS] σ (sp_grantPerson σ p0 p1) v t f' ∧ w = wH ad ao T t f')) := by
  refine zg_ofL (cc := cL_grantPerson) (maxL := 5) (ret := (some .int)) (hh := [(0, 10, 13, 15), (0, 10, 17, 17)]) (by decide) rfl (Nat.le_of_ble_eq_true rfl) (fun p e s m below meth c A htab hr X => ?_)
  have X : zC p s m _ meth c cL_grantPerson 5 (wsL_grantPerson ++ lwH) RL D (zT T) A := X
  have hok : zTabOk (wsL_grantPerson ++ lwH) RL [(13, 15, eNS), (17, 17, eIS)] := ⟨lh_tab (by decide +kernel), by decide +kernel⟩
  refine zg_aload_n X dL_grantPerson_0 rfl ?_
  refine zg_iconst X (v := 0) dL_grantPerson_1 (by decide) ?_
  refine zg_aload_n X dL_grantPerson_2 rfl ?_
  refine zg_iload_n X dL_grantPerson_3 rfl ?_
  refine zg_iload_n X dL_grantPerson_4 rfl ?_
  refine zg_hcVi X (lo := 0) (hi := 10) (hs := [(13, 15, eNS), (17, 17, eIS)]) htab hok ⟨by decide, by decide⟩ (k_X6_grantPerson l hfl D ad T σ hV.1.1.1 p0 p1) (lh_m gL_grantPerson_X6_grantPerson) rfl rfl rfl qv_X6_grantPerson rfl ⟨Nat.le_of_ble_eq_true rfl, Nat.le_of_ble_eq_true rfl⟩ rfl (Nat.le_of_ble_eq_true rfl) ⟨Nat.le_of_ble_eq_true rfl, Nat.le_of_ble_eq_true rfl⟩ dL_grantPerson_5 (fun E h9 => ?_) (fun r t h9 => ?_)
  · skip
    have h8 := zx_grantPerson h9
    rcases h8 with rfl | rfl
    · skip
      refine ⟨(13, 15, eNS), List.mem_of_getElem? (i := 0) rfl, rfl, fun a => ?_⟩
      refine zg_astore X dL_grantPerson_13 (by decide) ?_
      refine zg_iconst X (v := 1) dL_grantPerson_15 (by decide) ?_
      exact zg_iret X hr dL_grantPerson_16 (Nat.le_of_ble_eq_true rfl) (Nat.le_of_ble_eq_true rfl) (⟨σ, f, Or.inr ⟨eNS, 0, h9, rfl, rfl, rfl⟩, rfl⟩)
    · skip
      refine ⟨(17, 17, eIS), List.mem_of_getElem? (i := 1) rfl, rfl, fun a => ?_⟩
      refine zg_astore X dL_grantPerson_17 (by decide) ?_
      refine zg_iconst X (v := 2) dL_grantPerson_19 (by decide) ?_
      exact zg_iret X hr dL_grantPerson_20 (Nat.le_of_ble_eq_true rfl) (Nat.le_of_ble_eq_true rfl) (⟨σ, f, Or.inr ⟨eIS, 1, h9, rfl, rfl, rfl⟩, rfl⟩)
  · skip
    refine zg_i2l X dL_grantPerson_8 ?_
    refine zg_last X (q0 := 32) (t0 := 3) (n := 1) (f := f) rfl rfl (vp_in_nI (n := 0) (N := 1) (by decide) (by decide)) dL_grantPerson_9 (w' := wH ad ao T t (vp_updL f 0 r.toInt64)) rfl ?_
    refine zg_goto X dL_grantPerson_10 (tgt := 21) (by decide) ?_
    refine zg_iconst X (v := 0) dL_grantPerson_21 (by decide) ?_
    exact zg_iret X hr dL_grantPerson_22 (Nat.le_of_ble_eq_true rfl) (Nat.le_of_ble_eq_true rfl) (⟨t, _, Or.inl ⟨r, h9, rfl, rfl⟩, rfl⟩)
theorem qd_L_grantGroup : yL_grantGroup.cls ≠ "java/lang/invoke/MethodHandle" ∧ yL_grantGroup.cls ≠ "java/lang/invoke/VarHandle" ∧ (parseMethodDescriptor yL_grantGroup.desc).map (fun d => d.parameters.length) = some 4 := by decide +kernel
set_option maxHeartbeats 4000000 in
set_option maxRecDepth 100000 in
theorem k_L_grantGroup (l : Launch) (hfl : l.stackTraces = false) (D : va_G) (ad : Nat → Nat) (T : Nat → ClassId) (σ : ZS) (hV : zV σ) (p0 p1 : Int32) (ao : Nat) (f : Nat → Int64) : zM l yL_grantGroup (wsL_grantGroup ++ lwH) ({ frames := 8, cells := 3, slots := 18, locals := 135 }) D (zT T) [.ref (ad 0), .int p0, .int p1, .ref ao] (wH ad ao T σ f) 3 18 (qI D (zT T) (fun v w => ∃ t f', lR cvI [eNS, eIS] σ (sp_grantGroup σ p0 p1) v t f' ∧ w = wH ad ao T t f')) := by
  refine zg_ofL (cc := cL_grantGroup) (maxL := 5) (ret := (some .int)) (hh := [(0, 10, 13, 15), (0, 10, 17, 17)]) (by decide) rfl (Nat.le_of_ble_eq_true rfl) (fun p e s m below meth c A htab hr X => ?_)
  have X : zC p s m _ meth c cL_grantGroup 5 (wsL_grantGroup ++ lwH) RL D (zT T) A := X
  have hok : zTabOk (wsL_grantGroup ++ lwH) RL [(13, 15, eNS), (17, 17, eIS)] := ⟨lh_tab (by decide +kernel), by decide +kernel⟩
  refine zg_aload_n X dL_grantGroup_0 rfl ?_
  refine zg_iconst X (v := 0) dL_grantGroup_1 (by decide) ?_
  refine zg_aload_n X dL_grantGroup_2 rfl ?_
  refine zg_iload_n X dL_grantGroup_3 rfl ?_
  refine zg_iload_n X dL_grantGroup_4 rfl ?_
  refine zg_hcVi X (lo := 0) (hi := 10) (hs := [(13, 15, eNS), (17, 17, eIS)]) htab hok ⟨by decide, by decide⟩ (k_X6_grantGroup l hfl D ad T σ hV.1.1.1 p0 p1) (lh_m gL_grantGroup_X6_grantGroup) rfl rfl rfl qv_X6_grantGroup rfl ⟨Nat.le_of_ble_eq_true rfl, Nat.le_of_ble_eq_true rfl⟩ rfl (Nat.le_of_ble_eq_true rfl) ⟨Nat.le_of_ble_eq_true rfl, Nat.le_of_ble_eq_true rfl⟩ dL_grantGroup_5 (fun E h9 => ?_) (fun r t h9 => ?_)
  · skip
    have h8 := zx_grantGroup h9
    rcases h8 with rfl | rfl
    · skip
      refine ⟨(13, 15, eNS), List.mem_of_getElem? (i := 0) rfl, rfl, fun a => ?_⟩
      refine zg_astore X dL_grantGroup_13 (by decide) ?_
      refine zg_iconst X (v := 1) dL_grantGroup_15 (by decide) ?_
      exact zg_iret X hr dL_grantGroup_16 (Nat.le_of_ble_eq_true rfl) (Nat.le_of_ble_eq_true rfl) (⟨σ, f, Or.inr ⟨eNS, 0, h9, rfl, rfl, rfl⟩, rfl⟩)
    · skip
      refine ⟨(17, 17, eIS), List.mem_of_getElem? (i := 1) rfl, rfl, fun a => ?_⟩
      refine zg_astore X dL_grantGroup_17 (by decide) ?_
      refine zg_iconst X (v := 2) dL_grantGroup_19 (by decide) ?_
      exact zg_iret X hr dL_grantGroup_20 (Nat.le_of_ble_eq_true rfl) (Nat.le_of_ble_eq_true rfl) (⟨σ, f, Or.inr ⟨eIS, 1, h9, rfl, rfl, rfl⟩, rfl⟩)
  · skip
    refine zg_i2l X dL_grantGroup_8 ?_
    refine zg_last X (q0 := 32) (t0 := 3) (n := 1) (f := f) rfl rfl (vp_in_nI (n := 0) (N := 1) (by decide) (by decide)) dL_grantGroup_9 (w' := wH ad ao T t (vp_updL f 0 r.toInt64)) rfl ?_
    refine zg_goto X dL_grantGroup_10 (tgt := 21) (by decide) ?_
    refine zg_iconst X (v := 0) dL_grantGroup_21 (by decide) ?_
    exact zg_iret X hr dL_grantGroup_22 (Nat.le_of_ble_eq_true rfl) (Nat.le_of_ble_eq_true rfl) (⟨t, _, Or.inl ⟨r, h9, rfl, rfl⟩, rfl⟩)
theorem qd_L_use : yL_use.cls ≠ "java/lang/invoke/MethodHandle" ∧ yL_use.cls ≠ "java/lang/invoke/VarHandle" ∧ (parseMethodDescriptor yL_use.desc).map (fun d => d.parameters.length) = some 4 := by decide +kernel
set_option maxHeartbeats 4000000 in
set_option maxRecDepth 100000 in
theorem k_L_use (l : Launch) (hfl : l.stackTraces = false) (D : va_G) (ad : Nat → Nat) (T : Nat → ClassId) (σ : ZS) (hV : zV σ) (p0 p1 : Int32) (ao : Nat) (f : Nat → Int64) : zM l yL_use (wsL_use ++ lwH) ({ frames := 8, cells := 3, slots := 18, locals := 135 }) D (zT T) [.ref (ad 0), .int p0, .int p1, .ref ao] (wH ad ao T σ f) 3 18 (qI D (zT T) (fun v w => ∃ t f', lR cvI [eNS, eIS] σ (sp_use σ p0 p1) v t f' ∧ w = wH ad ao T t f')) := by
  refine zg_ofL (cc := cL_use) (maxL := 5) (ret := (some .int)) (hh := [(0, 10, 13, 15), (0, 10, 17, 17)]) (by decide) rfl (Nat.le_of_ble_eq_true rfl) (fun p e s m below meth c A htab hr X => ?_)
  have X : zC p s m _ meth c cL_use 5 (wsL_use ++ lwH) RL D (zT T) A := X
  have hok : zTabOk (wsL_use ++ lwH) RL [(13, 15, eNS), (17, 17, eIS)] := ⟨lh_tab (by decide +kernel), by decide +kernel⟩
  refine zg_aload_n X dL_use_0 rfl ?_
  refine zg_iconst X (v := 0) dL_use_1 (by decide) ?_
  refine zg_aload_n X dL_use_2 rfl ?_
  refine zg_iload_n X dL_use_3 rfl ?_
  refine zg_iload_n X dL_use_4 rfl ?_
  refine zg_hcVi X (lo := 0) (hi := 10) (hs := [(13, 15, eNS), (17, 17, eIS)]) htab hok ⟨by decide, by decide⟩ (k_X6_use l hfl D ad T σ hV.1.1.1 p0 p1) (lh_m gL_use_X6_use) rfl rfl rfl qv_X6_use rfl ⟨Nat.le_of_ble_eq_true rfl, Nat.le_of_ble_eq_true rfl⟩ rfl (Nat.le_of_ble_eq_true rfl) ⟨Nat.le_of_ble_eq_true rfl, Nat.le_of_ble_eq_true rfl⟩ dL_use_5 (fun E h9 => ?_) (fun r t h9 => ?_)
  · skip
    have h8 := zx_use h9
    rcases h8 with rfl | rfl
    · skip
      refine ⟨(13, 15, eNS), List.mem_of_getElem? (i := 0) rfl, rfl, fun a => ?_⟩
      refine zg_astore X dL_use_13 (by decide) ?_
      refine zg_iconst X (v := 1) dL_use_15 (by decide) ?_
      exact zg_iret X hr dL_use_16 (Nat.le_of_ble_eq_true rfl) (Nat.le_of_ble_eq_true rfl) (⟨σ, f, Or.inr ⟨eNS, 0, h9, rfl, rfl, rfl⟩, rfl⟩)
    · skip
      refine ⟨(17, 17, eIS), List.mem_of_getElem? (i := 1) rfl, rfl, fun a => ?_⟩
      refine zg_astore X dL_use_17 (by decide) ?_
      refine zg_iconst X (v := 2) dL_use_19 (by decide) ?_
      exact zg_iret X hr dL_use_20 (Nat.le_of_ble_eq_true rfl) (Nat.le_of_ble_eq_true rfl) (⟨σ, f, Or.inr ⟨eIS, 1, h9, rfl, rfl, rfl⟩, rfl⟩)
  · skip
    refine zg_i2l X dL_use_8 ?_
    refine zg_last X (q0 := 32) (t0 := 3) (n := 1) (f := f) rfl rfl (vp_in_nI (n := 0) (N := 1) (by decide) (by decide)) dL_use_9 (w' := wH ad ao T t (vp_updL f 0 r.toInt64)) rfl ?_
    refine zg_goto X dL_use_10 (tgt := 21) (by decide) ?_
    refine zg_iconst X (v := 0) dL_use_21 (by decide) ?_
    exact zg_iret X hr dL_use_22 (Nat.le_of_ble_eq_true rfl) (Nat.le_of_ble_eq_true rfl) (⟨t, _, Or.inl ⟨r, h9, rfl, rfl⟩, rfl⟩)
theorem qd_L_pass : yL_pass.cls ≠ "java/lang/invoke/MethodHandle" ∧ yL_pass.cls ≠ "java/lang/invoke/VarHandle" ∧ (parseMethodDescriptor yL_pass.desc).map (fun d => d.parameters.length) = some 3 := by decide +kernel
set_option maxHeartbeats 4000000 in
set_option maxRecDepth 100000 in
theorem k_L_pass (l : Launch) (hfl : l.stackTraces = false) (D : va_G) (ad : Nat → Nat) (T : Nat → ClassId) (σ : ZS) (hV : zV σ) (p0 : Int32) (ao : Nat) (f : Nat → Int64) : zM l yL_pass (wsL_pass ++ lwH) ({ frames := 8, cells := 1, slots := 6, locals := 158 }) D (zT T) [.ref (ad 0), .int p0, .ref ao] (wH ad ao T σ f) 1 6 (qI D (zT T) (fun v w => ∃ t f', lR cvI [eIA] σ (sp_pass σ p0) v t f' ∧ w = wH ad ao T t f')) := by
  refine zg_ofL (cc := cL_pass) (maxL := 4) (ret := (some .int)) (hh := [(0, 9, 12, 13)]) (by decide) rfl (Nat.le_of_ble_eq_true rfl) (fun p e s m below meth c A htab hr X => ?_)
  have X : zC p s m _ meth c cL_pass 4 (wsL_pass ++ lwH) RL D (zT T) A := X
  have hok : zTabOk (wsL_pass ++ lwH) RL [(12, 13, eIA)] := ⟨lh_tab (by decide +kernel), by decide +kernel⟩
  refine zg_aload_n X dL_pass_0 rfl ?_
  refine zg_iconst X (v := 0) dL_pass_1 (by decide) ?_
  refine zg_aload_n X dL_pass_2 rfl ?_
  refine zg_iload_n X dL_pass_3 rfl ?_
  refine zg_hcVi X (lo := 0) (hi := 9) (hs := [(12, 13, eIA)]) htab hok ⟨by decide, by decide⟩ (k_X6_pass l hfl D ad T σ hV.1.1.1 p0 hV.1.1.2.1) (lh_m gL_pass_X6_pass) rfl rfl rfl qv_X6_pass rfl ⟨Nat.le_of_ble_eq_true rfl, Nat.le_of_ble_eq_true rfl⟩ rfl (Nat.le_of_ble_eq_true rfl) ⟨Nat.le_of_ble_eq_true rfl, Nat.le_of_ble_eq_true rfl⟩ dL_pass_4 (fun E h9 => ?_) (fun r t h9 => ?_)
  · skip
    have h8 := zx_pass h9
    subst h8
    refine ⟨(12, 13, eIA), List.mem_of_getElem? (i := 0) rfl, rfl, fun a => ?_⟩
    refine zg_astore_n X dL_pass_12 (by decide) ?_
    refine zg_iconst X (v := 1) dL_pass_13 (by decide) ?_
    exact zg_iret X hr dL_pass_14 (Nat.le_of_ble_eq_true rfl) (Nat.le_of_ble_eq_true rfl) (⟨σ, f, Or.inr ⟨eIA, 0, h9, rfl, rfl, rfl⟩, rfl⟩)
  · skip
    refine zg_i2l X dL_pass_7 ?_
    refine zg_last X (q0 := 32) (t0 := 3) (n := 1) (f := f) rfl rfl (vp_in_nI (n := 0) (N := 1) (by decide) (by decide)) dL_pass_8 (w' := wH ad ao T t (vp_updL f 0 r.toInt64)) rfl ?_
    refine zg_goto X dL_pass_9 (tgt := 15) (by decide) ?_
    refine zg_iconst X (v := 0) dL_pass_15 (by decide) ?_
    exact zg_iret X hr dL_pass_16 (Nat.le_of_ble_eq_true rfl) (Nat.le_of_ble_eq_true rfl) (⟨t, _, Or.inl ⟨r, h9, rfl, rfl⟩, rfl⟩)
theorem qd_L_setLimit : yL_setLimit.cls ≠ "java/lang/invoke/MethodHandle" ∧ yL_setLimit.cls ≠ "java/lang/invoke/VarHandle" ∧ (parseMethodDescriptor yL_setLimit.desc).map (fun d => d.parameters.length) = some 3 := by decide +kernel
set_option maxHeartbeats 4000000 in
set_option maxRecDepth 100000 in
theorem k_L_setLimit (l : Launch) (hfl : l.stackTraces = false) (D : va_G) (ad : Nat → Nat) (T : Nat → ClassId) (σ : ZS) (hV : zV σ) (p0 : Int32) (ao : Nat) (f : Nat → Int64) : zM l yL_setLimit (wsL_setLimit ++ lwH) ({ frames := 7, cells := 1, slots := 6, locals := 112 }) D (zT T) [.ref (ad 0), .int p0, .ref ao] (wH ad ao T σ f) 1 6 (qI D (zT T) (fun v w => ∃ t f', lR cvI [eIA] σ (sp_setLimit σ p0) v t f' ∧ w = wH ad ao T t f')) := by
  refine zg_ofL (cc := cL_setLimit) (maxL := 4) (ret := (some .int)) (hh := [(0, 9, 12, 13)]) (by decide) rfl (Nat.le_of_ble_eq_true rfl) (fun p e s m below meth c A htab hr X => ?_)
  have X : zC p s m _ meth c cL_setLimit 4 (wsL_setLimit ++ lwH) RL D (zT T) A := X
  have hok : zTabOk (wsL_setLimit ++ lwH) RL [(12, 13, eIA)] := ⟨lh_tab (by decide +kernel), by decide +kernel⟩
  refine zg_aload_n X dL_setLimit_0 rfl ?_
  refine zg_iconst X (v := 0) dL_setLimit_1 (by decide) ?_
  refine zg_aload_n X dL_setLimit_2 rfl ?_
  refine zg_iload_n X dL_setLimit_3 rfl ?_
  refine zg_hcVi X (lo := 0) (hi := 9) (hs := [(12, 13, eIA)]) htab hok ⟨by decide, by decide⟩ (k_X6_setLimit l hfl D ad T σ hV.1.1.1 p0) (lh_m gL_setLimit_X6_setLimit) rfl rfl rfl qv_X6_setLimit rfl ⟨Nat.le_of_ble_eq_true rfl, Nat.le_of_ble_eq_true rfl⟩ rfl (Nat.le_of_ble_eq_true rfl) ⟨Nat.le_of_ble_eq_true rfl, Nat.le_of_ble_eq_true rfl⟩ dL_setLimit_4 (fun E h9 => ?_) (fun r t h9 => ?_)
  · skip
    have h8 := zx_setLimit h9
    subst h8
    refine ⟨(12, 13, eIA), List.mem_of_getElem? (i := 0) rfl, rfl, fun a => ?_⟩
    refine zg_astore_n X dL_setLimit_12 (by decide) ?_
    refine zg_iconst X (v := 1) dL_setLimit_13 (by decide) ?_
    exact zg_iret X hr dL_setLimit_14 (Nat.le_of_ble_eq_true rfl) (Nat.le_of_ble_eq_true rfl) (⟨σ, f, Or.inr ⟨eIA, 0, h9, rfl, rfl, rfl⟩, rfl⟩)
  · skip
    refine zg_i2l X dL_setLimit_7 ?_
    refine zg_last X (q0 := 32) (t0 := 3) (n := 1) (f := f) rfl rfl (vp_in_nI (n := 0) (N := 1) (by decide) (by decide)) dL_setLimit_8 (w' := wH ad ao T t (vp_updL f 0 r.toInt64)) rfl ?_
    refine zg_goto X dL_setLimit_9 (tgt := 15) (by decide) ?_
    refine zg_iconst X (v := 0) dL_setLimit_15 (by decide) ?_
    exact zg_iret X hr dL_setLimit_16 (Nat.le_of_ble_eq_true rfl) (Nat.le_of_ble_eq_true rfl) (⟨t, _, Or.inl ⟨r, h9, rfl, rfl⟩, rfl⟩)
theorem qd_L_setGrace : yL_setGrace.cls ≠ "java/lang/invoke/MethodHandle" ∧ yL_setGrace.cls ≠ "java/lang/invoke/VarHandle" ∧ (parseMethodDescriptor yL_setGrace.desc).map (fun d => d.parameters.length) = some 3 := by decide +kernel
set_option maxHeartbeats 4000000 in
set_option maxRecDepth 100000 in
theorem k_L_setGrace (l : Launch) (hfl : l.stackTraces = false) (D : va_G) (ad : Nat → Nat) (T : Nat → ClassId) (σ : ZS) (hV : zV σ) (p0 : Int32) (ao : Nat) (f : Nat → Int64) : zM l yL_setGrace (wsL_setGrace ++ lwH) ({ frames := 7, cells := 1, slots := 6, locals := 112 }) D (zT T) [.ref (ad 0), .int p0, .ref ao] (wH ad ao T σ f) 1 6 (qI D (zT T) (fun v w => ∃ t f', lR cvI [eIA] σ (sp_setGrace σ p0) v t f' ∧ w = wH ad ao T t f')) := by
  refine zg_ofL (cc := cL_setGrace) (maxL := 4) (ret := (some .int)) (hh := [(0, 9, 12, 13)]) (by decide) rfl (Nat.le_of_ble_eq_true rfl) (fun p e s m below meth c A htab hr X => ?_)
  have X : zC p s m _ meth c cL_setGrace 4 (wsL_setGrace ++ lwH) RL D (zT T) A := X
  have hok : zTabOk (wsL_setGrace ++ lwH) RL [(12, 13, eIA)] := ⟨lh_tab (by decide +kernel), by decide +kernel⟩
  refine zg_aload_n X dL_setGrace_0 rfl ?_
  refine zg_iconst X (v := 0) dL_setGrace_1 (by decide) ?_
  refine zg_aload_n X dL_setGrace_2 rfl ?_
  refine zg_iload_n X dL_setGrace_3 rfl ?_
  refine zg_hcVi X (lo := 0) (hi := 9) (hs := [(12, 13, eIA)]) htab hok ⟨by decide, by decide⟩ (k_X6_setGrace l hfl D ad T σ hV.1.1.1 p0) (lh_m gL_setGrace_X6_setGrace) rfl rfl rfl qv_X6_setGrace rfl ⟨Nat.le_of_ble_eq_true rfl, Nat.le_of_ble_eq_true rfl⟩ rfl (Nat.le_of_ble_eq_true rfl) ⟨Nat.le_of_ble_eq_true rfl, Nat.le_of_ble_eq_true rfl⟩ dL_setGrace_4 (fun E h9 => ?_) (fun r t h9 => ?_)
  · skip
    have h8 := zx_setGrace h9
    subst h8
    refine ⟨(12, 13, eIA), List.mem_of_getElem? (i := 0) rfl, rfl, fun a => ?_⟩
    refine zg_astore_n X dL_setGrace_12 (by decide) ?_
    refine zg_iconst X (v := 1) dL_setGrace_13 (by decide) ?_
    exact zg_iret X hr dL_setGrace_14 (Nat.le_of_ble_eq_true rfl) (Nat.le_of_ble_eq_true rfl) (⟨σ, f, Or.inr ⟨eIA, 0, h9, rfl, rfl, rfl⟩, rfl⟩)
  · skip
    refine zg_i2l X dL_setGrace_7 ?_
    refine zg_last X (q0 := 32) (t0 := 3) (n := 1) (f := f) rfl rfl (vp_in_nI (n := 0) (N := 1) (by decide) (by decide)) dL_setGrace_8 (w' := wH ad ao T t (vp_updL f 0 r.toInt64)) rfl ?_
    refine zg_goto X dL_setGrace_9 (tgt := 15) (by decide) ?_
    refine zg_iconst X (v := 0) dL_setGrace_15 (by decide) ?_
    exact zg_iret X hr dL_setGrace_16 (Nat.le_of_ble_eq_true rfl) (Nat.le_of_ble_eq_true rfl) (⟨t, _, Or.inl ⟨r, h9, rfl, rfl⟩, rfl⟩)
theorem qd_L_openCampaign : yL_openCampaign.cls ≠ "java/lang/invoke/MethodHandle" ∧ yL_openCampaign.cls ≠ "java/lang/invoke/VarHandle" ∧ (parseMethodDescriptor yL_openCampaign.desc).map (fun d => d.parameters.length) = some 3 := by decide +kernel
set_option maxHeartbeats 4000000 in
set_option maxRecDepth 100000 in
theorem k_L_openCampaign (l : Launch) (hfl : l.stackTraces = false) (D : va_G) (ad : Nat → Nat) (T : Nat → ClassId) (σ : ZS) (hV : zV σ) (p0 : Int32) (ao : Nat) (f : Nat → Int64) : zM l yL_openCampaign (wsL_openCampaign ++ lwH) ({ frames := 8, cells := 2, slots := 12, locals := 133 }) D (zT T) [.ref (ad 0), .int p0, .ref ao] (wH ad ao T σ f) 2 12 (qI D (zT T) (fun v w => ∃ t f', lR cvI [eIA, eIS] σ (sp_openCampaign σ p0) v t f' ∧ w = wH ad ao T t f')) := by
  refine zg_ofL (cc := cL_openCampaign) (maxL := 4) (ret := (some .int)) (hh := [(0, 9, 12, 13), (0, 9, 15, 17)]) (by decide) rfl (Nat.le_of_ble_eq_true rfl) (fun p e s m below meth c A htab hr X => ?_)
  have X : zC p s m _ meth c cL_openCampaign 4 (wsL_openCampaign ++ lwH) RL D (zT T) A := X
  have hok : zTabOk (wsL_openCampaign ++ lwH) RL [(12, 13, eIA), (15, 17, eIS)] := ⟨lh_tab (by decide +kernel), by decide +kernel⟩
  refine zg_aload_n X dL_openCampaign_0 rfl ?_
  refine zg_iconst X (v := 0) dL_openCampaign_1 (by decide) ?_
  refine zg_aload_n X dL_openCampaign_2 rfl ?_
  refine zg_iload_n X dL_openCampaign_3 rfl ?_
  refine zg_hcVi X (lo := 0) (hi := 9) (hs := [(12, 13, eIA), (15, 17, eIS)]) htab hok ⟨by decide, by decide⟩ (k_X6_openCampaign l hfl D ad T σ hV.1.1.1 p0 hV.u6) (lh_m gL_openCampaign_X6_openCampaign) rfl rfl rfl qv_X6_openCampaign rfl ⟨Nat.le_of_ble_eq_true rfl, Nat.le_of_ble_eq_true rfl⟩ rfl (Nat.le_of_ble_eq_true rfl) ⟨Nat.le_of_ble_eq_true rfl, Nat.le_of_ble_eq_true rfl⟩ dL_openCampaign_4 (fun E h9 => ?_) (fun r t h9 => ?_)
  · skip
    have h8 := zx_openCampaign h9
    rcases h8 with rfl | rfl
    · skip
      refine ⟨(12, 13, eIA), List.mem_of_getElem? (i := 0) rfl, rfl, fun a => ?_⟩
      refine zg_astore_n X dL_openCampaign_12 (by decide) ?_
      refine zg_iconst X (v := 1) dL_openCampaign_13 (by decide) ?_
      exact zg_iret X hr dL_openCampaign_14 (Nat.le_of_ble_eq_true rfl) (Nat.le_of_ble_eq_true rfl) (⟨σ, f, Or.inr ⟨eIA, 0, h9, rfl, rfl, rfl⟩, rfl⟩)
    · skip
      refine ⟨(15, 17, eIS), List.mem_of_getElem? (i := 1) rfl, rfl, fun a => ?_⟩
      refine zg_astore_n X dL_openCampaign_15 (by decide) ?_
      refine zg_iconst X (v := 2) dL_openCampaign_16 (by decide) ?_
      exact zg_iret X hr dL_openCampaign_17 (Nat.le_of_ble_eq_true rfl) (Nat.le_of_ble_eq_true rfl) (⟨σ, f, Or.inr ⟨eIS, 1, h9, rfl, rfl, rfl⟩, rfl⟩)
  · skip
    refine zg_i2l X dL_openCampaign_7 ?_
    refine zg_last X (q0 := 32) (t0 := 3) (n := 1) (f := f) rfl rfl (vp_in_nI (n := 0) (N := 1) (by decide) (by decide)) dL_openCampaign_8 (w' := wH ad ao T t (vp_updL f 0 r.toInt64)) rfl ?_
    refine zg_goto X dL_openCampaign_9 (tgt := 18) (by decide) ?_
    refine zg_iconst X (v := 0) dL_openCampaign_18 (by decide) ?_
    exact zg_iret X hr dL_openCampaign_19 (Nat.le_of_ble_eq_true rfl) (Nat.le_of_ble_eq_true rfl) (⟨t, _, Or.inl ⟨r, h9, rfl, rfl⟩, rfl⟩)
theorem qd_L_answer : yL_answer.cls ≠ "java/lang/invoke/MethodHandle" ∧ yL_answer.cls ≠ "java/lang/invoke/VarHandle" ∧ (parseMethodDescriptor yL_answer.desc).map (fun d => d.parameters.length) = some 5 := by decide +kernel
set_option maxHeartbeats 4000000 in
set_option maxRecDepth 100000 in
theorem k_L_answer (l : Launch) (hfl : l.stackTraces = false) (D : va_G) (ad : Nat → Nat) (T : Nat → ClassId) (σ : ZS) (hV : zV σ) (p0 p1 p2 : Int32) (ao : Nat) (f : Nat → Int64) : zM l yL_answer (wsL_answer ++ lwH) ({ frames := 8, cells := 3, slots := 18, locals := 158 }) D (zT T) [.ref (ad 0), .int p0, .int p1, .int p2, .ref ao] (wH ad ao T σ f) 3 18 (qI D (zT T) (fun v w => ∃ t f', lR cvI [eIS, eNS, eIA, eUO] σ (sp_answer σ p0 p1 p2) v t f' ∧ w = wH ad ao T t f')) := by
  refine zg_ofL (cc := cL_answer) (maxL := 6) (ret := (some .int)) (hh := [(0, 12, 15, 17), (0, 12, 19, 15), (0, 12, 23, 13), (0, 12, 27, 39)]) (by decide) rfl (Nat.le_of_ble_eq_true rfl) (fun p e s m below meth c A htab hr X => ?_)
  have X : zC p s m _ meth c cL_answer 6 (wsL_answer ++ lwH) RL D (zT T) A := X
  have hok : zTabOk (wsL_answer ++ lwH) RL [(15, 17, eIS), (19, 15, eNS), (23, 13, eIA), (27, 39, eUO)] := ⟨lh_tab (by decide +kernel), by decide +kernel⟩
  refine zg_aload X dL_answer_0 rfl ?_
  refine zg_iconst X (v := 0) dL_answer_2 (by decide) ?_
  refine zg_aload_n X dL_answer_3 rfl ?_
  refine zg_iload_n X dL_answer_4 rfl ?_
  refine zg_iload_n X dL_answer_5 rfl ?_
  refine zg_iload_n X dL_answer_6 rfl ?_
  refine zg_hcVi X (lo := 0) (hi := 12) (hs := [(15, 17, eIS), (19, 15, eNS), (23, 13, eIA), (27, 39, eUO)]) htab hok ⟨by decide, by decide⟩ (k_X6_answer l hfl D ad T σ hV.1.1.1 p0 p1 p2 hV.1.1.2.1) (lh_m gL_answer_X6_answer) rfl rfl rfl qv_X6_answer rfl ⟨Nat.le_of_ble_eq_true rfl, Nat.le_of_ble_eq_true rfl⟩ rfl (Nat.le_of_ble_eq_true rfl) ⟨Nat.le_of_ble_eq_true rfl, Nat.le_of_ble_eq_true rfl⟩ dL_answer_7 (fun E h9 => ?_) (fun r t h9 => ?_)
  · skip
    have h8 := zx_answer h9
    rcases h8 with rfl | rfl | rfl | rfl
    · skip
      refine ⟨(15, 17, eIS), List.mem_of_getElem? (i := 0) rfl, rfl, fun a => ?_⟩
      refine zg_astore X dL_answer_15 (by decide) ?_
      refine zg_iconst X (v := 1) dL_answer_17 (by decide) ?_
      exact zg_iret X hr dL_answer_18 (Nat.le_of_ble_eq_true rfl) (Nat.le_of_ble_eq_true rfl) (⟨σ, f, Or.inr ⟨eIS, 0, h9, rfl, rfl, rfl⟩, rfl⟩)
    · skip
      refine ⟨(19, 15, eNS), List.mem_of_getElem? (i := 1) rfl, rfl, fun a => ?_⟩
      refine zg_astore X dL_answer_19 (by decide) ?_
      refine zg_iconst X (v := 2) dL_answer_21 (by decide) ?_
      exact zg_iret X hr dL_answer_22 (Nat.le_of_ble_eq_true rfl) (Nat.le_of_ble_eq_true rfl) (⟨σ, f, Or.inr ⟨eNS, 1, h9, rfl, rfl, rfl⟩, rfl⟩)
    · skip
      refine ⟨(23, 13, eIA), List.mem_of_getElem? (i := 2) rfl, rfl, fun a => ?_⟩
      refine zg_astore X dL_answer_23 (by decide) ?_
      refine zg_iconst X (v := 3) dL_answer_25 (by decide) ?_
      exact zg_iret X hr dL_answer_26 (Nat.le_of_ble_eq_true rfl) (Nat.le_of_ble_eq_true rfl) (⟨σ, f, Or.inr ⟨eIA, 2, h9, rfl, rfl, rfl⟩, rfl⟩)
    · skip
      refine ⟨(27, 39, eUO), List.mem_of_getElem? (i := 3) rfl, rfl, fun a => ?_⟩
      refine zg_astore X dL_answer_27 (by decide) ?_
      refine zg_iconst X (v := 4) dL_answer_29 (by decide) ?_
      exact zg_iret X hr dL_answer_30 (Nat.le_of_ble_eq_true rfl) (Nat.le_of_ble_eq_true rfl) (⟨σ, f, Or.inr ⟨eUO, 3, h9, rfl, rfl, rfl⟩, rfl⟩)
  · skip
    refine zg_i2l X dL_answer_10 ?_
    refine zg_last X (q0 := 32) (t0 := 3) (n := 1) (f := f) rfl rfl (vp_in_nI (n := 0) (N := 1) (by decide) (by decide)) dL_answer_11 (w' := wH ad ao T t (vp_updL f 0 r.toInt64)) rfl ?_
    refine zg_goto X dL_answer_12 (tgt := 31) (by decide) ?_
    refine zg_iconst X (v := 0) dL_answer_31 (by decide) ?_
    exact zg_iret X hr dL_answer_32 (Nat.le_of_ble_eq_true rfl) (Nat.le_of_ble_eq_true rfl) (⟨t, _, Or.inl ⟨r, h9, rfl, rfl⟩, rfl⟩)
theorem qd_L_standIn : yL_standIn.cls ≠ "java/lang/invoke/MethodHandle" ∧ yL_standIn.cls ≠ "java/lang/invoke/VarHandle" ∧ (parseMethodDescriptor yL_standIn.desc).map (fun d => d.parameters.length) = some 3 := by decide +kernel
set_option maxHeartbeats 4000000 in
set_option maxRecDepth 100000 in
theorem k_L_standIn (l : Launch) (hfl : l.stackTraces = false) (D : va_G) (ad : Nat → Nat) (T : Nat → ClassId) (σ : ZS) (hV : zV σ) (p0 : Int32) (ao : Nat) (f : Nat → Int64) : zM l yL_standIn (wsL_standIn ++ lwH) ({ frames := 8, cells := 1, slots := 6, locals := 132 }) D (zT T) [.ref (ad 0), .int p0, .ref ao] (wH ad ao T σ f) 1 6 (qI D (zT T) (fun v w => ∃ t f', lR cvI [eNS] σ (sp_standIn σ p0) v t f' ∧ w = wH ad ao T t f')) := by
  refine zg_ofL (cc := cL_standIn) (maxL := 4) (ret := (some .int)) (hh := [(0, 9, 12, 15)]) (by decide) rfl (Nat.le_of_ble_eq_true rfl) (fun p e s m below meth c A htab hr X => ?_)
  have X : zC p s m _ meth c cL_standIn 4 (wsL_standIn ++ lwH) RL D (zT T) A := X
  have hok : zTabOk (wsL_standIn ++ lwH) RL [(12, 15, eNS)] := ⟨lh_tab (by decide +kernel), by decide +kernel⟩
  refine zg_aload_n X dL_standIn_0 rfl ?_
  refine zg_iconst X (v := 0) dL_standIn_1 (by decide) ?_
  refine zg_aload_n X dL_standIn_2 rfl ?_
  refine zg_iload_n X dL_standIn_3 rfl ?_
  refine zg_hcVi X (lo := 0) (hi := 9) (hs := [(12, 15, eNS)]) htab hok ⟨by decide, by decide⟩ (k_X6_standIn l hfl D ad T σ hV.1.1.1 p0) (lh_m gL_standIn_X6_standIn) rfl rfl rfl qv_X6_standIn rfl ⟨Nat.le_of_ble_eq_true rfl, Nat.le_of_ble_eq_true rfl⟩ rfl (Nat.le_of_ble_eq_true rfl) ⟨Nat.le_of_ble_eq_true rfl, Nat.le_of_ble_eq_true rfl⟩ dL_standIn_4 (fun E h9 => ?_) (fun r t h9 => ?_)
  · skip
    have h8 := zx_standIn h9
    subst h8
    refine ⟨(12, 15, eNS), List.mem_of_getElem? (i := 0) rfl, rfl, fun a => ?_⟩
    refine zg_astore_n X dL_standIn_12 (by decide) ?_
    refine zg_iconst X (v := 1) dL_standIn_13 (by decide) ?_
    exact zg_iret X hr dL_standIn_14 (Nat.le_of_ble_eq_true rfl) (Nat.le_of_ble_eq_true rfl) (⟨σ, f, Or.inr ⟨eNS, 0, h9, rfl, rfl, rfl⟩, rfl⟩)
  · skip
    refine zg_i2l X dL_standIn_7 ?_
    refine zg_last X (q0 := 32) (t0 := 3) (n := 1) (f := f) rfl rfl (vp_in_nI (n := 0) (N := 1) (by decide) (by decide)) dL_standIn_8 (w' := wH ad ao T t (vp_updL f 0 r.toInt64)) rfl ?_
    refine zg_goto X dL_standIn_9 (tgt := 15) (by decide) ?_
    refine zg_iconst X (v := 0) dL_standIn_15 (by decide) ?_
    exact zg_iret X hr dL_standIn_16 (Nat.le_of_ble_eq_true rfl) (Nat.le_of_ble_eq_true rfl) (⟨t, _, Or.inl ⟨r, h9, rfl, rfl⟩, rfl⟩)
theorem qd_L_isMember : yL_isMember.cls ≠ "java/lang/invoke/MethodHandle" ∧ yL_isMember.cls ≠ "java/lang/invoke/VarHandle" ∧ (parseMethodDescriptor yL_isMember.desc).map (fun d => d.parameters.length) = some 4 := by decide +kernel
set_option maxHeartbeats 4000000 in
set_option maxRecDepth 100000 in
theorem k_L_isMember (l : Launch) (hfl : l.stackTraces = false) (D : va_G) (ad : Nat → Nat) (T : Nat → ClassId) (σ : ZS) (hV : zV σ) (p0 p1 : Int32) (ao : Nat) (f : Nat → Int64) : zM l yL_isMember (wsL_isMember ++ lwH) ({ frames := 8, cells := 2, slots := 12, locals := 133 }) D (zT T) [.ref (ad 0), .int p0, .int p1, .ref ao] (wH ad ao T σ f) 2 12 (qI D (zT T) (fun v w => ∃ t f', lR cvB [eNS] σ (sp_isMember σ p0 p1) v t f' ∧ w = wH ad ao T t f')) := by
  refine zg_ofL (cc := cL_isMember) (maxL := 5) (ret := (some .int)) (hh := [(0, 17, 20, 15)]) (by decide) rfl (Nat.le_of_ble_eq_true rfl) (fun p e s m below meth c A htab hr X => ?_)
  have X : zC p s m _ meth c cL_isMember 5 (wsL_isMember ++ lwH) RL D (zT T) A := X
  have hok : zTabOk (wsL_isMember ++ lwH) RL [(20, 15, eNS)] := ⟨lh_tab (by decide +kernel), by decide +kernel⟩
  refine zg_aload_n X dL_isMember_0 rfl ?_
  refine zg_iconst X (v := 0) dL_isMember_1 (by decide) ?_
  refine zg_aload_n X dL_isMember_2 rfl ?_
  refine zg_iload_n X dL_isMember_3 rfl ?_
  refine zg_iload_n X dL_isMember_4 rfl ?_
  refine zg_hcVi X (lo := 0) (hi := 17) (hs := [(20, 15, eNS)]) htab hok ⟨by decide, by decide⟩ (k_X6_isMember l hfl D ad T σ hV.1.1.1 p0 p1) (lh_m gL_isMember_X6_isMember) rfl rfl rfl qv_X6_isMember rfl ⟨Nat.le_of_ble_eq_true rfl, Nat.le_of_ble_eq_true rfl⟩ rfl (Nat.le_of_ble_eq_true rfl) ⟨Nat.le_of_ble_eq_true rfl, Nat.le_of_ble_eq_true rfl⟩ dL_isMember_5 (fun E h9 => ?_) (fun r t h9 => ?_)
  · skip
    have h8 := zx_isMember h9
    subst h8
    refine ⟨(20, 15, eNS), List.mem_of_getElem? (i := 0) rfl, rfl, fun a => ?_⟩
    refine zg_astore X dL_isMember_20 (by decide) ?_
    refine zg_iconst X (v := 1) dL_isMember_22 (by decide) ?_
    exact zg_iret X hr dL_isMember_23 (Nat.le_of_ble_eq_true rfl) (Nat.le_of_ble_eq_true rfl) (⟨σ, f, Or.inr ⟨eNS, 0, h9, rfl, rfl, rfl⟩, rfl⟩)
  · skip
    refine zg_if_eq X dL_isMember_8 (tgt := 15) (by decide) (fun c9 => ?_) (fun c9 => ?_)
    · skip
      refine zg_lconst X (v := 0) dL_isMember_15 rfl ?_
      refine zg_last X (q0 := 32) (t0 := 3) (n := 1) (f := f) rfl rfl (vp_in_nI (n := 0) (N := 1) (by decide) (by decide)) dL_isMember_16 (w' := wH ad ao T t (vp_updL f 0 0)) rfl ?_
      refine zg_goto X dL_isMember_17 (tgt := 24) (by decide) ?_
      refine zg_iconst X (v := 0) dL_isMember_24 (by decide) ?_
      exact zg_iret X hr dL_isMember_25 (Nat.le_of_ble_eq_true rfl) (Nat.le_of_ble_eq_true rfl) (⟨t, _, Or.inl ⟨r, h9, rfl, (show (0 : Int64) = cvB r from (if_pos c9).symm)⟩, rfl⟩)
    · skip
      refine zg_lconst X (v := 1) dL_isMember_11 rfl ?_
      refine zg_goto X dL_isMember_12 (tgt := 16) (by decide) ?_
      refine zg_last X (q0 := 32) (t0 := 3) (n := 1) (f := f) rfl rfl (vp_in_nI (n := 0) (N := 1) (by decide) (by decide)) dL_isMember_16 (w' := wH ad ao T t (vp_updL f 0 1)) rfl ?_
      refine zg_goto X dL_isMember_17 (tgt := 24) (by decide) ?_
      refine zg_iconst X (v := 0) dL_isMember_24 (by decide) ?_
      exact zg_iret X hr dL_isMember_25 (Nat.le_of_ble_eq_true rfl) (Nat.le_of_ble_eq_true rfl) (⟨t, _, Or.inl ⟨r, h9, rfl, (show (1 : Int64) = cvB r from (if_neg c9).symm)⟩, rfl⟩)
theorem qd_L_members : yL_members.cls ≠ "java/lang/invoke/MethodHandle" ∧ yL_members.cls ≠ "java/lang/invoke/VarHandle" ∧ (parseMethodDescriptor yL_members.desc).map (fun d => d.parameters.length) = some 3 := by decide +kernel
set_option maxHeartbeats 4000000 in
set_option maxRecDepth 100000 in
theorem k_L_members (l : Launch) (hfl : l.stackTraces = false) (D : va_G) (ad : Nat → Nat) (T : Nat → ClassId) (σ : ZS) (hV : zV σ) (p0 : Int32) (ao : Nat) (f : Nat → Int64) : zM l yL_members (wsL_members ++ lwH) ({ frames := 8, cells := 1, slots := 6, locals := 132 }) D (zT T) [.ref (ad 0), .int p0, .ref ao] (wH ad ao T σ f) 1 6 (qI D (zT T) (fun v w => ∃ t f', lR cvI [eNS] σ (sp_members σ p0) v t f' ∧ w = wH ad ao T t f')) := by
  refine zg_ofL (cc := cL_members) (maxL := 4) (ret := (some .int)) (hh := [(0, 9, 12, 15)]) (by decide) rfl (Nat.le_of_ble_eq_true rfl) (fun p e s m below meth c A htab hr X => ?_)
  have X : zC p s m _ meth c cL_members 4 (wsL_members ++ lwH) RL D (zT T) A := X
  have hok : zTabOk (wsL_members ++ lwH) RL [(12, 15, eNS)] := ⟨lh_tab (by decide +kernel), by decide +kernel⟩
  refine zg_aload_n X dL_members_0 rfl ?_
  refine zg_iconst X (v := 0) dL_members_1 (by decide) ?_
  refine zg_aload_n X dL_members_2 rfl ?_
  refine zg_iload_n X dL_members_3 rfl ?_
  refine zg_hcVi X (lo := 0) (hi := 9) (hs := [(12, 15, eNS)]) htab hok ⟨by decide, by decide⟩ (k_X6_members l hfl D ad T σ hV.1.1.1 p0) (lh_m gL_members_X6_members) rfl rfl rfl qv_X6_members rfl ⟨Nat.le_of_ble_eq_true rfl, Nat.le_of_ble_eq_true rfl⟩ rfl (Nat.le_of_ble_eq_true rfl) ⟨Nat.le_of_ble_eq_true rfl, Nat.le_of_ble_eq_true rfl⟩ dL_members_4 (fun E h9 => ?_) (fun r t h9 => ?_)
  · skip
    have h8 := zx_members h9
    subst h8
    refine ⟨(12, 15, eNS), List.mem_of_getElem? (i := 0) rfl, rfl, fun a => ?_⟩
    refine zg_astore_n X dL_members_12 (by decide) ?_
    refine zg_iconst X (v := 1) dL_members_13 (by decide) ?_
    exact zg_iret X hr dL_members_14 (Nat.le_of_ble_eq_true rfl) (Nat.le_of_ble_eq_true rfl) (⟨σ, f, Or.inr ⟨eNS, 0, h9, rfl, rfl, rfl⟩, rfl⟩)
  · skip
    refine zg_i2l X dL_members_7 ?_
    refine zg_last X (q0 := 32) (t0 := 3) (n := 1) (f := f) rfl rfl (vp_in_nI (n := 0) (N := 1) (by decide) (by decide)) dL_members_8 (w' := wH ad ao T t (vp_updL f 0 r.toInt64)) rfl ?_
    refine zg_goto X dL_members_9 (tgt := 15) (by decide) ?_
    refine zg_iconst X (v := 0) dL_members_15 (by decide) ?_
    exact zg_iret X hr dL_members_16 (Nat.le_of_ble_eq_true rfl) (Nat.le_of_ble_eq_true rfl) (⟨t, _, Or.inl ⟨r, h9, rfl, rfl⟩, rfl⟩)
theorem qd_L_holds : yL_holds.cls ≠ "java/lang/invoke/MethodHandle" ∧ yL_holds.cls ≠ "java/lang/invoke/VarHandle" ∧ (parseMethodDescriptor yL_holds.desc).map (fun d => d.parameters.length) = some 4 := by decide +kernel
set_option maxHeartbeats 4000000 in
set_option maxRecDepth 100000 in
theorem k_L_holds (l : Launch) (hfl : l.stackTraces = false) (D : va_G) (ad : Nat → Nat) (T : Nat → ClassId) (σ : ZS) (hV : zV σ) (p0 p1 : Int32) (ao : Nat) (f : Nat → Int64) : zM l yL_holds (wsL_holds ++ lwH) ({ frames := 8, cells := 2, slots := 12, locals := 133 }) D (zT T) [.ref (ad 0), .int p0, .int p1, .ref ao] (wH ad ao T σ f) 2 12 (qI D (zT T) (fun v w => ∃ t f', lR cvB [eNS] σ (sp_holds σ p0 p1) v t f' ∧ w = wH ad ao T t f')) := by
  refine zg_ofL (cc := cL_holds) (maxL := 5) (ret := (some .int)) (hh := [(0, 17, 20, 15)]) (by decide) rfl (Nat.le_of_ble_eq_true rfl) (fun p e s m below meth c A htab hr X => ?_)
  have X : zC p s m _ meth c cL_holds 5 (wsL_holds ++ lwH) RL D (zT T) A := X
  have hok : zTabOk (wsL_holds ++ lwH) RL [(20, 15, eNS)] := ⟨lh_tab (by decide +kernel), by decide +kernel⟩
  refine zg_aload_n X dL_holds_0 rfl ?_
  refine zg_iconst X (v := 0) dL_holds_1 (by decide) ?_
  refine zg_aload_n X dL_holds_2 rfl ?_
  refine zg_iload_n X dL_holds_3 rfl ?_
  refine zg_iload_n X dL_holds_4 rfl ?_
  refine zg_hcVi X (lo := 0) (hi := 17) (hs := [(20, 15, eNS)]) htab hok ⟨by decide, by decide⟩ (k_X6_holds l hfl D ad T σ hV.1.1.1 p0 p1) (lh_m gL_holds_X6_holds) rfl rfl rfl qv_X6_holds rfl ⟨Nat.le_of_ble_eq_true rfl, Nat.le_of_ble_eq_true rfl⟩ rfl (Nat.le_of_ble_eq_true rfl) ⟨Nat.le_of_ble_eq_true rfl, Nat.le_of_ble_eq_true rfl⟩ dL_holds_5 (fun E h9 => ?_) (fun r t h9 => ?_)
  · skip
    have h8 := zx_holds h9
    subst h8
    refine ⟨(20, 15, eNS), List.mem_of_getElem? (i := 0) rfl, rfl, fun a => ?_⟩
    refine zg_astore X dL_holds_20 (by decide) ?_
    refine zg_iconst X (v := 1) dL_holds_22 (by decide) ?_
    exact zg_iret X hr dL_holds_23 (Nat.le_of_ble_eq_true rfl) (Nat.le_of_ble_eq_true rfl) (⟨σ, f, Or.inr ⟨eNS, 0, h9, rfl, rfl, rfl⟩, rfl⟩)
  · skip
    refine zg_if_eq X dL_holds_8 (tgt := 15) (by decide) (fun c9 => ?_) (fun c9 => ?_)
    · skip
      refine zg_lconst X (v := 0) dL_holds_15 rfl ?_
      refine zg_last X (q0 := 32) (t0 := 3) (n := 1) (f := f) rfl rfl (vp_in_nI (n := 0) (N := 1) (by decide) (by decide)) dL_holds_16 (w' := wH ad ao T t (vp_updL f 0 0)) rfl ?_
      refine zg_goto X dL_holds_17 (tgt := 24) (by decide) ?_
      refine zg_iconst X (v := 0) dL_holds_24 (by decide) ?_
      exact zg_iret X hr dL_holds_25 (Nat.le_of_ble_eq_true rfl) (Nat.le_of_ble_eq_true rfl) (⟨t, _, Or.inl ⟨r, h9, rfl, (show (0 : Int64) = cvB r from (if_pos c9).symm)⟩, rfl⟩)
    · skip
      refine zg_lconst X (v := 1) dL_holds_11 rfl ?_
      refine zg_goto X dL_holds_12 (tgt := 16) (by decide) ?_
      refine zg_last X (q0 := 32) (t0 := 3) (n := 1) (f := f) rfl rfl (vp_in_nI (n := 0) (N := 1) (by decide) (by decide)) dL_holds_16 (w' := wH ad ao T t (vp_updL f 0 1)) rfl ?_
      refine zg_goto X dL_holds_17 (tgt := 24) (by decide) ?_
      refine zg_iconst X (v := 0) dL_holds_24 (by decide) ?_
      exact zg_iret X hr dL_holds_25 (Nat.le_of_ble_eq_true rfl) (Nat.le_of_ble_eq_true rfl) (⟨t, _, Or.inl ⟨r, h9, rfl, (show (1 : Int64) = cvB r from (if_neg c9).symm)⟩, rfl⟩)
theorem qd_L_holdsByPaths : yL_holdsByPaths.cls ≠ "java/lang/invoke/MethodHandle" ∧ yL_holdsByPaths.cls ≠ "java/lang/invoke/VarHandle" ∧ (parseMethodDescriptor yL_holdsByPaths.desc).map (fun d => d.parameters.length) = some 4 := by decide +kernel
set_option maxHeartbeats 4000000 in
set_option maxRecDepth 100000 in
theorem k_L_holdsByPaths (l : Launch) (hfl : l.stackTraces = false) (D : va_G) (ad : Nat → Nat) (T : Nat → ClassId) (σ : ZS) (hV : zV σ) (p0 p1 : Int32) (ao : Nat) (f : Nat → Int64) : zM l yL_holdsByPaths (wsL_holdsByPaths ++ lwH) ({ frames := 14, cells := 2, slots := 12, locals := 394 }) D (zT T) [.ref (ad 0), .int p0, .int p1, .ref ao] (wH ad ao T σ f) 2 12 (qI D (zT T) (fun v w => ∃ t f', lR cvB [eNS] σ (sp_holdsByPaths σ p0 p1) v t f' ∧ w = wH ad ao T t f')) := by
  refine zg_ofL (cc := cL_holdsByPaths) (maxL := 5) (ret := (some .int)) (hh := [(0, 17, 20, 15)]) (by decide) rfl (Nat.le_of_ble_eq_true rfl) (fun p e s m below meth c A htab hr X => ?_)
  have X : zC p s m _ meth c cL_holdsByPaths 5 (wsL_holdsByPaths ++ lwH) RL D (zT T) A := X
  have hok : zTabOk (wsL_holdsByPaths ++ lwH) RL [(20, 15, eNS)] := ⟨lh_tab (by decide +kernel), by decide +kernel⟩
  refine zg_aload_n X dL_holdsByPaths_0 rfl ?_
  refine zg_iconst X (v := 0) dL_holdsByPaths_1 (by decide) ?_
  refine zg_aload_n X dL_holdsByPaths_2 rfl ?_
  refine zg_iload_n X dL_holdsByPaths_3 rfl ?_
  refine zg_iload_n X dL_holdsByPaths_4 rfl ?_
  refine zg_hcVi X (lo := 0) (hi := 17) (hs := [(20, 15, eNS)]) htab hok ⟨by decide, by decide⟩ (k_X6_holdsByPaths l hfl D ad T σ hV.1.1.1 p0 p1) (lh_m gL_holdsByPaths_X6_holdsByPaths) rfl rfl rfl qv_X6_holdsByPaths rfl ⟨Nat.le_of_ble_eq_true rfl, Nat.le_of_ble_eq_true rfl⟩ rfl (Nat.le_of_ble_eq_true rfl) ⟨Nat.le_of_ble_eq_true rfl, Nat.le_of_ble_eq_true rfl⟩ dL_holdsByPaths_5 (fun E h9 => ?_) (fun r t h9 => ?_)
  · skip
    have h8 := zx_holdsByPaths h9
    subst h8
    refine ⟨(20, 15, eNS), List.mem_of_getElem? (i := 0) rfl, rfl, fun a => ?_⟩
    refine zg_astore X dL_holdsByPaths_20 (by decide) ?_
    refine zg_iconst X (v := 1) dL_holdsByPaths_22 (by decide) ?_
    exact zg_iret X hr dL_holdsByPaths_23 (Nat.le_of_ble_eq_true rfl) (Nat.le_of_ble_eq_true rfl) (⟨σ, f, Or.inr ⟨eNS, 0, h9, rfl, rfl, rfl⟩, rfl⟩)
  · skip
    refine zg_if_eq X dL_holdsByPaths_8 (tgt := 15) (by decide) (fun c9 => ?_) (fun c9 => ?_)
    · skip
      refine zg_lconst X (v := 0) dL_holdsByPaths_15 rfl ?_
      refine zg_last X (q0 := 32) (t0 := 3) (n := 1) (f := f) rfl rfl (vp_in_nI (n := 0) (N := 1) (by decide) (by decide)) dL_holdsByPaths_16 (w' := wH ad ao T t (vp_updL f 0 0)) rfl ?_
      refine zg_goto X dL_holdsByPaths_17 (tgt := 24) (by decide) ?_
      refine zg_iconst X (v := 0) dL_holdsByPaths_24 (by decide) ?_
      exact zg_iret X hr dL_holdsByPaths_25 (Nat.le_of_ble_eq_true rfl) (Nat.le_of_ble_eq_true rfl) (⟨t, _, Or.inl ⟨r, h9, rfl, (show (0 : Int64) = cvB r from (if_pos c9).symm)⟩, rfl⟩)
    · skip
      refine zg_lconst X (v := 1) dL_holdsByPaths_11 rfl ?_
      refine zg_goto X dL_holdsByPaths_12 (tgt := 16) (by decide) ?_
      refine zg_last X (q0 := 32) (t0 := 3) (n := 1) (f := f) rfl rfl (vp_in_nI (n := 0) (N := 1) (by decide) (by decide)) dL_holdsByPaths_16 (w' := wH ad ao T t (vp_updL f 0 1)) rfl ?_
      refine zg_goto X dL_holdsByPaths_17 (tgt := 24) (by decide) ?_
      refine zg_iconst X (v := 0) dL_holdsByPaths_24 (by decide) ?_
      exact zg_iret X hr dL_holdsByPaths_25 (Nat.le_of_ble_eq_true rfl) (Nat.le_of_ble_eq_true rfl) (⟨t, _, Or.inl ⟨r, h9, rfl, (show (1 : Int64) = cvB r from (if_neg c9).symm)⟩, rfl⟩)
theorem qd_L_rightsOf : yL_rightsOf.cls ≠ "java/lang/invoke/MethodHandle" ∧ yL_rightsOf.cls ≠ "java/lang/invoke/VarHandle" ∧ (parseMethodDescriptor yL_rightsOf.desc).map (fun d => d.parameters.length) = some 3 := by decide +kernel
set_option maxHeartbeats 4000000 in
set_option maxRecDepth 100000 in
theorem k_L_rightsOf (l : Launch) (hfl : l.stackTraces = false) (D : va_G) (ad : Nat → Nat) (T : Nat → ClassId) (σ : ZS) (hV : zV σ) (p0 : Int32) (ao : Nat) (f : Nat → Int64) : zM l yL_rightsOf (wsL_rightsOf ++ lwH) ({ frames := 8, cells := 1, slots := 6, locals := 132 }) D (zT T) [.ref (ad 0), .int p0, .ref ao] (wH ad ao T σ f) 1 6 (qI D (zT T) (fun v w => ∃ t f', lR cvI [eNS] σ (sp_rightsOf σ p0) v t f' ∧ w = wH ad ao T t f')) := by
  refine zg_ofL (cc := cL_rightsOf) (maxL := 4) (ret := (some .int)) (hh := [(0, 9, 12, 15)]) (by decide) rfl (Nat.le_of_ble_eq_true rfl) (fun p e s m below meth c A htab hr X => ?_)
  have X : zC p s m _ meth c cL_rightsOf 4 (wsL_rightsOf ++ lwH) RL D (zT T) A := X
  have hok : zTabOk (wsL_rightsOf ++ lwH) RL [(12, 15, eNS)] := ⟨lh_tab (by decide +kernel), by decide +kernel⟩
  refine zg_aload_n X dL_rightsOf_0 rfl ?_
  refine zg_iconst X (v := 0) dL_rightsOf_1 (by decide) ?_
  refine zg_aload_n X dL_rightsOf_2 rfl ?_
  refine zg_iload_n X dL_rightsOf_3 rfl ?_
  refine zg_hcVi X (lo := 0) (hi := 9) (hs := [(12, 15, eNS)]) htab hok ⟨by decide, by decide⟩ (k_X6_rightsOf l hfl D ad T σ hV.1.1.1 p0) (lh_m gL_rightsOf_X6_rightsOf) rfl rfl rfl qv_X6_rightsOf rfl ⟨Nat.le_of_ble_eq_true rfl, Nat.le_of_ble_eq_true rfl⟩ rfl (Nat.le_of_ble_eq_true rfl) ⟨Nat.le_of_ble_eq_true rfl, Nat.le_of_ble_eq_true rfl⟩ dL_rightsOf_4 (fun E h9 => ?_) (fun r t h9 => ?_)
  · skip
    have h8 := zx_rightsOf h9
    subst h8
    refine ⟨(12, 15, eNS), List.mem_of_getElem? (i := 0) rfl, rfl, fun a => ?_⟩
    refine zg_astore_n X dL_rightsOf_12 (by decide) ?_
    refine zg_iconst X (v := 1) dL_rightsOf_13 (by decide) ?_
    exact zg_iret X hr dL_rightsOf_14 (Nat.le_of_ble_eq_true rfl) (Nat.le_of_ble_eq_true rfl) (⟨σ, f, Or.inr ⟨eNS, 0, h9, rfl, rfl, rfl⟩, rfl⟩)
  · skip
    refine zg_i2l X dL_rightsOf_7 ?_
    refine zg_last X (q0 := 32) (t0 := 3) (n := 1) (f := f) rfl rfl (vp_in_nI (n := 0) (N := 1) (by decide) (by decide)) dL_rightsOf_8 (w' := wH ad ao T t (vp_updL f 0 r.toInt64)) rfl ?_
    refine zg_goto X dL_rightsOf_9 (tgt := 15) (by decide) ?_
    refine zg_iconst X (v := 0) dL_rightsOf_15 (by decide) ?_
    exact zg_iret X hr dL_rightsOf_16 (Nat.le_of_ble_eq_true rfl) (Nat.le_of_ble_eq_true rfl) (⟨t, _, Or.inl ⟨r, h9, rfl, rfl⟩, rfl⟩)
theorem qd_L_holdersOf : yL_holdersOf.cls ≠ "java/lang/invoke/MethodHandle" ∧ yL_holdersOf.cls ≠ "java/lang/invoke/VarHandle" ∧ (parseMethodDescriptor yL_holdersOf.desc).map (fun d => d.parameters.length) = some 3 := by decide +kernel
set_option maxHeartbeats 4000000 in
set_option maxRecDepth 100000 in
theorem k_L_holdersOf (l : Launch) (hfl : l.stackTraces = false) (D : va_G) (ad : Nat → Nat) (T : Nat → ClassId) (σ : ZS) (hV : zV σ) (p0 : Int32) (ao : Nat) (f : Nat → Int64) : zM l yL_holdersOf (wsL_holdersOf ++ lwH) ({ frames := 8, cells := 1, slots := 6, locals := 132 }) D (zT T) [.ref (ad 0), .int p0, .ref ao] (wH ad ao T σ f) 1 6 (qI D (zT T) (fun v w => ∃ t f', lR cvI [eNS] σ (sp_holdersOf σ p0) v t f' ∧ w = wH ad ao T t f')) := by
  refine zg_ofL (cc := cL_holdersOf) (maxL := 4) (ret := (some .int)) (hh := [(0, 9, 12, 15)]) (by decide) rfl (Nat.le_of_ble_eq_true rfl) (fun p e s m below meth c A htab hr X => ?_)
  have X : zC p s m _ meth c cL_holdersOf 4 (wsL_holdersOf ++ lwH) RL D (zT T) A := X
  have hok : zTabOk (wsL_holdersOf ++ lwH) RL [(12, 15, eNS)] := ⟨lh_tab (by decide +kernel), by decide +kernel⟩
  refine zg_aload_n X dL_holdersOf_0 rfl ?_
  refine zg_iconst X (v := 0) dL_holdersOf_1 (by decide) ?_
  refine zg_aload_n X dL_holdersOf_2 rfl ?_
  refine zg_iload_n X dL_holdersOf_3 rfl ?_
  refine zg_hcVi X (lo := 0) (hi := 9) (hs := [(12, 15, eNS)]) htab hok ⟨by decide, by decide⟩ (k_X6_holdersOf l hfl D ad T σ hV.1.1.1 p0) (lh_m gL_holdersOf_X6_holdersOf) rfl rfl rfl qv_X6_holdersOf rfl ⟨Nat.le_of_ble_eq_true rfl, Nat.le_of_ble_eq_true rfl⟩ rfl (Nat.le_of_ble_eq_true rfl) ⟨Nat.le_of_ble_eq_true rfl, Nat.le_of_ble_eq_true rfl⟩ dL_holdersOf_4 (fun E h9 => ?_) (fun r t h9 => ?_)
  · skip
    have h8 := zx_holdersOf h9
    subst h8
    refine ⟨(12, 15, eNS), List.mem_of_getElem? (i := 0) rfl, rfl, fun a => ?_⟩
    refine zg_astore_n X dL_holdersOf_12 (by decide) ?_
    refine zg_iconst X (v := 1) dL_holdersOf_13 (by decide) ?_
    exact zg_iret X hr dL_holdersOf_14 (Nat.le_of_ble_eq_true rfl) (Nat.le_of_ble_eq_true rfl) (⟨σ, f, Or.inr ⟨eNS, 0, h9, rfl, rfl, rfl⟩, rfl⟩)
  · skip
    refine zg_i2l X dL_holdersOf_7 ?_
    refine zg_last X (q0 := 32) (t0 := 3) (n := 1) (f := f) rfl rfl (vp_in_nI (n := 0) (N := 1) (by decide) (by decide)) dL_holdersOf_8 (w' := wH ad ao T t (vp_updL f 0 r.toInt64)) rfl ?_
    refine zg_goto X dL_holdersOf_9 (tgt := 15) (by decide) ?_
    refine zg_iconst X (v := 0) dL_holdersOf_15 (by decide) ?_
    exact zg_iret X hr dL_holdersOf_16 (Nat.le_of_ble_eq_true rfl) (Nat.le_of_ble_eq_true rfl) (⟨t, _, Or.inl ⟨r, h9, rfl, rfl⟩, rfl⟩)
theorem qd_L_rightBits : yL_rightBits.cls ≠ "java/lang/invoke/MethodHandle" ∧ yL_rightBits.cls ≠ "java/lang/invoke/VarHandle" ∧ (parseMethodDescriptor yL_rightBits.desc).map (fun d => d.parameters.length) = some 3 := by decide +kernel
set_option maxHeartbeats 4000000 in
set_option maxRecDepth 100000 in
theorem k_L_rightBits (l : Launch) (hfl : l.stackTraces = false) (D : va_G) (ad : Nat → Nat) (T : Nat → ClassId) (σ : ZS) (hV : zV σ) (p0 : Int32) (ao : Nat) (f : Nat → Int64) : zM l yL_rightBits (wsL_rightBits ++ lwH) ({ frames := 8, cells := 1, slots := 6, locals := 132 }) D (zT T) [.ref (ad 0), .int p0, .ref ao] (wH ad ao T σ f) 1 6 (qI D (zT T) (fun v w => ∃ t f', lR cvI [eNS] σ (sp_rightBits σ p0) v t f' ∧ w = wH ad ao T t f')) := by
  refine zg_ofL (cc := cL_rightBits) (maxL := 4) (ret := (some .int)) (hh := [(0, 9, 12, 15)]) (by decide) rfl (Nat.le_of_ble_eq_true rfl) (fun p e s m below meth c A htab hr X => ?_)
  have X : zC p s m _ meth c cL_rightBits 4 (wsL_rightBits ++ lwH) RL D (zT T) A := X
  have hok : zTabOk (wsL_rightBits ++ lwH) RL [(12, 15, eNS)] := ⟨lh_tab (by decide +kernel), by decide +kernel⟩
  refine zg_aload_n X dL_rightBits_0 rfl ?_
  refine zg_iconst X (v := 0) dL_rightBits_1 (by decide) ?_
  refine zg_aload_n X dL_rightBits_2 rfl ?_
  refine zg_iload_n X dL_rightBits_3 rfl ?_
  refine zg_hcVi X (lo := 0) (hi := 9) (hs := [(12, 15, eNS)]) htab hok ⟨by decide, by decide⟩ (k_X6_rightBits l hfl D ad T σ hV.1.1.1 p0) (lh_m gL_rightBits_X6_rightBits) rfl rfl rfl qv_X6_rightBits rfl ⟨Nat.le_of_ble_eq_true rfl, Nat.le_of_ble_eq_true rfl⟩ rfl (Nat.le_of_ble_eq_true rfl) ⟨Nat.le_of_ble_eq_true rfl, Nat.le_of_ble_eq_true rfl⟩ dL_rightBits_4 (fun E h9 => ?_) (fun r t h9 => ?_)
  · skip
    have h8 := zx_rightBits h9
    subst h8
    refine ⟨(12, 15, eNS), List.mem_of_getElem? (i := 0) rfl, rfl, fun a => ?_⟩
    refine zg_astore_n X dL_rightBits_12 (by decide) ?_
    refine zg_iconst X (v := 1) dL_rightBits_13 (by decide) ?_
    exact zg_iret X hr dL_rightBits_14 (Nat.le_of_ble_eq_true rfl) (Nat.le_of_ble_eq_true rfl) (⟨σ, f, Or.inr ⟨eNS, 0, h9, rfl, rfl, rfl⟩, rfl⟩)
  · skip
    refine zg_i2l X dL_rightBits_7 ?_
    refine zg_last X (q0 := 32) (t0 := 3) (n := 1) (f := f) rfl rfl (vp_in_nI (n := 0) (N := 1) (by decide) (by decide)) dL_rightBits_8 (w' := wH ad ao T t (vp_updL f 0 r.toInt64)) rfl ?_
    refine zg_goto X dL_rightBits_9 (tgt := 15) (by decide) ?_
    refine zg_iconst X (v := 0) dL_rightBits_15 (by decide) ?_
    exact zg_iret X hr dL_rightBits_16 (Nat.le_of_ble_eq_true rfl) (Nat.le_of_ble_eq_true rfl) (⟨t, _, Or.inl ⟨r, h9, rfl, rfl⟩, rfl⟩)
theorem qd_L_apart : yL_apart.cls ≠ "java/lang/invoke/MethodHandle" ∧ yL_apart.cls ≠ "java/lang/invoke/VarHandle" ∧ (parseMethodDescriptor yL_apart.desc).map (fun d => d.parameters.length) = some 4 := by decide +kernel
set_option maxHeartbeats 4000000 in
set_option maxRecDepth 100000 in
theorem k_L_apart (l : Launch) (hfl : l.stackTraces = false) (D : va_G) (ad : Nat → Nat) (T : Nat → ClassId) (σ : ZS) (hV : zV σ) (p0 p1 : Int32) (ao : Nat) (f : Nat → Int64) : zM l yL_apart (wsL_apart ++ lwH) ({ frames := 8, cells := 2, slots := 12, locals := 133 }) D (zT T) [.ref (ad 0), .int p0, .int p1, .ref ao] (wH ad ao T σ f) 2 12 (qI D (zT T) (fun v w => ∃ t f', lR cvI [eNS] σ (sp_apart σ p0 p1) v t f' ∧ w = wH ad ao T t f')) := by
  refine zg_ofL (cc := cL_apart) (maxL := 5) (ret := (some .int)) (hh := [(0, 10, 13, 15)]) (by decide) rfl (Nat.le_of_ble_eq_true rfl) (fun p e s m below meth c A htab hr X => ?_)
  have X : zC p s m _ meth c cL_apart 5 (wsL_apart ++ lwH) RL D (zT T) A := X
  have hok : zTabOk (wsL_apart ++ lwH) RL [(13, 15, eNS)] := ⟨lh_tab (by decide +kernel), by decide +kernel⟩
  refine zg_aload_n X dL_apart_0 rfl ?_
  refine zg_iconst X (v := 0) dL_apart_1 (by decide) ?_
  refine zg_aload_n X dL_apart_2 rfl ?_
  refine zg_iload_n X dL_apart_3 rfl ?_
  refine zg_iload_n X dL_apart_4 rfl ?_
  refine zg_hcVi X (lo := 0) (hi := 10) (hs := [(13, 15, eNS)]) htab hok ⟨by decide, by decide⟩ (k_X6_apart l hfl D ad T σ hV.1.1.1 p0 p1) (lh_m gL_apart_X6_apart) rfl rfl rfl qv_X6_apart rfl ⟨Nat.le_of_ble_eq_true rfl, Nat.le_of_ble_eq_true rfl⟩ rfl (Nat.le_of_ble_eq_true rfl) ⟨Nat.le_of_ble_eq_true rfl, Nat.le_of_ble_eq_true rfl⟩ dL_apart_5 (fun E h9 => ?_) (fun r t h9 => ?_)
  · skip
    have h8 := zx_apart h9
    subst h8
    refine ⟨(13, 15, eNS), List.mem_of_getElem? (i := 0) rfl, rfl, fun a => ?_⟩
    refine zg_astore X dL_apart_13 (by decide) ?_
    refine zg_iconst X (v := 1) dL_apart_15 (by decide) ?_
    exact zg_iret X hr dL_apart_16 (Nat.le_of_ble_eq_true rfl) (Nat.le_of_ble_eq_true rfl) (⟨σ, f, Or.inr ⟨eNS, 0, h9, rfl, rfl, rfl⟩, rfl⟩)
  · skip
    refine zg_i2l X dL_apart_8 ?_
    refine zg_last X (q0 := 32) (t0 := 3) (n := 1) (f := f) rfl rfl (vp_in_nI (n := 0) (N := 1) (by decide) (by decide)) dL_apart_9 (w' := wH ad ao T t (vp_updL f 0 r.toInt64)) rfl ?_
    refine zg_goto X dL_apart_10 (tgt := 17) (by decide) ?_
    refine zg_iconst X (v := 0) dL_apart_17 (by decide) ?_
    exact zg_iret X hr dL_apart_18 (Nat.le_of_ble_eq_true rfl) (Nat.le_of_ble_eq_true rfl) (⟨t, _, Or.inl ⟨r, h9, rfl, rfl⟩, rfl⟩)
theorem qd_L_isDenied : yL_isDenied.cls ≠ "java/lang/invoke/MethodHandle" ∧ yL_isDenied.cls ≠ "java/lang/invoke/VarHandle" ∧ (parseMethodDescriptor yL_isDenied.desc).map (fun d => d.parameters.length) = some 4 := by decide +kernel
set_option maxHeartbeats 4000000 in
set_option maxRecDepth 100000 in
theorem k_L_isDenied (l : Launch) (hfl : l.stackTraces = false) (D : va_G) (ad : Nat → Nat) (T : Nat → ClassId) (σ : ZS) (hV : zV σ) (p0 p1 : Int32) (ao : Nat) (f : Nat → Int64) : zM l yL_isDenied (wsL_isDenied ++ lwH) ({ frames := 8, cells := 2, slots := 12, locals := 133 }) D (zT T) [.ref (ad 0), .int p0, .int p1, .ref ao] (wH ad ao T σ f) 2 12 (qI D (zT T) (fun v w => ∃ t f', lR cvB [eNS] σ (sp_isDenied σ p0 p1) v t f' ∧ w = wH ad ao T t f')) := by
  refine zg_ofL (cc := cL_isDenied) (maxL := 5) (ret := (some .int)) (hh := [(0, 17, 20, 15)]) (by decide) rfl (Nat.le_of_ble_eq_true rfl) (fun p e s m below meth c A htab hr X => ?_)
  have X : zC p s m _ meth c cL_isDenied 5 (wsL_isDenied ++ lwH) RL D (zT T) A := X
  have hok : zTabOk (wsL_isDenied ++ lwH) RL [(20, 15, eNS)] := ⟨lh_tab (by decide +kernel), by decide +kernel⟩
  refine zg_aload_n X dL_isDenied_0 rfl ?_
  refine zg_iconst X (v := 0) dL_isDenied_1 (by decide) ?_
  refine zg_aload_n X dL_isDenied_2 rfl ?_
  refine zg_iload_n X dL_isDenied_3 rfl ?_
  refine zg_iload_n X dL_isDenied_4 rfl ?_
  refine zg_hcVi X (lo := 0) (hi := 17) (hs := [(20, 15, eNS)]) htab hok ⟨by decide, by decide⟩ (k_X6_isDenied l hfl D ad T σ hV.1.1.1 p0 p1) (lh_m gL_isDenied_X6_isDenied) rfl rfl rfl qv_X6_isDenied rfl ⟨Nat.le_of_ble_eq_true rfl, Nat.le_of_ble_eq_true rfl⟩ rfl (Nat.le_of_ble_eq_true rfl) ⟨Nat.le_of_ble_eq_true rfl, Nat.le_of_ble_eq_true rfl⟩ dL_isDenied_5 (fun E h9 => ?_) (fun r t h9 => ?_)
  · skip
    have h8 := zx_isDenied h9
    subst h8
    refine ⟨(20, 15, eNS), List.mem_of_getElem? (i := 0) rfl, rfl, fun a => ?_⟩
    refine zg_astore X dL_isDenied_20 (by decide) ?_
    refine zg_iconst X (v := 1) dL_isDenied_22 (by decide) ?_
    exact zg_iret X hr dL_isDenied_23 (Nat.le_of_ble_eq_true rfl) (Nat.le_of_ble_eq_true rfl) (⟨σ, f, Or.inr ⟨eNS, 0, h9, rfl, rfl, rfl⟩, rfl⟩)
  · skip
    refine zg_if_eq X dL_isDenied_8 (tgt := 15) (by decide) (fun c9 => ?_) (fun c9 => ?_)
    · skip
      refine zg_lconst X (v := 0) dL_isDenied_15 rfl ?_
      refine zg_last X (q0 := 32) (t0 := 3) (n := 1) (f := f) rfl rfl (vp_in_nI (n := 0) (N := 1) (by decide) (by decide)) dL_isDenied_16 (w' := wH ad ao T t (vp_updL f 0 0)) rfl ?_
      refine zg_goto X dL_isDenied_17 (tgt := 24) (by decide) ?_
      refine zg_iconst X (v := 0) dL_isDenied_24 (by decide) ?_
      exact zg_iret X hr dL_isDenied_25 (Nat.le_of_ble_eq_true rfl) (Nat.le_of_ble_eq_true rfl) (⟨t, _, Or.inl ⟨r, h9, rfl, (show (0 : Int64) = cvB r from (if_pos c9).symm)⟩, rfl⟩)
    · skip
      refine zg_lconst X (v := 1) dL_isDenied_11 rfl ?_
      refine zg_goto X dL_isDenied_12 (tgt := 16) (by decide) ?_
      refine zg_last X (q0 := 32) (t0 := 3) (n := 1) (f := f) rfl rfl (vp_in_nI (n := 0) (N := 1) (by decide) (by decide)) dL_isDenied_16 (w' := wH ad ao T t (vp_updL f 0 1)) rfl ?_
      refine zg_goto X dL_isDenied_17 (tgt := 24) (by decide) ?_
      refine zg_iconst X (v := 0) dL_isDenied_24 (by decide) ?_
      exact zg_iret X hr dL_isDenied_25 (Nat.le_of_ble_eq_true rfl) (Nat.le_of_ble_eq_true rfl) (⟨t, _, Or.inl ⟨r, h9, rfl, (show (1 : Int64) = cvB r from (if_neg c9).symm)⟩, rfl⟩)
theorem qd_L_paths : yL_paths.cls ≠ "java/lang/invoke/MethodHandle" ∧ yL_paths.cls ≠ "java/lang/invoke/VarHandle" ∧ (parseMethodDescriptor yL_paths.desc).map (fun d => d.parameters.length) = some 4 := by decide +kernel
set_option maxHeartbeats 4000000 in
set_option maxRecDepth 100000 in
theorem k_L_paths (l : Launch) (hfl : l.stackTraces = false) (D : va_G) (ad : Nat → Nat) (T : Nat → ClassId) (σ : ZS) (hV : zV σ) (p0 p1 : Int32) (ao : Nat) (f : Nat → Int64) : zM l yL_paths (wsL_paths ++ lwH) ({ frames := 14, cells := 2, slots := 12, locals := 394 }) D (zT T) [.ref (ad 0), .int p0, .int p1, .ref ao] (wH ad ao T σ f) 2 12 (qI D (zT T) (fun v w => ∃ t f', lR cvI [eNS] σ (sp_paths σ p0 p1) v t f' ∧ w = wH ad ao T t f')) := by
  refine zg_ofL (cc := cL_paths) (maxL := 5) (ret := (some .int)) (hh := [(0, 10, 13, 15)]) (by decide) rfl (Nat.le_of_ble_eq_true rfl) (fun p e s m below meth c A htab hr X => ?_)
  have X : zC p s m _ meth c cL_paths 5 (wsL_paths ++ lwH) RL D (zT T) A := X
  have hok : zTabOk (wsL_paths ++ lwH) RL [(13, 15, eNS)] := ⟨lh_tab (by decide +kernel), by decide +kernel⟩
  refine zg_aload_n X dL_paths_0 rfl ?_
  refine zg_iconst X (v := 0) dL_paths_1 (by decide) ?_
  refine zg_aload_n X dL_paths_2 rfl ?_
  refine zg_iload_n X dL_paths_3 rfl ?_
  refine zg_iload_n X dL_paths_4 rfl ?_
  refine zg_hcVi X (lo := 0) (hi := 10) (hs := [(13, 15, eNS)]) htab hok ⟨by decide, by decide⟩ (k_X6_paths l hfl D ad T σ hV.1.1.1 p0 p1) (lh_m gL_paths_X6_paths) rfl rfl rfl qv_X6_paths rfl ⟨Nat.le_of_ble_eq_true rfl, Nat.le_of_ble_eq_true rfl⟩ rfl (Nat.le_of_ble_eq_true rfl) ⟨Nat.le_of_ble_eq_true rfl, Nat.le_of_ble_eq_true rfl⟩ dL_paths_5 (fun E h9 => ?_) (fun r t h9 => ?_)
  · skip
    have h8 := zx_paths h9
    subst h8
    refine ⟨(13, 15, eNS), List.mem_of_getElem? (i := 0) rfl, rfl, fun a => ?_⟩
    refine zg_astore X dL_paths_13 (by decide) ?_
    refine zg_iconst X (v := 1) dL_paths_15 (by decide) ?_
    exact zg_iret X hr dL_paths_16 (Nat.le_of_ble_eq_true rfl) (Nat.le_of_ble_eq_true rfl) (⟨σ, f, Or.inr ⟨eNS, 0, h9, rfl, rfl, rfl⟩, rfl⟩)
  · skip
    refine zg_i2l X dL_paths_8 ?_
    refine zg_last X (q0 := 32) (t0 := 3) (n := 1) (f := f) rfl rfl (vp_in_nI (n := 0) (N := 1) (by decide) (by decide)) dL_paths_9 (w' := wH ad ao T t (vp_updL f 0 r.toInt64)) rfl ?_
    refine zg_goto X dL_paths_10 (tgt := 17) (by decide) ?_
    refine zg_iconst X (v := 0) dL_paths_17 (by decide) ?_
    exact zg_iret X hr dL_paths_18 (Nat.le_of_ble_eq_true rfl) (Nat.le_of_ble_eq_true rfl) (⟨t, _, Or.inl ⟨r, h9, rfl, rfl⟩, rfl⟩)
theorem qd_L_pathLength : yL_pathLength.cls ≠ "java/lang/invoke/MethodHandle" ∧ yL_pathLength.cls ≠ "java/lang/invoke/VarHandle" ∧ (parseMethodDescriptor yL_pathLength.desc).map (fun d => d.parameters.length) = some 4 := by decide +kernel
set_option maxHeartbeats 4000000 in
set_option maxRecDepth 100000 in
theorem k_L_pathLength (l : Launch) (hfl : l.stackTraces = false) (D : va_G) (ad : Nat → Nat) (T : Nat → ClassId) (σ : ZS) (hV : zV σ) (p0 p1 : Int32) (ao : Nat) (f : Nat → Int64) : zM l yL_pathLength (wsL_pathLength ++ lwH) ({ frames := 8, cells := 3, slots := 18, locals := 134 }) D (zT T) [.ref (ad 0), .int p0, .int p1, .ref ao] (wH ad ao T σ f) 3 18 (qI D (zT T) (fun v w => ∃ t f', lR cvI [eNS, eIS] σ (sp_pathLength σ p0 p1) v t f' ∧ w = wH ad ao T t f')) := by
  refine zg_ofL (cc := cL_pathLength) (maxL := 5) (ret := (some .int)) (hh := [(0, 10, 13, 15), (0, 10, 17, 17)]) (by decide) rfl (Nat.le_of_ble_eq_true rfl) (fun p e s m below meth c A htab hr X => ?_)
  have X : zC p s m _ meth c cL_pathLength 5 (wsL_pathLength ++ lwH) RL D (zT T) A := X
  have hok : zTabOk (wsL_pathLength ++ lwH) RL [(13, 15, eNS), (17, 17, eIS)] := ⟨lh_tab (by decide +kernel), by decide +kernel⟩
  refine zg_aload_n X dL_pathLength_0 rfl ?_
  refine zg_iconst X (v := 0) dL_pathLength_1 (by decide) ?_
  refine zg_aload_n X dL_pathLength_2 rfl ?_
  refine zg_iload_n X dL_pathLength_3 rfl ?_
  refine zg_iload_n X dL_pathLength_4 rfl ?_
  refine zg_hcVi X (lo := 0) (hi := 10) (hs := [(13, 15, eNS), (17, 17, eIS)]) htab hok ⟨by decide, by decide⟩ (k_X6_pathLength l hfl D ad T σ hV.1.1.1 p0 p1) (lh_m gL_pathLength_X6_pathLength) rfl rfl rfl qv_X6_pathLength rfl ⟨Nat.le_of_ble_eq_true rfl, Nat.le_of_ble_eq_true rfl⟩ rfl (Nat.le_of_ble_eq_true rfl) ⟨Nat.le_of_ble_eq_true rfl, Nat.le_of_ble_eq_true rfl⟩ dL_pathLength_5 (fun E h9 => ?_) (fun r t h9 => ?_)
  · skip
    have h8 := zx_pathLength h9
    rcases h8 with rfl | rfl
    · skip
      refine ⟨(13, 15, eNS), List.mem_of_getElem? (i := 0) rfl, rfl, fun a => ?_⟩
      refine zg_astore X dL_pathLength_13 (by decide) ?_
      refine zg_iconst X (v := 1) dL_pathLength_15 (by decide) ?_
      exact zg_iret X hr dL_pathLength_16 (Nat.le_of_ble_eq_true rfl) (Nat.le_of_ble_eq_true rfl) (⟨σ, f, Or.inr ⟨eNS, 0, h9, rfl, rfl, rfl⟩, rfl⟩)
    · skip
      refine ⟨(17, 17, eIS), List.mem_of_getElem? (i := 1) rfl, rfl, fun a => ?_⟩
      refine zg_astore X dL_pathLength_17 (by decide) ?_
      refine zg_iconst X (v := 2) dL_pathLength_19 (by decide) ?_
      exact zg_iret X hr dL_pathLength_20 (Nat.le_of_ble_eq_true rfl) (Nat.le_of_ble_eq_true rfl) (⟨σ, f, Or.inr ⟨eIS, 1, h9, rfl, rfl, rfl⟩, rfl⟩)
  · skip
    refine zg_i2l X dL_pathLength_8 ?_
    refine zg_last X (q0 := 32) (t0 := 3) (n := 1) (f := f) rfl rfl (vp_in_nI (n := 0) (N := 1) (by decide) (by decide)) dL_pathLength_9 (w' := wH ad ao T t (vp_updL f 0 r.toInt64)) rfl ?_
    refine zg_goto X dL_pathLength_10 (tgt := 21) (by decide) ?_
    refine zg_iconst X (v := 0) dL_pathLength_21 (by decide) ?_
    exact zg_iret X hr dL_pathLength_22 (Nat.le_of_ble_eq_true rfl) (Nat.le_of_ble_eq_true rfl) (⟨t, _, Or.inl ⟨r, h9, rfl, rfl⟩, rfl⟩)
theorem qd_L_pathAt : yL_pathAt.cls ≠ "java/lang/invoke/MethodHandle" ∧ yL_pathAt.cls ≠ "java/lang/invoke/VarHandle" ∧ (parseMethodDescriptor yL_pathAt.desc).map (fun d => d.parameters.length) = some 5 := by decide +kernel
set_option maxHeartbeats 4000000 in
set_option maxRecDepth 100000 in
theorem k_L_pathAt (l : Launch) (hfl : l.stackTraces = false) (D : va_G) (ad : Nat → Nat) (T : Nat → ClassId) (σ : ZS) (hV : zV σ) (p0 p1 p2 : Int32) (ao : Nat) (f : Nat → Int64) : zM l yL_pathAt (wsL_pathAt ++ lwH) ({ frames := 8, cells := 3, slots := 18, locals := 135 }) D (zT T) [.ref (ad 0), .int p0, .int p1, .int p2, .ref ao] (wH ad ao T σ f) 3 18 (qI D (zT T) (fun v w => ∃ t f', lR cvI [eNS, eIS, eIO] σ (sp_pathAt σ p0 p1 p2) v t f' ∧ w = wH ad ao T t f')) := by
  refine zg_ofL (cc := cL_pathAt) (maxL := 6) (ret := (some .int)) (hh := [(0, 12, 15, 15), (0, 12, 19, 17), (0, 12, 23, 111)]) (by decide) rfl (Nat.le_of_ble_eq_true rfl) (fun p e s m below meth c A htab hr X => ?_)
  have X : zC p s m _ meth c cL_pathAt 6 (wsL_pathAt ++ lwH) RL D (zT T) A := X
  have hok : zTabOk (wsL_pathAt ++ lwH) RL [(15, 15, eNS), (19, 17, eIS), (23, 111, eIO)] := ⟨lh_tab (by decide +kernel), by decide +kernel⟩
  refine zg_aload X dL_pathAt_0 rfl ?_
  refine zg_iconst X (v := 0) dL_pathAt_2 (by decide) ?_
  refine zg_aload_n X dL_pathAt_3 rfl ?_
  refine zg_iload_n X dL_pathAt_4 rfl ?_
  refine zg_iload_n X dL_pathAt_5 rfl ?_
  refine zg_iload_n X dL_pathAt_6 rfl ?_
  refine zg_hcVi X (lo := 0) (hi := 12) (hs := [(15, 15, eNS), (19, 17, eIS), (23, 111, eIO)]) htab hok ⟨by decide, by decide⟩ (k_X6_pathAt l hfl D ad T σ hV.1.1.1 p0 p1 p2) (lh_m gL_pathAt_X6_pathAt) rfl rfl rfl qv_X6_pathAt rfl ⟨Nat.le_of_ble_eq_true rfl, Nat.le_of_ble_eq_true rfl⟩ rfl (Nat.le_of_ble_eq_true rfl) ⟨Nat.le_of_ble_eq_true rfl, Nat.le_of_ble_eq_true rfl⟩ dL_pathAt_7 (fun E h9 => ?_) (fun r t h9 => ?_)
  · skip
    have h8 := zx_pathAt h9
    rcases h8 with rfl | rfl | rfl
    · skip
      refine ⟨(15, 15, eNS), List.mem_of_getElem? (i := 0) rfl, rfl, fun a => ?_⟩
      refine zg_astore X dL_pathAt_15 (by decide) ?_
      refine zg_iconst X (v := 1) dL_pathAt_17 (by decide) ?_
      exact zg_iret X hr dL_pathAt_18 (Nat.le_of_ble_eq_true rfl) (Nat.le_of_ble_eq_true rfl) (⟨σ, f, Or.inr ⟨eNS, 0, h9, rfl, rfl, rfl⟩, rfl⟩)
    · skip
      refine ⟨(19, 17, eIS), List.mem_of_getElem? (i := 1) rfl, rfl, fun a => ?_⟩
      refine zg_astore X dL_pathAt_19 (by decide) ?_
      refine zg_iconst X (v := 2) dL_pathAt_21 (by decide) ?_
      exact zg_iret X hr dL_pathAt_22 (Nat.le_of_ble_eq_true rfl) (Nat.le_of_ble_eq_true rfl) (⟨σ, f, Or.inr ⟨eIS, 1, h9, rfl, rfl, rfl⟩, rfl⟩)
    · skip
      refine ⟨(23, 111, eIO), List.mem_of_getElem? (i := 2) rfl, rfl, fun a => ?_⟩
      refine zg_astore X dL_pathAt_23 (by decide) ?_
      refine zg_iconst X (v := 3) dL_pathAt_25 (by decide) ?_
      exact zg_iret X hr dL_pathAt_26 (Nat.le_of_ble_eq_true rfl) (Nat.le_of_ble_eq_true rfl) (⟨σ, f, Or.inr ⟨eIO, 2, h9, rfl, rfl, rfl⟩, rfl⟩)
  · skip
    refine zg_i2l X dL_pathAt_10 ?_
    refine zg_last X (q0 := 32) (t0 := 3) (n := 1) (f := f) rfl rfl (vp_in_nI (n := 0) (N := 1) (by decide) (by decide)) dL_pathAt_11 (w' := wH ad ao T t (vp_updL f 0 r.toInt64)) rfl ?_
    refine zg_goto X dL_pathAt_12 (tgt := 27) (by decide) ?_
    refine zg_iconst X (v := 0) dL_pathAt_27 (by decide) ?_
    exact zg_iret X hr dL_pathAt_28 (Nat.le_of_ble_eq_true rfl) (Nat.le_of_ble_eq_true rfl) (⟨t, _, Or.inl ⟨r, h9, rfl, rfl⟩, rfl⟩)
theorem qd_L_riskOf : yL_riskOf.cls ≠ "java/lang/invoke/MethodHandle" ∧ yL_riskOf.cls ≠ "java/lang/invoke/VarHandle" ∧ (parseMethodDescriptor yL_riskOf.desc).map (fun d => d.parameters.length) = some 3 := by decide +kernel
set_option maxHeartbeats 4000000 in
set_option maxRecDepth 100000 in
theorem k_L_riskOf (l : Launch) (hfl : l.stackTraces = false) (D : va_G) (ad : Nat → Nat) (T : Nat → ClassId) (σ : ZS) (hV : zV σ) (p0 : Int32) (ao : Nat) (f : Nat → Int64) : zM l yL_riskOf (wsL_riskOf ++ lwH) ({ frames := 8, cells := 2, slots := 12, locals := 135 }) D (zT T) [.ref (ad 0), .int p0, .ref ao] (wH ad ao T σ f) 2 12 (qI D (zT T) (fun v w => ∃ t f', lR cvI [eNS, eIS] σ (sp_riskOf σ p0) v t f' ∧ w = wH ad ao T t f')) := by
  refine zg_ofL (cc := cL_riskOf) (maxL := 4) (ret := (some .int)) (hh := [(0, 9, 12, 15), (0, 9, 15, 17)]) (by decide) rfl (Nat.le_of_ble_eq_true rfl) (fun p e s m below meth c A htab hr X => ?_)
  have X : zC p s m _ meth c cL_riskOf 4 (wsL_riskOf ++ lwH) RL D (zT T) A := X
  have hok : zTabOk (wsL_riskOf ++ lwH) RL [(12, 15, eNS), (15, 17, eIS)] := ⟨lh_tab (by decide +kernel), by decide +kernel⟩
  refine zg_aload_n X dL_riskOf_0 rfl ?_
  refine zg_iconst X (v := 0) dL_riskOf_1 (by decide) ?_
  refine zg_aload_n X dL_riskOf_2 rfl ?_
  refine zg_iload_n X dL_riskOf_3 rfl ?_
  refine zg_hcVi X (lo := 0) (hi := 9) (hs := [(12, 15, eNS), (15, 17, eIS)]) htab hok ⟨by decide, by decide⟩ (k_X6_riskOf l hfl D ad T σ hV.1.1.1 p0) (lh_m gL_riskOf_X6_riskOf) rfl rfl rfl qv_X6_riskOf rfl ⟨Nat.le_of_ble_eq_true rfl, Nat.le_of_ble_eq_true rfl⟩ rfl (Nat.le_of_ble_eq_true rfl) ⟨Nat.le_of_ble_eq_true rfl, Nat.le_of_ble_eq_true rfl⟩ dL_riskOf_4 (fun E h9 => ?_) (fun r t h9 => ?_)
  · skip
    have h8 := zx_riskOf h9
    rcases h8 with rfl | rfl
    · skip
      refine ⟨(12, 15, eNS), List.mem_of_getElem? (i := 0) rfl, rfl, fun a => ?_⟩
      refine zg_astore_n X dL_riskOf_12 (by decide) ?_
      refine zg_iconst X (v := 1) dL_riskOf_13 (by decide) ?_
      exact zg_iret X hr dL_riskOf_14 (Nat.le_of_ble_eq_true rfl) (Nat.le_of_ble_eq_true rfl) (⟨σ, f, Or.inr ⟨eNS, 0, h9, rfl, rfl, rfl⟩, rfl⟩)
    · skip
      refine ⟨(15, 17, eIS), List.mem_of_getElem? (i := 1) rfl, rfl, fun a => ?_⟩
      refine zg_astore_n X dL_riskOf_15 (by decide) ?_
      refine zg_iconst X (v := 2) dL_riskOf_16 (by decide) ?_
      exact zg_iret X hr dL_riskOf_17 (Nat.le_of_ble_eq_true rfl) (Nat.le_of_ble_eq_true rfl) (⟨σ, f, Or.inr ⟨eIS, 1, h9, rfl, rfl, rfl⟩, rfl⟩)
  · skip
    refine zg_i2l X dL_riskOf_7 ?_
    refine zg_last X (q0 := 32) (t0 := 3) (n := 1) (f := f) rfl rfl (vp_in_nI (n := 0) (N := 1) (by decide) (by decide)) dL_riskOf_8 (w' := wH ad ao T t (vp_updL f 0 r.toInt64)) rfl ?_
    refine zg_goto X dL_riskOf_9 (tgt := 18) (by decide) ?_
    refine zg_iconst X (v := 0) dL_riskOf_18 (by decide) ?_
    exact zg_iret X hr dL_riskOf_19 (Nat.le_of_ble_eq_true rfl) (Nat.le_of_ble_eq_true rfl) (⟨t, _, Or.inl ⟨r, h9, rfl, rfl⟩, rfl⟩)
theorem qd_L_riskFor : yL_riskFor.cls ≠ "java/lang/invoke/MethodHandle" ∧ yL_riskFor.cls ≠ "java/lang/invoke/VarHandle" ∧ (parseMethodDescriptor yL_riskFor.desc).map (fun d => d.parameters.length) = some 4 := by decide +kernel
set_option maxHeartbeats 4000000 in
set_option maxRecDepth 100000 in
theorem k_L_riskFor (l : Launch) (hfl : l.stackTraces = false) (D : va_G) (ad : Nat → Nat) (T : Nat → ClassId) (σ : ZS) (hV : zV σ) (p0 p1 : Int32) (ao : Nat) (f : Nat → Int64) : zM l yL_riskFor (wsL_riskFor ++ lwH) ({ frames := 8, cells := 2, slots := 12, locals := 133 }) D (zT T) [.ref (ad 0), .int p0, .int p1, .ref ao] (wH ad ao T σ f) 2 12 (qI D (zT T) (fun v w => ∃ t f', lR cvI [eNS] σ (sp_riskFor σ p0 p1) v t f' ∧ w = wH ad ao T t f')) := by
  refine zg_ofL (cc := cL_riskFor) (maxL := 5) (ret := (some .int)) (hh := [(0, 10, 13, 15)]) (by decide) rfl (Nat.le_of_ble_eq_true rfl) (fun p e s m below meth c A htab hr X => ?_)
  have X : zC p s m _ meth c cL_riskFor 5 (wsL_riskFor ++ lwH) RL D (zT T) A := X
  have hok : zTabOk (wsL_riskFor ++ lwH) RL [(13, 15, eNS)] := ⟨lh_tab (by decide +kernel), by decide +kernel⟩
  refine zg_aload_n X dL_riskFor_0 rfl ?_
  refine zg_iconst X (v := 0) dL_riskFor_1 (by decide) ?_
  refine zg_aload_n X dL_riskFor_2 rfl ?_
  refine zg_iload_n X dL_riskFor_3 rfl ?_
  refine zg_iload_n X dL_riskFor_4 rfl ?_
  refine zg_hcVi X (lo := 0) (hi := 10) (hs := [(13, 15, eNS)]) htab hok ⟨by decide, by decide⟩ (k_X6_riskFor l hfl D ad T σ hV.1.1.1 p0 p1) (lh_m gL_riskFor_X6_riskFor) rfl rfl rfl qv_X6_riskFor rfl ⟨Nat.le_of_ble_eq_true rfl, Nat.le_of_ble_eq_true rfl⟩ rfl (Nat.le_of_ble_eq_true rfl) ⟨Nat.le_of_ble_eq_true rfl, Nat.le_of_ble_eq_true rfl⟩ dL_riskFor_5 (fun E h9 => ?_) (fun r t h9 => ?_)
  · skip
    have h8 := zx_riskFor h9
    subst h8
    refine ⟨(13, 15, eNS), List.mem_of_getElem? (i := 0) rfl, rfl, fun a => ?_⟩
    refine zg_astore X dL_riskFor_13 (by decide) ?_
    refine zg_iconst X (v := 1) dL_riskFor_15 (by decide) ?_
    exact zg_iret X hr dL_riskFor_16 (Nat.le_of_ble_eq_true rfl) (Nat.le_of_ble_eq_true rfl) (⟨σ, f, Or.inr ⟨eNS, 0, h9, rfl, rfl, rfl⟩, rfl⟩)
  · skip
    refine zg_i2l X dL_riskFor_8 ?_
    refine zg_last X (q0 := 32) (t0 := 3) (n := 1) (f := f) rfl rfl (vp_in_nI (n := 0) (N := 1) (by decide) (by decide)) dL_riskFor_9 (w' := wH ad ao T t (vp_updL f 0 r.toInt64)) rfl ?_
    refine zg_goto X dL_riskFor_10 (tgt := 17) (by decide) ?_
    refine zg_iconst X (v := 0) dL_riskFor_17 (by decide) ?_
    exact zg_iret X hr dL_riskFor_18 (Nat.le_of_ble_eq_true rfl) (Nat.le_of_ble_eq_true rfl) (⟨t, _, Or.inl ⟨r, h9, rfl, rfl⟩, rfl⟩)
theorem qd_L_reviewerOf : yL_reviewerOf.cls ≠ "java/lang/invoke/MethodHandle" ∧ yL_reviewerOf.cls ≠ "java/lang/invoke/VarHandle" ∧ (parseMethodDescriptor yL_reviewerOf.desc).map (fun d => d.parameters.length) = some 3 := by decide +kernel
set_option maxHeartbeats 4000000 in
set_option maxRecDepth 100000 in
theorem k_L_reviewerOf (l : Launch) (hfl : l.stackTraces = false) (D : va_G) (ad : Nat → Nat) (T : Nat → ClassId) (σ : ZS) (hV : zV σ) (p0 : Int32) (ao : Nat) (f : Nat → Int64) : zM l yL_reviewerOf (wsL_reviewerOf ++ lwH) ({ frames := 8, cells := 1, slots := 6, locals := 132 }) D (zT T) [.ref (ad 0), .int p0, .ref ao] (wH ad ao T σ f) 1 6 (qI D (zT T) (fun v w => ∃ t f', lR cvI [eNS] σ (sp_reviewerOf σ p0) v t f' ∧ w = wH ad ao T t f')) := by
  refine zg_ofL (cc := cL_reviewerOf) (maxL := 4) (ret := (some .int)) (hh := [(0, 9, 12, 15)]) (by decide) rfl (Nat.le_of_ble_eq_true rfl) (fun p e s m below meth c A htab hr X => ?_)
  have X : zC p s m _ meth c cL_reviewerOf 4 (wsL_reviewerOf ++ lwH) RL D (zT T) A := X
  have hok : zTabOk (wsL_reviewerOf ++ lwH) RL [(12, 15, eNS)] := ⟨lh_tab (by decide +kernel), by decide +kernel⟩
  refine zg_aload_n X dL_reviewerOf_0 rfl ?_
  refine zg_iconst X (v := 0) dL_reviewerOf_1 (by decide) ?_
  refine zg_aload_n X dL_reviewerOf_2 rfl ?_
  refine zg_iload_n X dL_reviewerOf_3 rfl ?_
  refine zg_hcVi X (lo := 0) (hi := 9) (hs := [(12, 15, eNS)]) htab hok ⟨by decide, by decide⟩ (k_X6_reviewerOf l hfl D ad T σ hV.1.1.1 p0) (lh_m gL_reviewerOf_X6_reviewerOf) rfl rfl rfl qv_X6_reviewerOf rfl ⟨Nat.le_of_ble_eq_true rfl, Nat.le_of_ble_eq_true rfl⟩ rfl (Nat.le_of_ble_eq_true rfl) ⟨Nat.le_of_ble_eq_true rfl, Nat.le_of_ble_eq_true rfl⟩ dL_reviewerOf_4 (fun E h9 => ?_) (fun r t h9 => ?_)
  · skip
    have h8 := zx_reviewerOf h9
    subst h8
    refine ⟨(12, 15, eNS), List.mem_of_getElem? (i := 0) rfl, rfl, fun a => ?_⟩
    refine zg_astore_n X dL_reviewerOf_12 (by decide) ?_
    refine zg_iconst X (v := 1) dL_reviewerOf_13 (by decide) ?_
    exact zg_iret X hr dL_reviewerOf_14 (Nat.le_of_ble_eq_true rfl) (Nat.le_of_ble_eq_true rfl) (⟨σ, f, Or.inr ⟨eNS, 0, h9, rfl, rfl, rfl⟩, rfl⟩)
  · skip
    refine zg_i2l X dL_reviewerOf_7 ?_
    refine zg_last X (q0 := 32) (t0 := 3) (n := 1) (f := f) rfl rfl (vp_in_nI (n := 0) (N := 1) (by decide) (by decide)) dL_reviewerOf_8 (w' := wH ad ao T t (vp_updL f 0 r.toInt64)) rfl ?_
    refine zg_goto X dL_reviewerOf_9 (tgt := 15) (by decide) ?_
    refine zg_iconst X (v := 0) dL_reviewerOf_15 (by decide) ?_
    exact zg_iret X hr dL_reviewerOf_16 (Nat.le_of_ble_eq_true rfl) (Nat.le_of_ble_eq_true rfl) (⟨t, _, Or.inl ⟨r, h9, rfl, rfl⟩, rfl⟩)
theorem qd_L_stateOf : yL_stateOf.cls ≠ "java/lang/invoke/MethodHandle" ∧ yL_stateOf.cls ≠ "java/lang/invoke/VarHandle" ∧ (parseMethodDescriptor yL_stateOf.desc).map (fun d => d.parameters.length) = some 3 := by decide +kernel
set_option maxHeartbeats 4000000 in
set_option maxRecDepth 100000 in
theorem k_L_stateOf (l : Launch) (hfl : l.stackTraces = false) (D : va_G) (ad : Nat → Nat) (T : Nat → ClassId) (σ : ZS) (hV : zV σ) (p0 : Int32) (ao : Nat) (f : Nat → Int64) : zM l yL_stateOf (wsL_stateOf ++ lwH) ({ frames := 8, cells := 1, slots := 6, locals := 132 }) D (zT T) [.ref (ad 0), .int p0, .ref ao] (wH ad ao T σ f) 1 6 (qI D (zT T) (fun v w => ∃ t f', lR cvI [eNS] σ (sp_stateOf σ p0) v t f' ∧ w = wH ad ao T t f')) := by
  refine zg_ofL (cc := cL_stateOf) (maxL := 4) (ret := (some .int)) (hh := [(0, 9, 12, 15)]) (by decide) rfl (Nat.le_of_ble_eq_true rfl) (fun p e s m below meth c A htab hr X => ?_)
  have X : zC p s m _ meth c cL_stateOf 4 (wsL_stateOf ++ lwH) RL D (zT T) A := X
  have hok : zTabOk (wsL_stateOf ++ lwH) RL [(12, 15, eNS)] := ⟨lh_tab (by decide +kernel), by decide +kernel⟩
  refine zg_aload_n X dL_stateOf_0 rfl ?_
  refine zg_iconst X (v := 0) dL_stateOf_1 (by decide) ?_
  refine zg_aload_n X dL_stateOf_2 rfl ?_
  refine zg_iload_n X dL_stateOf_3 rfl ?_
  refine zg_hcVi X (lo := 0) (hi := 9) (hs := [(12, 15, eNS)]) htab hok ⟨by decide, by decide⟩ (k_X6_stateOf l hfl D ad T σ hV.1.1.1 hV.1.2.1 p0) (lh_m gL_stateOf_X6_stateOf) rfl rfl rfl qv_X6_stateOf rfl ⟨Nat.le_of_ble_eq_true rfl, Nat.le_of_ble_eq_true rfl⟩ rfl (Nat.le_of_ble_eq_true rfl) ⟨Nat.le_of_ble_eq_true rfl, Nat.le_of_ble_eq_true rfl⟩ dL_stateOf_4 (fun E h9 => ?_) (fun r t h9 => ?_)
  · skip
    have h8 := zx_stateOf h9
    subst h8
    refine ⟨(12, 15, eNS), List.mem_of_getElem? (i := 0) rfl, rfl, fun a => ?_⟩
    refine zg_astore_n X dL_stateOf_12 (by decide) ?_
    refine zg_iconst X (v := 1) dL_stateOf_13 (by decide) ?_
    exact zg_iret X hr dL_stateOf_14 (Nat.le_of_ble_eq_true rfl) (Nat.le_of_ble_eq_true rfl) (⟨σ, f, Or.inr ⟨eNS, 0, h9, rfl, rfl, rfl⟩, rfl⟩)
  · skip
    refine zg_i2l X dL_stateOf_7 ?_
    refine zg_last X (q0 := 32) (t0 := 3) (n := 1) (f := f) rfl rfl (vp_in_nI (n := 0) (N := 1) (by decide) (by decide)) dL_stateOf_8 (w' := wH ad ao T t (vp_updL f 0 r.toInt64)) rfl ?_
    refine zg_goto X dL_stateOf_9 (tgt := 15) (by decide) ?_
    refine zg_iconst X (v := 0) dL_stateOf_15 (by decide) ?_
    exact zg_iret X hr dL_stateOf_16 (Nat.le_of_ble_eq_true rfl) (Nat.le_of_ble_eq_true rfl) (⟨t, _, Or.inl ⟨r, h9, rfl, rfl⟩, rfl⟩)
theorem qd_L_dueDay : yL_dueDay.cls ≠ "java/lang/invoke/MethodHandle" ∧ yL_dueDay.cls ≠ "java/lang/invoke/VarHandle" ∧ (parseMethodDescriptor yL_dueDay.desc).map (fun d => d.parameters.length) = some 3 := by decide +kernel
set_option maxHeartbeats 4000000 in
set_option maxRecDepth 100000 in
theorem k_L_dueDay (l : Launch) (hfl : l.stackTraces = false) (D : va_G) (ad : Nat → Nat) (T : Nat → ClassId) (σ : ZS) (hV : zV σ) (p0 : Int32) (ao : Nat) (f : Nat → Int64) : zM l yL_dueDay (wsL_dueDay ++ lwH) ({ frames := 8, cells := 2, slots := 12, locals := 132 }) D (zT T) [.ref (ad 0), .int p0, .ref ao] (wH ad ao T σ f) 2 12 (qI D (zT T) (fun v w => ∃ t f', lR cvI [eNS, eIS] σ (sp_dueDay σ p0) v t f' ∧ w = wH ad ao T t f')) := by
  refine zg_ofL (cc := cL_dueDay) (maxL := 4) (ret := (some .int)) (hh := [(0, 9, 12, 15), (0, 9, 15, 17)]) (by decide) rfl (Nat.le_of_ble_eq_true rfl) (fun p e s m below meth c A htab hr X => ?_)
  have X : zC p s m _ meth c cL_dueDay 4 (wsL_dueDay ++ lwH) RL D (zT T) A := X
  have hok : zTabOk (wsL_dueDay ++ lwH) RL [(12, 15, eNS), (15, 17, eIS)] := ⟨lh_tab (by decide +kernel), by decide +kernel⟩
  refine zg_aload_n X dL_dueDay_0 rfl ?_
  refine zg_iconst X (v := 0) dL_dueDay_1 (by decide) ?_
  refine zg_aload_n X dL_dueDay_2 rfl ?_
  refine zg_iload_n X dL_dueDay_3 rfl ?_
  refine zg_hcVi X (lo := 0) (hi := 9) (hs := [(12, 15, eNS), (15, 17, eIS)]) htab hok ⟨by decide, by decide⟩ (k_X6_dueDay l hfl D ad T σ hV.1.1.1 p0) (lh_m gL_dueDay_X6_dueDay) rfl rfl rfl qv_X6_dueDay rfl ⟨Nat.le_of_ble_eq_true rfl, Nat.le_of_ble_eq_true rfl⟩ rfl (Nat.le_of_ble_eq_true rfl) ⟨Nat.le_of_ble_eq_true rfl, Nat.le_of_ble_eq_true rfl⟩ dL_dueDay_4 (fun E h9 => ?_) (fun r t h9 => ?_)
  · skip
    have h8 := zx_dueDay h9
    rcases h8 with rfl | rfl
    · skip
      refine ⟨(12, 15, eNS), List.mem_of_getElem? (i := 0) rfl, rfl, fun a => ?_⟩
      refine zg_astore_n X dL_dueDay_12 (by decide) ?_
      refine zg_iconst X (v := 1) dL_dueDay_13 (by decide) ?_
      exact zg_iret X hr dL_dueDay_14 (Nat.le_of_ble_eq_true rfl) (Nat.le_of_ble_eq_true rfl) (⟨σ, f, Or.inr ⟨eNS, 0, h9, rfl, rfl, rfl⟩, rfl⟩)
    · skip
      refine ⟨(15, 17, eIS), List.mem_of_getElem? (i := 1) rfl, rfl, fun a => ?_⟩
      refine zg_astore_n X dL_dueDay_15 (by decide) ?_
      refine zg_iconst X (v := 2) dL_dueDay_16 (by decide) ?_
      exact zg_iret X hr dL_dueDay_17 (Nat.le_of_ble_eq_true rfl) (Nat.le_of_ble_eq_true rfl) (⟨σ, f, Or.inr ⟨eIS, 1, h9, rfl, rfl, rfl⟩, rfl⟩)
  · skip
    refine zg_i2l X dL_dueDay_7 ?_
    refine zg_last X (q0 := 32) (t0 := 3) (n := 1) (f := f) rfl rfl (vp_in_nI (n := 0) (N := 1) (by decide) (by decide)) dL_dueDay_8 (w' := wH ad ao T t (vp_updL f 0 r.toInt64)) rfl ?_
    refine zg_goto X dL_dueDay_9 (tgt := 18) (by decide) ?_
    refine zg_iconst X (v := 0) dL_dueDay_18 (by decide) ?_
    exact zg_iret X hr dL_dueDay_19 (Nat.le_of_ble_eq_true rfl) (Nat.le_of_ble_eq_true rfl) (⟨t, _, Or.inl ⟨r, h9, rfl, rfl⟩, rfl⟩)
theorem qd_L_lastUse : yL_lastUse.cls ≠ "java/lang/invoke/MethodHandle" ∧ yL_lastUse.cls ≠ "java/lang/invoke/VarHandle" ∧ (parseMethodDescriptor yL_lastUse.desc).map (fun d => d.parameters.length) = some 3 := by decide +kernel
set_option maxHeartbeats 4000000 in
set_option maxRecDepth 100000 in
theorem k_L_lastUse (l : Launch) (hfl : l.stackTraces = false) (D : va_G) (ad : Nat → Nat) (T : Nat → ClassId) (σ : ZS) (hV : zV σ) (p0 : Int32) (ao : Nat) (f : Nat → Int64) : zM l yL_lastUse (wsL_lastUse ++ lwH) ({ frames := 8, cells := 1, slots := 6, locals := 132 }) D (zT T) [.ref (ad 0), .int p0, .ref ao] (wH ad ao T σ f) 1 6 (qI D (zT T) (fun v w => ∃ t f', lR cvI [eNS] σ (sp_lastUse σ p0) v t f' ∧ w = wH ad ao T t f')) := by
  refine zg_ofL (cc := cL_lastUse) (maxL := 4) (ret := (some .int)) (hh := [(0, 9, 12, 15)]) (by decide) rfl (Nat.le_of_ble_eq_true rfl) (fun p e s m below meth c A htab hr X => ?_)
  have X : zC p s m _ meth c cL_lastUse 4 (wsL_lastUse ++ lwH) RL D (zT T) A := X
  have hok : zTabOk (wsL_lastUse ++ lwH) RL [(12, 15, eNS)] := ⟨lh_tab (by decide +kernel), by decide +kernel⟩
  refine zg_aload_n X dL_lastUse_0 rfl ?_
  refine zg_iconst X (v := 0) dL_lastUse_1 (by decide) ?_
  refine zg_aload_n X dL_lastUse_2 rfl ?_
  refine zg_iload_n X dL_lastUse_3 rfl ?_
  refine zg_hcVi X (lo := 0) (hi := 9) (hs := [(12, 15, eNS)]) htab hok ⟨by decide, by decide⟩ (k_X6_lastUse l hfl D ad T σ hV.1.1.1 p0) (lh_m gL_lastUse_X6_lastUse) rfl rfl rfl qv_X6_lastUse rfl ⟨Nat.le_of_ble_eq_true rfl, Nat.le_of_ble_eq_true rfl⟩ rfl (Nat.le_of_ble_eq_true rfl) ⟨Nat.le_of_ble_eq_true rfl, Nat.le_of_ble_eq_true rfl⟩ dL_lastUse_4 (fun E h9 => ?_) (fun r t h9 => ?_)
  · skip
    have h8 := zx_lastUse h9
    subst h8
    refine ⟨(12, 15, eNS), List.mem_of_getElem? (i := 0) rfl, rfl, fun a => ?_⟩
    refine zg_astore_n X dL_lastUse_12 (by decide) ?_
    refine zg_iconst X (v := 1) dL_lastUse_13 (by decide) ?_
    exact zg_iret X hr dL_lastUse_14 (Nat.le_of_ble_eq_true rfl) (Nat.le_of_ble_eq_true rfl) (⟨σ, f, Or.inr ⟨eNS, 0, h9, rfl, rfl, rfl⟩, rfl⟩)
  · skip
    refine zg_i2l X dL_lastUse_7 ?_
    refine zg_last X (q0 := 32) (t0 := 3) (n := 1) (f := f) rfl rfl (vp_in_nI (n := 0) (N := 1) (by decide) (by decide)) dL_lastUse_8 (w' := wH ad ao T t (vp_updL f 0 r.toInt64)) rfl ?_
    refine zg_goto X dL_lastUse_9 (tgt := 15) (by decide) ?_
    refine zg_iconst X (v := 0) dL_lastUse_15 (by decide) ?_
    exact zg_iret X hr dL_lastUse_16 (Nat.le_of_ble_eq_true rfl) (Nat.le_of_ble_eq_true rfl) (⟨t, _, Or.inl ⟨r, h9, rfl, rfl⟩, rfl⟩)
theorem qd_L_isBlocked : yL_isBlocked.cls ≠ "java/lang/invoke/MethodHandle" ∧ yL_isBlocked.cls ≠ "java/lang/invoke/VarHandle" ∧ (parseMethodDescriptor yL_isBlocked.desc).map (fun d => d.parameters.length) = some 3 := by decide +kernel
set_option maxHeartbeats 4000000 in
set_option maxRecDepth 100000 in
theorem k_L_isBlocked (l : Launch) (hfl : l.stackTraces = false) (D : va_G) (ad : Nat → Nat) (T : Nat → ClassId) (σ : ZS) (hV : zV σ) (p0 : Int32) (ao : Nat) (f : Nat → Int64) : zM l yL_isBlocked (wsL_isBlocked ++ lwH) ({ frames := 8, cells := 1, slots := 6, locals := 133 }) D (zT T) [.ref (ad 0), .int p0, .ref ao] (wH ad ao T σ f) 1 6 (qI D (zT T) (fun v w => ∃ t f', lR cvB [eNS] σ (sp_isBlocked σ p0) v t f' ∧ w = wH ad ao T t f')) := by
  refine zg_ofL (cc := cL_isBlocked) (maxL := 4) (ret := (some .int)) (hh := [(0, 16, 19, 15)]) (by decide) rfl (Nat.le_of_ble_eq_true rfl) (fun p e s m below meth c A htab hr X => ?_)
  have X : zC p s m _ meth c cL_isBlocked 4 (wsL_isBlocked ++ lwH) RL D (zT T) A := X
  have hok : zTabOk (wsL_isBlocked ++ lwH) RL [(19, 15, eNS)] := ⟨lh_tab (by decide +kernel), by decide +kernel⟩
  refine zg_aload_n X dL_isBlocked_0 rfl ?_
  refine zg_iconst X (v := 0) dL_isBlocked_1 (by decide) ?_
  refine zg_aload_n X dL_isBlocked_2 rfl ?_
  refine zg_iload_n X dL_isBlocked_3 rfl ?_
  refine zg_hcVi X (lo := 0) (hi := 16) (hs := [(19, 15, eNS)]) htab hok ⟨by decide, by decide⟩ (k_X6_isBlocked l hfl D ad T σ hV.1.1.1 p0) (lh_m gL_isBlocked_X6_isBlocked) rfl rfl rfl qv_X6_isBlocked rfl ⟨Nat.le_of_ble_eq_true rfl, Nat.le_of_ble_eq_true rfl⟩ rfl (Nat.le_of_ble_eq_true rfl) ⟨Nat.le_of_ble_eq_true rfl, Nat.le_of_ble_eq_true rfl⟩ dL_isBlocked_4 (fun E h9 => ?_) (fun r t h9 => ?_)
  · skip
    have h8 := zx_isBlocked h9
    subst h8
    refine ⟨(19, 15, eNS), List.mem_of_getElem? (i := 0) rfl, rfl, fun a => ?_⟩
    refine zg_astore_n X dL_isBlocked_19 (by decide) ?_
    refine zg_iconst X (v := 1) dL_isBlocked_20 (by decide) ?_
    exact zg_iret X hr dL_isBlocked_21 (Nat.le_of_ble_eq_true rfl) (Nat.le_of_ble_eq_true rfl) (⟨σ, f, Or.inr ⟨eNS, 0, h9, rfl, rfl, rfl⟩, rfl⟩)
  · skip
    refine zg_if_eq X dL_isBlocked_7 (tgt := 14) (by decide) (fun c9 => ?_) (fun c9 => ?_)
    · skip
      refine zg_lconst X (v := 0) dL_isBlocked_14 rfl ?_
      refine zg_last X (q0 := 32) (t0 := 3) (n := 1) (f := f) rfl rfl (vp_in_nI (n := 0) (N := 1) (by decide) (by decide)) dL_isBlocked_15 (w' := wH ad ao T t (vp_updL f 0 0)) rfl ?_
      refine zg_goto X dL_isBlocked_16 (tgt := 22) (by decide) ?_
      refine zg_iconst X (v := 0) dL_isBlocked_22 (by decide) ?_
      exact zg_iret X hr dL_isBlocked_23 (Nat.le_of_ble_eq_true rfl) (Nat.le_of_ble_eq_true rfl) (⟨t, _, Or.inl ⟨r, h9, rfl, (show (0 : Int64) = cvB r from (if_pos c9).symm)⟩, rfl⟩)
    · skip
      refine zg_lconst X (v := 1) dL_isBlocked_10 rfl ?_
      refine zg_goto X dL_isBlocked_11 (tgt := 15) (by decide) ?_
      refine zg_last X (q0 := 32) (t0 := 3) (n := 1) (f := f) rfl rfl (vp_in_nI (n := 0) (N := 1) (by decide) (by decide)) dL_isBlocked_15 (w' := wH ad ao T t (vp_updL f 0 1)) rfl ?_
      refine zg_goto X dL_isBlocked_16 (tgt := 22) (by decide) ?_
      refine zg_iconst X (v := 0) dL_isBlocked_22 (by decide) ?_
      exact zg_iret X hr dL_isBlocked_23 (Nat.le_of_ble_eq_true rfl) (Nat.le_of_ble_eq_true rfl) (⟨t, _, Or.inl ⟨r, h9, rfl, (show (1 : Int64) = cvB r from (if_neg c9).symm)⟩, rfl⟩)
theorem qd_L_grantOf : yL_grantOf.cls ≠ "java/lang/invoke/MethodHandle" ∧ yL_grantOf.cls ≠ "java/lang/invoke/VarHandle" ∧ (parseMethodDescriptor yL_grantOf.desc).map (fun d => d.parameters.length) = some 3 := by decide +kernel
set_option maxHeartbeats 4000000 in
set_option maxRecDepth 100000 in
theorem k_L_grantOf (l : Launch) (hfl : l.stackTraces = false) (D : va_G) (ad : Nat → Nat) (T : Nat → ClassId) (σ : ZS) (hV : zV σ) (p0 : Int32) (ao : Nat) (f : Nat → Int64) : zM l yL_grantOf (wsL_grantOf ++ lwH) ({ frames := 8, cells := 1, slots := 6, locals := 132 }) D (zT T) [.ref (ad 0), .int p0, .ref ao] (wH ad ao T σ f) 1 6 (qI D (zT T) (fun v w => ∃ t f', lR cvI [eNS] σ (sp_grantOf σ p0) v t f' ∧ w = wH ad ao T t f')) := by
  refine zg_ofL (cc := cL_grantOf) (maxL := 4) (ret := (some .int)) (hh := [(0, 9, 12, 15)]) (by decide) rfl (Nat.le_of_ble_eq_true rfl) (fun p e s m below meth c A htab hr X => ?_)
  have X : zC p s m _ meth c cL_grantOf 4 (wsL_grantOf ++ lwH) RL D (zT T) A := X
  have hok : zTabOk (wsL_grantOf ++ lwH) RL [(12, 15, eNS)] := ⟨lh_tab (by decide +kernel), by decide +kernel⟩
  refine zg_aload_n X dL_grantOf_0 rfl ?_
  refine zg_iconst X (v := 0) dL_grantOf_1 (by decide) ?_
  refine zg_aload_n X dL_grantOf_2 rfl ?_
  refine zg_iload_n X dL_grantOf_3 rfl ?_
  refine zg_hcVi X (lo := 0) (hi := 9) (hs := [(12, 15, eNS)]) htab hok ⟨by decide, by decide⟩ (k_X6_grantOf l hfl D ad T σ hV.1.1.1 p0) (lh_m gL_grantOf_X6_grantOf) rfl rfl rfl qv_X6_grantOf rfl ⟨Nat.le_of_ble_eq_true rfl, Nat.le_of_ble_eq_true rfl⟩ rfl (Nat.le_of_ble_eq_true rfl) ⟨Nat.le_of_ble_eq_true rfl, Nat.le_of_ble_eq_true rfl⟩ dL_grantOf_4 (fun E h9 => ?_) (fun r t h9 => ?_)
  · skip
    have h8 := zx_grantOf h9
    subst h8
    refine ⟨(12, 15, eNS), List.mem_of_getElem? (i := 0) rfl, rfl, fun a => ?_⟩
    refine zg_astore_n X dL_grantOf_12 (by decide) ?_
    refine zg_iconst X (v := 1) dL_grantOf_13 (by decide) ?_
    exact zg_iret X hr dL_grantOf_14 (Nat.le_of_ble_eq_true rfl) (Nat.le_of_ble_eq_true rfl) (⟨σ, f, Or.inr ⟨eNS, 0, h9, rfl, rfl, rfl⟩, rfl⟩)
  · skip
    refine zg_i2l X dL_grantOf_7 ?_
    refine zg_last X (q0 := 32) (t0 := 3) (n := 1) (f := f) rfl rfl (vp_in_nI (n := 0) (N := 1) (by decide) (by decide)) dL_grantOf_8 (w' := wH ad ao T t (vp_updL f 0 r.toInt64)) rfl ?_
    refine zg_goto X dL_grantOf_9 (tgt := 15) (by decide) ?_
    refine zg_iconst X (v := 0) dL_grantOf_15 (by decide) ?_
    exact zg_iret X hr dL_grantOf_16 (Nat.le_of_ble_eq_true rfl) (Nat.le_of_ble_eq_true rfl) (⟨t, _, Or.inl ⟨r, h9, rfl, rfl⟩, rfl⟩)
theorem qd_L_verdict : yL_verdict.cls ≠ "java/lang/invoke/MethodHandle" ∧ yL_verdict.cls ≠ "java/lang/invoke/VarHandle" ∧ (parseMethodDescriptor yL_verdict.desc).map (fun d => d.parameters.length) = some 3 := by decide +kernel
set_option maxHeartbeats 4000000 in
set_option maxRecDepth 100000 in
theorem k_L_verdict (l : Launch) (hfl : l.stackTraces = false) (D : va_G) (ad : Nat → Nat) (T : Nat → ClassId) (σ : ZS) (hV : zV σ) (p0 : Int32) (ao : Nat) (f : Nat → Int64) : zM l yL_verdict (wsL_verdict ++ lwH) ({ frames := 8, cells := 1, slots := 6, locals := 132 }) D (zT T) [.ref (ad 0), .int p0, .ref ao] (wH ad ao T σ f) 1 6 (qI D (zT T) (fun v w => ∃ t f', lR cvI [eNS] σ (sp_verdict σ p0) v t f' ∧ w = wH ad ao T t f')) := by
  refine zg_ofL (cc := cL_verdict) (maxL := 4) (ret := (some .int)) (hh := [(0, 9, 12, 15)]) (by decide) rfl (Nat.le_of_ble_eq_true rfl) (fun p e s m below meth c A htab hr X => ?_)
  have X : zC p s m _ meth c cL_verdict 4 (wsL_verdict ++ lwH) RL D (zT T) A := X
  have hok : zTabOk (wsL_verdict ++ lwH) RL [(12, 15, eNS)] := ⟨lh_tab (by decide +kernel), by decide +kernel⟩
  refine zg_aload_n X dL_verdict_0 rfl ?_
  refine zg_iconst X (v := 0) dL_verdict_1 (by decide) ?_
  refine zg_aload_n X dL_verdict_2 rfl ?_
  refine zg_iload_n X dL_verdict_3 rfl ?_
  refine zg_hcVi X (lo := 0) (hi := 9) (hs := [(12, 15, eNS)]) htab hok ⟨by decide, by decide⟩ (k_X6_verdict l hfl D ad T σ hV.1.1.1 hV.1.2.1 p0) (lh_m gL_verdict_X6_verdict) rfl rfl rfl qv_X6_verdict rfl ⟨Nat.le_of_ble_eq_true rfl, Nat.le_of_ble_eq_true rfl⟩ rfl (Nat.le_of_ble_eq_true rfl) ⟨Nat.le_of_ble_eq_true rfl, Nat.le_of_ble_eq_true rfl⟩ dL_verdict_4 (fun E h9 => ?_) (fun r t h9 => ?_)
  · skip
    have h8 := zx_verdict h9
    subst h8
    refine ⟨(12, 15, eNS), List.mem_of_getElem? (i := 0) rfl, rfl, fun a => ?_⟩
    refine zg_astore_n X dL_verdict_12 (by decide) ?_
    refine zg_iconst X (v := 1) dL_verdict_13 (by decide) ?_
    exact zg_iret X hr dL_verdict_14 (Nat.le_of_ble_eq_true rfl) (Nat.le_of_ble_eq_true rfl) (⟨σ, f, Or.inr ⟨eNS, 0, h9, rfl, rfl, rfl⟩, rfl⟩)
  · skip
    refine zg_i2l X dL_verdict_7 ?_
    refine zg_last X (q0 := 32) (t0 := 3) (n := 1) (f := f) rfl rfl (vp_in_nI (n := 0) (N := 1) (by decide) (by decide)) dL_verdict_8 (w' := wH ad ao T t (vp_updL f 0 r.toInt64)) rfl ?_
    refine zg_goto X dL_verdict_9 (tgt := 15) (by decide) ?_
    refine zg_iconst X (v := 0) dL_verdict_15 (by decide) ?_
    exact zg_iret X hr dL_verdict_16 (Nat.le_of_ble_eq_true rfl) (Nat.le_of_ble_eq_true rfl) (⟨t, _, Or.inl ⟨r, h9, rfl, rfl⟩, rfl⟩)
theorem qd_L_decider : yL_decider.cls ≠ "java/lang/invoke/MethodHandle" ∧ yL_decider.cls ≠ "java/lang/invoke/VarHandle" ∧ (parseMethodDescriptor yL_decider.desc).map (fun d => d.parameters.length) = some 3 := by decide +kernel
set_option maxHeartbeats 4000000 in
set_option maxRecDepth 100000 in
theorem k_L_decider (l : Launch) (hfl : l.stackTraces = false) (D : va_G) (ad : Nat → Nat) (T : Nat → ClassId) (σ : ZS) (hV : zV σ) (p0 : Int32) (ao : Nat) (f : Nat → Int64) : zM l yL_decider (wsL_decider ++ lwH) ({ frames := 8, cells := 2, slots := 12, locals := 132 }) D (zT T) [.ref (ad 0), .int p0, .ref ao] (wH ad ao T σ f) 2 12 (qI D (zT T) (fun v w => ∃ t f', lR cvI [eNS, eIS] σ (sp_decider σ p0) v t f' ∧ w = wH ad ao T t f')) := by
  refine zg_ofL (cc := cL_decider) (maxL := 4) (ret := (some .int)) (hh := [(0, 9, 12, 15), (0, 9, 15, 17)]) (by decide) rfl (Nat.le_of_ble_eq_true rfl) (fun p e s m below meth c A htab hr X => ?_)
  have X : zC p s m _ meth c cL_decider 4 (wsL_decider ++ lwH) RL D (zT T) A := X
  have hok : zTabOk (wsL_decider ++ lwH) RL [(12, 15, eNS), (15, 17, eIS)] := ⟨lh_tab (by decide +kernel), by decide +kernel⟩
  refine zg_aload_n X dL_decider_0 rfl ?_
  refine zg_iconst X (v := 0) dL_decider_1 (by decide) ?_
  refine zg_aload_n X dL_decider_2 rfl ?_
  refine zg_iload_n X dL_decider_3 rfl ?_
  refine zg_hcVi X (lo := 0) (hi := 9) (hs := [(12, 15, eNS), (15, 17, eIS)]) htab hok ⟨by decide, by decide⟩ (k_X6_decider l hfl D ad T σ hV.1.1.1 p0) (lh_m gL_decider_X6_decider) rfl rfl rfl qv_X6_decider rfl ⟨Nat.le_of_ble_eq_true rfl, Nat.le_of_ble_eq_true rfl⟩ rfl (Nat.le_of_ble_eq_true rfl) ⟨Nat.le_of_ble_eq_true rfl, Nat.le_of_ble_eq_true rfl⟩ dL_decider_4 (fun E h9 => ?_) (fun r t h9 => ?_)
  · skip
    have h8 := zx_decider h9
    rcases h8 with rfl | rfl
    · skip
      refine ⟨(12, 15, eNS), List.mem_of_getElem? (i := 0) rfl, rfl, fun a => ?_⟩
      refine zg_astore_n X dL_decider_12 (by decide) ?_
      refine zg_iconst X (v := 1) dL_decider_13 (by decide) ?_
      exact zg_iret X hr dL_decider_14 (Nat.le_of_ble_eq_true rfl) (Nat.le_of_ble_eq_true rfl) (⟨σ, f, Or.inr ⟨eNS, 0, h9, rfl, rfl, rfl⟩, rfl⟩)
    · skip
      refine ⟨(15, 17, eIS), List.mem_of_getElem? (i := 1) rfl, rfl, fun a => ?_⟩
      refine zg_astore_n X dL_decider_15 (by decide) ?_
      refine zg_iconst X (v := 2) dL_decider_16 (by decide) ?_
      exact zg_iret X hr dL_decider_17 (Nat.le_of_ble_eq_true rfl) (Nat.le_of_ble_eq_true rfl) (⟨σ, f, Or.inr ⟨eIS, 1, h9, rfl, rfl, rfl⟩, rfl⟩)
  · skip
    refine zg_i2l X dL_decider_7 ?_
    refine zg_last X (q0 := 32) (t0 := 3) (n := 1) (f := f) rfl rfl (vp_in_nI (n := 0) (N := 1) (by decide) (by decide)) dL_decider_8 (w' := wH ad ao T t (vp_updL f 0 r.toInt64)) rfl ?_
    refine zg_goto X dL_decider_9 (tgt := 18) (by decide) ?_
    refine zg_iconst X (v := 0) dL_decider_18 (by decide) ?_
    exact zg_iret X hr dL_decider_19 (Nat.le_of_ble_eq_true rfl) (Nat.le_of_ble_eq_true rfl) (⟨t, _, Or.inl ⟨r, h9, rfl, rfl⟩, rfl⟩)
theorem qd_L_nextItem : yL_nextItem.cls ≠ "java/lang/invoke/MethodHandle" ∧ yL_nextItem.cls ≠ "java/lang/invoke/VarHandle" ∧ (parseMethodDescriptor yL_nextItem.desc).map (fun d => d.parameters.length) = some 3 := by decide +kernel
set_option maxHeartbeats 4000000 in
set_option maxRecDepth 100000 in
theorem k_L_nextItem (l : Launch) (hfl : l.stackTraces = false) (D : va_G) (ad : Nat → Nat) (T : Nat → ClassId) (σ : ZS) (hV : zV σ) (p0 : Int32) (ao : Nat) (f : Nat → Int64) : zM l yL_nextItem (wsL_nextItem ++ lwH) ({ frames := 8, cells := 2, slots := 12, locals := 140 }) D (zT T) [.ref (ad 0), .int p0, .ref ao] (wH ad ao T σ f) 2 12 (qI D (zT T) (fun v w => ∃ t f', lR cvI [eNS, eIS] σ (sp_nextItem σ p0) v t f' ∧ w = wH ad ao T t f')) := by
  refine zg_ofL (cc := cL_nextItem) (maxL := 4) (ret := (some .int)) (hh := [(0, 9, 12, 15), (0, 9, 15, 17)]) (by decide) rfl (Nat.le_of_ble_eq_true rfl) (fun p e s m below meth c A htab hr X => ?_)
  have X : zC p s m _ meth c cL_nextItem 4 (wsL_nextItem ++ lwH) RL D (zT T) A := X
  have hok : zTabOk (wsL_nextItem ++ lwH) RL [(12, 15, eNS), (15, 17, eIS)] := ⟨lh_tab (by decide +kernel), by decide +kernel⟩
  refine zg_aload_n X dL_nextItem_0 rfl ?_
  refine zg_iconst X (v := 0) dL_nextItem_1 (by decide) ?_
  refine zg_aload_n X dL_nextItem_2 rfl ?_
  refine zg_iload_n X dL_nextItem_3 rfl ?_
  refine zg_hcVi X (lo := 0) (hi := 9) (hs := [(12, 15, eNS), (15, 17, eIS)]) htab hok ⟨by decide, by decide⟩ (k_X6_nextItem l hfl D ad T σ hV.1.1.1 p0) (lh_m gL_nextItem_X6_nextItem) rfl rfl rfl qv_X6_nextItem rfl ⟨Nat.le_of_ble_eq_true rfl, Nat.le_of_ble_eq_true rfl⟩ rfl (Nat.le_of_ble_eq_true rfl) ⟨Nat.le_of_ble_eq_true rfl, Nat.le_of_ble_eq_true rfl⟩ dL_nextItem_4 (fun E h9 => ?_) (fun r t h9 => ?_)
  · skip
    have h8 := zx_nextItem h9
    rcases h8 with rfl | rfl
    · skip
      refine ⟨(12, 15, eNS), List.mem_of_getElem? (i := 0) rfl, rfl, fun a => ?_⟩
      refine zg_astore_n X dL_nextItem_12 (by decide) ?_
      refine zg_iconst X (v := 1) dL_nextItem_13 (by decide) ?_
      exact zg_iret X hr dL_nextItem_14 (Nat.le_of_ble_eq_true rfl) (Nat.le_of_ble_eq_true rfl) (⟨σ, f, Or.inr ⟨eNS, 0, h9, rfl, rfl, rfl⟩, rfl⟩)
    · skip
      refine ⟨(15, 17, eIS), List.mem_of_getElem? (i := 1) rfl, rfl, fun a => ?_⟩
      refine zg_astore_n X dL_nextItem_15 (by decide) ?_
      refine zg_iconst X (v := 2) dL_nextItem_16 (by decide) ?_
      exact zg_iret X hr dL_nextItem_17 (Nat.le_of_ble_eq_true rfl) (Nat.le_of_ble_eq_true rfl) (⟨σ, f, Or.inr ⟨eIS, 1, h9, rfl, rfl, rfl⟩, rfl⟩)
  · skip
    refine zg_i2l X dL_nextItem_7 ?_
    refine zg_last X (q0 := 32) (t0 := 3) (n := 1) (f := f) rfl rfl (vp_in_nI (n := 0) (N := 1) (by decide) (by decide)) dL_nextItem_8 (w' := wH ad ao T t (vp_updL f 0 r.toInt64)) rfl ?_
    refine zg_goto X dL_nextItem_9 (tgt := 18) (by decide) ?_
    refine zg_iconst X (v := 0) dL_nextItem_18 (by decide) ?_
    exact zg_iret X hr dL_nextItem_19 (Nat.le_of_ble_eq_true rfl) (Nat.le_of_ble_eq_true rfl) (⟨t, _, Or.inl ⟨r, h9, rfl, rfl⟩, rfl⟩)
theorem qd_L_signAt : yL_signAt.cls ≠ "java/lang/invoke/MethodHandle" ∧ yL_signAt.cls ≠ "java/lang/invoke/VarHandle" ∧ (parseMethodDescriptor yL_signAt.desc).map (fun d => d.parameters.length) = some 3 := by decide +kernel
set_option maxHeartbeats 4000000 in
set_option maxRecDepth 100000 in
theorem k_L_signAt (l : Launch) (hfl : l.stackTraces = false) (D : va_G) (ad : Nat → Nat) (T : Nat → ClassId) (σ : ZS) (hV : zV σ) (p0 : Int32) (ao : Nat) (f : Nat → Int64) : zM l yL_signAt (wsL_signAt ++ lwH) ({ frames := 8, cells := 1, slots := 6, locals := 132 }) D (zT T) [.ref (ad 0), .int p0, .ref ao] (wH ad ao T σ f) 1 6 (qI D (zT T) (fun v w => ∃ t f', lR cvI [eNS] σ (sp_signAt σ p0) v t f' ∧ w = wH ad ao T t f')) := by
  refine zg_ofL (cc := cL_signAt) (maxL := 4) (ret := (some .int)) (hh := [(0, 9, 12, 15)]) (by decide) rfl (Nat.le_of_ble_eq_true rfl) (fun p e s m below meth c A htab hr X => ?_)
  have X : zC p s m _ meth c cL_signAt 4 (wsL_signAt ++ lwH) RL D (zT T) A := X
  have hok : zTabOk (wsL_signAt ++ lwH) RL [(12, 15, eNS)] := ⟨lh_tab (by decide +kernel), by decide +kernel⟩
  refine zg_aload_n X dL_signAt_0 rfl ?_
  refine zg_iconst X (v := 0) dL_signAt_1 (by decide) ?_
  refine zg_aload_n X dL_signAt_2 rfl ?_
  refine zg_iload_n X dL_signAt_3 rfl ?_
  refine zg_hcVi X (lo := 0) (hi := 9) (hs := [(12, 15, eNS)]) htab hok ⟨by decide, by decide⟩ (k_X6_signAt l hfl D ad T σ hV.1.1.1 hV.1.2.1 p0) (lh_m gL_signAt_X6_signAt) rfl rfl rfl qv_X6_signAt rfl ⟨Nat.le_of_ble_eq_true rfl, Nat.le_of_ble_eq_true rfl⟩ rfl (Nat.le_of_ble_eq_true rfl) ⟨Nat.le_of_ble_eq_true rfl, Nat.le_of_ble_eq_true rfl⟩ dL_signAt_4 (fun E h9 => ?_) (fun r t h9 => ?_)
  · skip
    have h8 := zx_signAt h9
    subst h8
    refine ⟨(12, 15, eNS), List.mem_of_getElem? (i := 0) rfl, rfl, fun a => ?_⟩
    refine zg_astore_n X dL_signAt_12 (by decide) ?_
    refine zg_iconst X (v := 1) dL_signAt_13 (by decide) ?_
    exact zg_iret X hr dL_signAt_14 (Nat.le_of_ble_eq_true rfl) (Nat.le_of_ble_eq_true rfl) (⟨σ, f, Or.inr ⟨eNS, 0, h9, rfl, rfl, rfl⟩, rfl⟩)
  · skip
    refine zg_i2l X dL_signAt_7 ?_
    refine zg_last X (q0 := 32) (t0 := 3) (n := 1) (f := f) rfl rfl (vp_in_nI (n := 0) (N := 1) (by decide) (by decide)) dL_signAt_8 (w' := wH ad ao T t (vp_updL f 0 r.toInt64)) rfl ?_
    refine zg_goto X dL_signAt_9 (tgt := 15) (by decide) ?_
    refine zg_iconst X (v := 0) dL_signAt_15 (by decide) ?_
    exact zg_iret X hr dL_signAt_16 (Nat.le_of_ble_eq_true rfl) (Nat.le_of_ble_eq_true rfl) (⟨t, _, Or.inl ⟨r, h9, rfl, rfl⟩, rfl⟩)
theorem qd_L_sealAt : yL_sealAt.cls ≠ "java/lang/invoke/MethodHandle" ∧ yL_sealAt.cls ≠ "java/lang/invoke/VarHandle" ∧ (parseMethodDescriptor yL_sealAt.desc).map (fun d => d.parameters.length) = some 3 := by decide +kernel
set_option maxHeartbeats 4000000 in
set_option maxRecDepth 100000 in
theorem k_L_sealAt (l : Launch) (hfl : l.stackTraces = false) (D : va_G) (ad : Nat → Nat) (T : Nat → ClassId) (σ : ZS) (hV : zV σ) (p0 : Int32) (ao : Nat) (f : Nat → Int64) : zM l yL_sealAt (wsL_sealAt ++ lwH) ({ frames := 8, cells := 1, slots := 6, locals := 132 }) D (zT T) [.ref (ad 0), .int p0, .ref ao] (wH ad ao T σ f) 1 6 (qI D (zT T) (fun v w => ∃ t f', lR cvI [eNS] σ (sp_sealAt σ p0) v t f' ∧ w = wH ad ao T t f')) := by
  refine zg_ofL (cc := cL_sealAt) (maxL := 4) (ret := (some .int)) (hh := [(0, 9, 12, 15)]) (by decide) rfl (Nat.le_of_ble_eq_true rfl) (fun p e s m below meth c A htab hr X => ?_)
  have X : zC p s m _ meth c cL_sealAt 4 (wsL_sealAt ++ lwH) RL D (zT T) A := X
  have hok : zTabOk (wsL_sealAt ++ lwH) RL [(12, 15, eNS)] := ⟨lh_tab (by decide +kernel), by decide +kernel⟩
  refine zg_aload_n X dL_sealAt_0 rfl ?_
  refine zg_iconst X (v := 0) dL_sealAt_1 (by decide) ?_
  refine zg_aload_n X dL_sealAt_2 rfl ?_
  refine zg_iload_n X dL_sealAt_3 rfl ?_
  refine zg_hcVi X (lo := 0) (hi := 9) (hs := [(12, 15, eNS)]) htab hok ⟨by decide, by decide⟩ (k_X6_sealAt l hfl D ad T σ hV.1.1.1 p0) (lh_m gL_sealAt_X6_sealAt) rfl rfl rfl qv_X6_sealAt rfl ⟨Nat.le_of_ble_eq_true rfl, Nat.le_of_ble_eq_true rfl⟩ rfl (Nat.le_of_ble_eq_true rfl) ⟨Nat.le_of_ble_eq_true rfl, Nat.le_of_ble_eq_true rfl⟩ dL_sealAt_4 (fun E h9 => ?_) (fun r t h9 => ?_)
  · skip
    have h8 := zx_sealAt h9
    subst h8
    refine ⟨(12, 15, eNS), List.mem_of_getElem? (i := 0) rfl, rfl, fun a => ?_⟩
    refine zg_astore_n X dL_sealAt_12 (by decide) ?_
    refine zg_iconst X (v := 1) dL_sealAt_13 (by decide) ?_
    exact zg_iret X hr dL_sealAt_14 (Nat.le_of_ble_eq_true rfl) (Nat.le_of_ble_eq_true rfl) (⟨σ, f, Or.inr ⟨eNS, 0, h9, rfl, rfl, rfl⟩, rfl⟩)
  · skip
    refine zg_i2l X dL_sealAt_7 ?_
    refine zg_last X (q0 := 32) (t0 := 3) (n := 1) (f := f) rfl rfl (vp_in_nI (n := 0) (N := 1) (by decide) (by decide)) dL_sealAt_8 (w' := wH ad ao T t (vp_updL f 0 r.toInt64)) rfl ?_
    refine zg_goto X dL_sealAt_9 (tgt := 15) (by decide) ?_
    refine zg_iconst X (v := 0) dL_sealAt_15 (by decide) ?_
    exact zg_iret X hr dL_sealAt_16 (Nat.le_of_ble_eq_true rfl) (Nat.le_of_ble_eq_true rfl) (⟨t, _, Or.inl ⟨r, h9, rfl, rfl⟩, rfl⟩)
theorem qd_L_sealByReplay : yL_sealByReplay.cls ≠ "java/lang/invoke/MethodHandle" ∧ yL_sealByReplay.cls ≠ "java/lang/invoke/VarHandle" ∧ (parseMethodDescriptor yL_sealByReplay.desc).map (fun d => d.parameters.length) = some 3 := by decide +kernel
set_option maxHeartbeats 4000000 in
set_option maxRecDepth 100000 in
theorem k_L_sealByReplay (l : Launch) (hfl : l.stackTraces = false) (D : va_G) (ad : Nat → Nat) (T : Nat → ClassId) (σ : ZS) (hV : zV σ) (p0 : Int32) (ao : Nat) (f : Nat → Int64) : zM l yL_sealByReplay (wsL_sealByReplay ++ lwH) ({ frames := 8, cells := 1, slots := 6, locals := 132 }) D (zT T) [.ref (ad 0), .int p0, .ref ao] (wH ad ao T σ f) 1 6 (qI D (zT T) (fun v w => ∃ t f', lR cvI [eNS] σ (sp_sealByReplay σ p0) v t f' ∧ w = wH ad ao T t f')) := by
  refine zg_ofL (cc := cL_sealByReplay) (maxL := 4) (ret := (some .int)) (hh := [(0, 9, 12, 15)]) (by decide) rfl (Nat.le_of_ble_eq_true rfl) (fun p e s m below meth c A htab hr X => ?_)
  have X : zC p s m _ meth c cL_sealByReplay 4 (wsL_sealByReplay ++ lwH) RL D (zT T) A := X
  have hok : zTabOk (wsL_sealByReplay ++ lwH) RL [(12, 15, eNS)] := ⟨lh_tab (by decide +kernel), by decide +kernel⟩
  refine zg_aload_n X dL_sealByReplay_0 rfl ?_
  refine zg_iconst X (v := 0) dL_sealByReplay_1 (by decide) ?_
  refine zg_aload_n X dL_sealByReplay_2 rfl ?_
  refine zg_iload_n X dL_sealByReplay_3 rfl ?_
  refine zg_hcVi X (lo := 0) (hi := 9) (hs := [(12, 15, eNS)]) htab hok ⟨by decide, by decide⟩ (k_X6_sealByReplay l hfl D ad T σ hV.1.1.1 p0) (lh_m gL_sealByReplay_X6_sealByReplay) rfl rfl rfl qv_X6_sealByReplay rfl ⟨Nat.le_of_ble_eq_true rfl, Nat.le_of_ble_eq_true rfl⟩ rfl (Nat.le_of_ble_eq_true rfl) ⟨Nat.le_of_ble_eq_true rfl, Nat.le_of_ble_eq_true rfl⟩ dL_sealByReplay_4 (fun E h9 => ?_) (fun r t h9 => ?_)
  · skip
    have h8 := zx_sealByReplay h9
    subst h8
    refine ⟨(12, 15, eNS), List.mem_of_getElem? (i := 0) rfl, rfl, fun a => ?_⟩
    refine zg_astore_n X dL_sealByReplay_12 (by decide) ?_
    refine zg_iconst X (v := 1) dL_sealByReplay_13 (by decide) ?_
    exact zg_iret X hr dL_sealByReplay_14 (Nat.le_of_ble_eq_true rfl) (Nat.le_of_ble_eq_true rfl) (⟨σ, f, Or.inr ⟨eNS, 0, h9, rfl, rfl, rfl⟩, rfl⟩)
  · skip
    refine zg_i2l X dL_sealByReplay_7 ?_
    refine zg_last X (q0 := 32) (t0 := 3) (n := 1) (f := f) rfl rfl (vp_in_nI (n := 0) (N := 1) (by decide) (by decide)) dL_sealByReplay_8 (w' := wH ad ao T t (vp_updL f 0 r.toInt64)) rfl ?_
    refine zg_goto X dL_sealByReplay_9 (tgt := 15) (by decide) ?_
    refine zg_iconst X (v := 0) dL_sealByReplay_15 (by decide) ?_
    exact zg_iret X hr dL_sealByReplay_16 (Nat.le_of_ble_eq_true rfl) (Nat.le_of_ble_eq_true rfl) (⟨t, _, Or.inl ⟨r, h9, rfl, rfl⟩, rfl⟩)
theorem qd_L_revokedShare : yL_revokedShare.cls ≠ "java/lang/invoke/MethodHandle" ∧ yL_revokedShare.cls ≠ "java/lang/invoke/VarHandle" ∧ (parseMethodDescriptor yL_revokedShare.desc).map (fun d => d.parameters.length) = some 2 := by decide +kernel
set_option maxHeartbeats 4000000 in
set_option maxRecDepth 100000 in
theorem k_L_revokedShare (l : Launch) (hfl : l.stackTraces = false) (D : va_G) (ad : Nat → Nat) (T : Nat → ClassId) (σ : ZS) (hV : zV σ) (ao : Nat) (g : Nat → UInt64) : zM l yL_revokedShare (wsL_revokedShare ++ lwH) ({ frames := 7, cells := 1, slots := 6, locals := 110 }) D (zT T) [.ref (ad 0), .ref ao] (wHd ad ao T σ g) 1 6 (qI D (zT T) (fun v w => ∃ t g', lRd FP.f2d σ (sp_rsh σ) v t g' ∧ w = wHd ad ao T t g')) := by
  refine zg_ofL (cc := cL_revokedShare) (maxL := 3) (ret := (some .int)) (hh := [(0, 8, 11, 161)]) (by decide) rfl (Nat.le_of_ble_eq_true rfl) (fun p e s m below meth c A htab hr X => ?_)
  have X : zC p s m _ meth c cL_revokedShare 3 (wsL_revokedShare ++ lwH) RL D (zT T) A := X
  have hok : zTabOk (wsL_revokedShare ++ lwH) RL [(11, 161, eAR)] := ⟨lh_tab (by decide +kernel), by decide +kernel⟩
  refine zg_aload_n X dL_revokedShare_0 rfl ?_
  refine zg_iconst X (v := 0) dL_revokedShare_1 (by decide) ?_
  refine zg_aload_n X dL_revokedShare_2 rfl ?_
  refine zg_hcVf X (lo := 0) (hi := 8) (hs := [(11, 161, eAR)]) htab hok ⟨by decide, by decide⟩ (k_X6_revokedShare l hfl D ad T σ hV.1.1.1) (lh_m gL_revokedShare_X6_revokedShare) rfl rfl rfl qv_X6_revokedShare rfl ⟨Nat.le_of_ble_eq_true rfl, Nat.le_of_ble_eq_true rfl⟩ rfl (Nat.le_of_ble_eq_true rfl) ⟨Nat.le_of_ble_eq_true rfl, Nat.le_of_ble_eq_true rfl⟩ dL_revokedShare_3 (fun E h9 => ?_) (fun r h9 => ?_)
  · skip
    have h8 : E = eAR := by unfold sp_rsh at h9; split at h9 <;> cases h9; rfl
    subst h8
    refine ⟨(11, 161, eAR), List.mem_of_getElem? (i := 0) rfl, rfl, fun a => ?_⟩
    refine zg_astore_n X dL_revokedShare_11 (by decide) ?_
    refine zg_iconst X (v := 1) dL_revokedShare_12 (by decide) ?_
    exact zg_iret X hr dL_revokedShare_13 (Nat.le_of_ble_eq_true rfl) (Nat.le_of_ble_eq_true rfl) (⟨σ, g, ⟨rfl, Or.inr ⟨h9, rfl⟩⟩, rfl⟩)
  · skip
    refine zg_f2d X (fl_n64 (fl_f2d (rsh_nn h9))) dL_revokedShare_6 ?_
    refine zg_dast X (q0 := 32) (t0 := 4) (n := 1) (f := g) rfl rfl (vp_in_nI (n := 0) (N := 1) (by decide) (by decide)) dL_revokedShare_7 (w' := wHd ad ao T σ (vf_upd g 0 (FP.f2d r))) rfl ?_
    refine zg_goto X dL_revokedShare_8 (tgt := 14) (by decide) ?_
    refine zg_iconst X (v := 0) dL_revokedShare_14 (by decide) ?_
    exact zg_iret X hr dL_revokedShare_15 (Nat.le_of_ble_eq_true rfl) (Nat.le_of_ble_eq_true rfl) (⟨σ, _, ⟨rfl, Or.inl ⟨r, h9, rfl, rfl⟩⟩, rfl⟩)
theorem qd_L_meanRisk : yL_meanRisk.cls ≠ "java/lang/invoke/MethodHandle" ∧ yL_meanRisk.cls ≠ "java/lang/invoke/VarHandle" ∧ (parseMethodDescriptor yL_meanRisk.desc).map (fun d => d.parameters.length) = some 2 := by decide +kernel
set_option maxHeartbeats 4000000 in
set_option maxRecDepth 100000 in
theorem k_L_meanRisk (l : Launch) (hfl : l.stackTraces = false) (D : va_G) (ad : Nat → Nat) (T : Nat → ClassId) (σ : ZS) (hV : zV σ) (ao : Nat) (g : Nat → UInt64) : zM l yL_meanRisk (wsL_meanRisk ++ lwH) ({ frames := 7, cells := 1, slots := 6, locals := 137 }) D (zT T) [.ref (ad 0), .ref ao] (wHd ad ao T σ g) 1 6 (qI D (zT T) (fun v w => ∃ t g', lRd id σ (sp_mrk σ) v t g' ∧ w = wHd ad ao T t g')) := by
  refine zg_ofL (cc := cL_meanRisk) (maxL := 3) (ret := (some .int)) (hh := [(0, 7, 10, 161)]) (by decide) rfl (Nat.le_of_ble_eq_true rfl) (fun p e s m below meth c A htab hr X => ?_)
  have X : zC p s m _ meth c cL_meanRisk 3 (wsL_meanRisk ++ lwH) RL D (zT T) A := X
  have hok : zTabOk (wsL_meanRisk ++ lwH) RL [(10, 161, eAR)] := ⟨lh_tab (by decide +kernel), by decide +kernel⟩
  refine zg_aload_n X dL_meanRisk_0 rfl ?_
  refine zg_iconst X (v := 0) dL_meanRisk_1 (by decide) ?_
  refine zg_aload_n X dL_meanRisk_2 rfl ?_
  refine zg_hcVd X (lo := 0) (hi := 7) (hs := [(10, 161, eAR)]) htab hok ⟨by decide, by decide⟩ (k_X6_meanRisk l hfl D ad T σ hV.1.1.1) (lh_m gL_meanRisk_X6_meanRisk) rfl rfl rfl qv_X6_meanRisk rfl ⟨Nat.le_of_ble_eq_true rfl, Nat.le_of_ble_eq_true rfl⟩ rfl (Nat.le_of_ble_eq_true rfl) ⟨Nat.le_of_ble_eq_true rfl, Nat.le_of_ble_eq_true rfl⟩ dL_meanRisk_3 (fun E h9 => ?_) (fun r h9 => ?_)
  · skip
    have h8 : E = eAR := by unfold sp_mrk at h9; split at h9 <;> cases h9; rfl
    subst h8
    refine ⟨(10, 161, eAR), List.mem_of_getElem? (i := 0) rfl, rfl, fun a => ?_⟩
    refine zg_astore_n X dL_meanRisk_10 (by decide) ?_
    refine zg_iconst X (v := 1) dL_meanRisk_11 (by decide) ?_
    exact zg_iret X hr dL_meanRisk_12 (Nat.le_of_ble_eq_true rfl) (Nat.le_of_ble_eq_true rfl) (⟨σ, g, ⟨rfl, Or.inr ⟨h9, rfl⟩⟩, rfl⟩)
  · skip
    refine zg_dast X (q0 := 32) (t0 := 4) (n := 1) (f := g) rfl rfl (vp_in_nI (n := 0) (N := 1) (by decide) (by decide)) dL_meanRisk_6 (w' := wHd ad ao T σ (vf_upd g 0 r)) rfl ?_
    refine zg_goto X dL_meanRisk_7 (tgt := 13) (by decide) ?_
    refine zg_iconst X (v := 0) dL_meanRisk_13 (by decide) ?_
    exact zg_iret X hr dL_meanRisk_14 (Nat.le_of_ble_eq_true rfl) (Nat.le_of_ble_eq_true rfl) (⟨σ, _, ⟨rfl, Or.inl ⟨r, h9, rfl, rfl⟩⟩, rfl⟩)
