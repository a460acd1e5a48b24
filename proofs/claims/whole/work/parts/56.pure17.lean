section Ao
variable {σ τ : St}
/-- start -/
theorem p_st100 (x y : Int32) : ∀ (k s fu : Nat) (τ : St), s + k = 5 → k < fu → ∃ τ', b_X5_start_100 fu x y (nI s) τ = ((f_X5_call x 0 y τ').bind fun u => some (0, u.2)) ∧ Off [] [2, 3] τ τ' ∧ (∀ j, j < 5 → (s ≤ j → τ'.2 2 j = 0 ∧ τ'.2 3 j = 0) ∧ (j < s → τ'.2 2 j = τ.2 2 j ∧ τ'.2 3 j = τ.2 3 j)) := by
  intro k
  induction k with
  | zero =>
    intro s fu τ hs hf
    obtain ⟨fu, rfl⟩ : ∃ f, fu = f + 1 := ⟨fu - 1, by omega⟩
    have : s = 5 := by omega
    subst this
    exact ⟨τ, by rw [b_X5_start_100, if_pos (by decide)], Off.rf, fun j hj => ⟨fun q => absurd q (by omega), fun _ => ⟨rfl, rfl⟩⟩⟩
  | succ k ih =>
    intro s fu τ hs hf
    obtain ⟨fu, rfl⟩ : ∃ f, fu = f + 1 := ⟨fu - 1, by omega⟩
    have hs5 : s < 5 := by omega
    have p5 := (p_s5 hs5).2.2
    have e0 : vp_nar .boolean 0 = 0 := by decide
    obtain ⟨τ', e1, o1, h9⟩ := ih (s + 1) fu (sA (sA τ 2 (nI s) 0) 3 (nI s) 0) (by omega) (by omega)
    refine ⟨τ', ?_, Off.tr (off_sA (off_sA Off.rf (by simp)) (by simp)) o1, fun j hj => ?_⟩
    · rw [b_X5_start_100, if_neg (p_s5 hs5).2.1, if_pos p5, if_pos p5, nI_1, e0]
      exact e1
    · obtain ⟨y1, y2⟩ := h9 j hj
      refine ⟨fun q => ?_, fun q => ?_⟩
      · by_cases c : j = s
        · obtain ⟨z1, z2⟩ := y2 (by omega)
          rw [z1, z2]
          simp [p_sA2 (show s < 2 ^ 31 by omega), c]
        · exact y1 (by omega)
      · obtain ⟨z1, z2⟩ := y2 (by omega)
        have c : ¬ j = s := by omega
        rw [z1, z2]
        simp [p_sA2 (show s < 2 ^ 31 by omega), c]
theorem a_start (h : Rel σ τ) (x y z o : Int32) : Anv (f_L_start x y z σ o) (f_X5_start x y z τ) := by
  have b1 : b_X5_start_19 x y z τ = some (0, sI τ 0 1) := by
    unfold b_X5_start_19 b_X5_start_36
    rw [if_neg (by decide)]
  unfold f_L_start f_X4_start f_X5_start
  rw [b1]
  rcases p_seg x with ⟨-, hx⟩ | ⟨s, hs, rfl⟩
  · rw [p_reqN hx, Option.bind_some, if_neg x10, Option.bind_some, if_neg x10, if_pos rfl, p_noM hx, Option.bind_some, if_pos rfl]
    exact ⟨_, _, _, _, _, rfl, rfl, rfl, h.code 1⟩
  · rw [p_reqY hs, Option.bind_some, if_pos rfl, p_isM hs, Option.bind_some, if_neg i10]
    by_cases c1 : z < 0
    · rw [if_pos c1, if_pos c1, Option.bind_some, if_neg x10, if_pos rfl]
      exact ⟨_, _, _, _, _, rfl, rfl, rfl, h.code 1⟩
    · rw [if_neg c1, if_neg c1]
      by_cases c2 : z ≤ 4000
      · obtain ⟨lim, hlim, rfl⟩ := nI_of2 (M := 4000) (n := 4000) (by decide) c1 c2
        obtain ⟨n, hd⟩ := h.disk
        obtain ⟨P, hP, e1, e2, -⟩ := p_prs hd (nI s)
        rw [if_pos c2, if_pos c2, e1, Option.bind_some, e2, Option.bind_some]
        by_cases c3 : nI P = 0
        · rw [if_pos c3, if_pos c3, Option.bind_some, if_neg x20, if_neg x21, if_pos rfl]
          unfold b_X5_start_36
          rw [if_neg (by decide)]
          exact ⟨_, _, _, _, _, rfl, rfl, rfl, h.code 2⟩
        · rw [if_neg c3, if_neg c3]
          unfold b_X5_start_36
          rw [if_pos (by decide)]
          obtain ⟨τ0, eτ0⟩ : ∃ w, w = sI (sI (sI (sI (sI (sI (sI (sI (sI (sI (sI τ 0 0) 1 1) 2 (nI lim)) 3 0) 4 0) 5 0) 6 0) 7 0) 8 0) 9 0) 10 0 := ⟨_, rfl⟩
          rw [← eτ0]
          obtain ⟨τ1, f1, o1, hz⟩ := p_st100 (nI s) y 5 0 6 τ0 (by omega) (by omega)
          have f1 : b_X5_start_100 6 (nI s) y 0 τ0 = _ := f1
          obtain ⟨σ1, g1, o2, h0, h1, h2, h3, h4, h5, h6, h7, h8, h9, h10, hr⟩ := p_fresh (nI lim) 1 σ
          have t2 : τ0.2 = τ.2 := by rw [eτ0]; rfl
          have hd1 : DiskR n σ1 τ1 := hd.off (fun a ha => o2.2 a (by simp; omega)) (fun a ha => by rw [o1.2 a (by simp; omega), t2])
          have t7 : τ1.1 7 = 0 := by rw [o1.1 7 (by simp), eτ0]; rfl
          have t8 : τ1.1 8 = 0 := by rw [o1.1 8 (by simp), eτ0]; rfl
          have tl : τ1.1 2 = nI lim := by rw [o1.1 2 (by simp), eτ0]; rfl
          have t1 : τ1.1 1 = 1 := by rw [o1.1 1 (by simp), eτ0]; rfl
          have t3 : τ1.1 3 = 0 := by rw [o1.1 3 (by simp), eτ0]; rfl
          have t4 : τ1.1 4 = 0 := by rw [o1.1 4 (by simp), eτ0]; rfl
          have t5 : τ1.1 5 = 0 := by rw [o1.1 5 (by simp), eτ0]; rfl
          have t6 : τ1.1 6 = 0 := by rw [o1.1 6 (by simp), eτ0]; rfl
          have t9 : τ1.1 9 = 0 := by rw [o1.1 9 (by simp), eτ0]; rfl
          have t10 : τ1.1 10 = 0 := by rw [o1.1 10 (by simp), eτ0]; rfl
          have t0 : τ1.1 0 = 0 := by rw [o1.1 0 (by simp), eτ0]; rfl
          have hf1 : FrR 0 (fun _ => 0) (fun _ => 0) (fun _ => 0) σ1 τ1 := ⟨h9, t7, h10, t8, fun f q => absurd q (by omega), fun f k q => absurd q (by omega), fun f k q => absurd q (by omega)⟩
          have hld0 : hld n 0 (fun _ => 0) (fun _ => 0) (fun _ => false) = 0 := rfl
          have hm1 : MeR n 0 (fun _ => 0) (fun _ => 0) (fun _ => 0) (fun _ => false) lim σ1 τ1 := ⟨fun s2 hs2 => ⟨((hz s2 hs2).1 (by omega)).1, (hr s2 hs2).1, fun q => absurd q Bool.false_ne_true, (hr s2 hs2).2.1⟩, h5, by rw [hld0]; omega, hlim, h4, tl⟩
          have ho1 : OtR σ1 τ1 := ⟨by rw [h6, t4], by rw [h7, t5], by rw [h8, t6], by rw [h1, t9], 0, by omega, h0, t10, fun i hi => absurd hi (by omega)⟩
          have hT1 : TmR σ1 τ1 := ⟨by rw [h3, t3], fun s2 hs2 => by rw [(hr s2 hs2).2.2, ((hz s2 hs2).1 (by omega)).2]⟩
          have hp1 : PlR 0 σ1 τ1 := fun f q => absurd q (by omega)
          unfold f_X3_begin
          rw [g1, Option.bind_some, f1]
          rcases p_call hd1 hf1 hm1 ho1 hT1 (nI s) 0 y with ⟨q1, q2⟩ | ⟨rs1, σ2, τ2, p1, p2, hd2, hf2, hm2, ho2, q1, q2⟩ | ⟨s2, ln, rs1, σ2, τ2, p1, p2, hd2, hf2, hm2, ho2, hT2, ⟨pl, w1, w2⟩, q1, q2⟩
          · rw [q1, Option.bind_some, Option.bind_some, Option.bind_some, if_pos rfl, q2, Option.bind_some]
            exact ⟨_, _, _, _, _, rfl, rfl, t0, Or.inr (Fin.stop hd1 hf1 hp1 hm1 ho1 (by decide) (by decide))⟩
          · rw [q1, Option.bind_some, Option.bind_some, Option.bind_some, if_pos rfl, q2, Option.bind_some]
            exact ⟨_, _, _, _, _, rfl, rfl, by show τ2.1 0 = 0; rw [p2.1 0 (by decide)]; exact t0, Or.inr (Fin.stop hd2 hf2 (fun f q => absurd q (by omega)) hm2 ho2 (by decide) (by decide))⟩
          · rw [q1, Option.bind_some, Option.bind_some, Option.bind_some, if_pos rfl, q2, Option.bind_some]
            refine ⟨_, _, _, _, _, rfl, rfl, by rw [p2.1 0 (by decide)]; exact t0, Or.inr ?_⟩
            have hg : GoR n (0 + 1) _ _ _ rs1 lim σ2 τ2 := ⟨hd2, hf2, hm2, ho2, hT2, by rw [p1.1 2 (by decide)]; exact h2, by rw [p2.1 1 (by decide)]; exact t1, by omega⟩
            refine hg.fin (fun f q => ?_)
            rw [w1, w2, if_pos (by omega), if_pos (by omega)]
      · rw [if_neg c2, if_neg c2, Option.bind_some, if_neg x10, if_pos rfl]
        exact ⟨_, _, _, _, _, rfl, rfl, rfl, h.code 1⟩
/-- step -/
theorem p_steps {N : Nat} (hN : N ≤ 2000) : ∀ (k j fu : Nat) (σ τ : St), j + k = N → k < fu → Fin σ τ → τ.1 0 = 0 → ∃ r σ' τ', b_X4_step_43 fu (nI N) (nI j) σ = some ((0, r), σ') ∧ b_X5_step_33 fu (nI N) (nI j) τ = some (r, τ') ∧ Fin σ' τ' ∧ τ'.1 0 = 0 := by
  intro k
  induction k with
  | zero =>
    intro j fu σ τ hj hf h h0
    obtain ⟨fu, rfl⟩ : ∃ f, fu = f + 1 := ⟨fu - 1, by omega⟩
    have : j = N := by omega
    subst this
    have c : nI j ≤ nI j := nI_le (Nat.le_refl _) (by omega)
    refine ⟨nI j, σ, τ, ?_, ?_, h, h0⟩
    · rw [b_X4_step_43, if_pos c]
    · rw [b_X5_step_33, p_gI, h0, if_pos rfl, if_pos c]
  | succ k ih =>
    intro j fu σ τ hj hf h h0
    obtain ⟨fu, rfl⟩ : ∃ f, fu = f + 1 := ⟨fu - 1, by omega⟩
    have c : ¬ nI N ≤ nI j := nI_ge (by omega) (by omega)
    have hst : σ.1 2 = τ.1 1 := by
      obtain ⟨n, F, sg, L, be, rs, lim, hd, hf, hp, hm, ho, h2, h3, h4⟩ := h
      exact h2
    rw [b_X4_step_43, b_X5_step_33, if_neg c, p_gI, h0, if_pos rfl, if_neg c]
    unfold f_X3_status
    rw [Option.bind_some, p_gI, p_gI, ← hst]
    by_cases c1 : σ.1 2 = 1
    · obtain ⟨σ1, τ1, e1, e2, h3, h4⟩ := p_one h c1
      rw [if_pos c1, if_pos c1, e1, Option.bind_some, e2, Option.bind_some, nI_1]
      exact ih (j + 1) fu σ1 τ1 (by omega) (by omega) h3 (h4.trans h0)
    · rw [if_neg c1, if_neg c1]
      exact ⟨nI j, σ, τ, rfl, rfl, h, h0⟩
theorem p_st33 {x z : Int32} (hz : ¬ z = 0) : b_X5_step_28 x z τ = some (0, sI τ 0 z) := by
  unfold b_X5_step_28
  rw [b_X5_step_33, if_neg (show ¬ gI (sI τ 0 z) 0 = 0 from hz)]
theorem a_step (h : Rel σ τ) (x o : Int32) : Ans (f_L_step x σ o) (f_X5_step x τ) := by
  unfold f_L_step f_X4_step f_X5_step f_X3_status b_X5_step_23
  rw [Option.bind_some, p_st33 (by decide), p_st33 (by decide), p_gI, p_gI]
  rcases h with h | h
  · have h2 := h
    obtain ⟨n, hd, h1, h3, h4⟩ := h2
    rw [h3 2 (by omega), if_pos rfl, h1, if_pos rfl, Option.bind_some, if_neg x20, if_pos rfl]
    exact ⟨_, _, _, _, _, rfl, rfl, rfl, fun q => absurd q (by decide), Or.inl (h.code 1)⟩
  · have hst : σ.1 2 = τ.1 1 ∧ ¬ σ.1 2 = 0 := by
      obtain ⟨n, F, sg, L, be, rs, lim, hd, hf, hp, hm, ho, h2, h3, h4⟩ := h
      exact ⟨h2, h3⟩
    rw [← hst.1, if_neg hst.2, if_neg hst.2]
    by_cases c1 : x < 0
    · rw [if_pos c1, if_pos c1, Option.bind_some, if_neg x10, if_neg x12, if_pos rfl]
      exact ⟨_, _, _, _, _, rfl, rfl, rfl, fun q => absurd q (by decide), Or.inr (h.code 2)⟩
    · rw [if_neg c1, if_neg c1]
      by_cases c2 : x ≤ 2000
      · obtain ⟨N, hN, rfl⟩ := nI_of2 (M := 2000) (n := 2000) (by decide) c1 c2
        obtain ⟨r, σ', τ', e1, e2, h3, h4⟩ := p_steps hN N 0 2002 σ (sI τ 0 0) (by omega) (by omega) (h.code 0) rfl
        have e1 : b_X4_step_43 2002 (nI N) 0 σ = _ := e1
        have e2 : b_X5_step_33 2002 (nI N) 0 (sI τ 0 0) = _ := e2
        unfold b_X5_step_28
        rw [if_pos c2, if_pos c2, e1, Option.bind_some, if_pos rfl, e2]
        exact ⟨_, _, _, _, _, rfl, rfl, h4, fun _ => rfl, Or.inr h3⟩
      · rw [if_neg c2, if_neg c2, Option.bind_some, if_neg x10, if_neg x12, if_pos rfl]
        exact ⟨_, _, _, _, _, rfl, rfl, rfl, fun q => absurd q (by decide), Or.inr (h.code 2)⟩
/-- look -/
theorem p_fact {x : Nat} (hx : x ≤ 10) (h : Rel σ τ) (hc : τ.1 0 = 0) : ∃ r, f_X3_fact (nI x) σ = some r ∧ (if nI x = 6 then b_X5_look_40 (nI x) τ else if nI x = 7 then b_X5_look_40 (nI x) τ else b_X5_look_45 (nI x) 0 τ) = some (r, τ) := by
  have hx' : x = 0 ∨ x = 1 ∨ x = 2 ∨ x = 3 ∨ x = 4 ∨ x = 5 ∨ x = 6 ∨ x = 7 ∨ x = 8 ∨ x = 9 ∨ x = 10 := by omega
  rcases h with ⟨n, hd, h1, h3, h4⟩ | ⟨n, F, sg, L, be, rs, lim, hd, hf, hp, hm, ho, h2, h3, h4⟩
  · have g9 : gI σ 9 = 0 := h3 9 (by omega)
    have g1 : gI τ 1 = 0 := h1
    have y1 : f_X1_latestSegment σ = some (-1) := by unfold f_X1_latestSegment; rw [g9, if_pos (by decide)]
    have y2 : f_X1_latestPlace σ = some (-1) := by unfold f_X1_latestPlace; rw [g9, if_pos (by decide)]
    have y3 : f_X1_depth σ = some 0 := by unfold f_X1_depth; rw [g9, if_pos (by decide)]
    have q0 : gI σ 0 = 0 := h3 0 (by omega)
    have q1 : gI σ 1 = 0 := h3 1 (by omega)
    have q2 : gI σ 2 = 0 := h3 2 (by omega)
    have q5 : gI σ 5 = 0 := h3 5 (by omega)
    have q6 : gI σ 6 = 0 := h3 6 (by omega)
    have q7 : gI σ 7 = 0 := h3 7 (by omega)
    have q8 : gI σ 8 = 0 := h3 8 (by omega)
    unfold b_X5_look_40 b_X5_look_45
    rw [g1, if_pos rfl, if_pos rfl, if_neg i10]
    rcases hx' with rfl | rfl | rfl | rfl | rfl | rfl | rfl | rfl | rfl | rfl | rfl <;> simp (decide := true) [f_X3_fact, f_X2_held, f_X2_most, f_X2_loads, f_X2_gone, f_X1_count, y1, y2, y3, q0, q1, q2, q5, q6, q7, q8, g9]
  · obtain ⟨F5, W1⟩ := FrR.F_le hm
    have g1 : ¬ gI τ 1 = 0 := by rw [p_gI, ← h2]; exact h3
    have g7 : gI τ 7 = nI F := hf.2.1
    have g9 : gI σ 9 = nI F := hf.1
    have hh : f_X5_held τ = some (nI (hld n F L be rs)) := p_held F5 hf.2.1 hf.2.2.2.1 (fun f q => (hf.2.2.2.2.1 f q).2.2.2.2.2.2.2.1) (fun s hs => (hd s hs).2.2.1) (fun s hs => (hm.1 s hs).1)
    obtain ⟨o1, o2, o3, o4, P, hP, o5, o6, o7⟩ := ho
    unfold b_X5_look_40 b_X5_look_45
    rw [if_neg g1, if_neg g1, g7, if_pos rfl, if_neg i10]
    have q0 : gI σ 0 = nI P := o5
    have q1 : gI σ 1 = τ.1 9 := o4
    have q2 : gI σ 2 = τ.1 1 := h2
    have q5 : gI σ 5 = nI (hld n F L be rs) := hm.2.1
    have q6 : gI σ 6 = τ.1 4 := o1
    have q7 : gI σ 7 = τ.1 5 := o2
    have q8 : gI σ 8 = τ.1 6 := o3
    have t10 : gI τ 10 = nI P := o6
    by_cases cF : F = 0
    · subst cF
      have cn : ¬ (0 : Int32) ≤ nI 0 - 1 := by decide
      have y1 : f_X1_latestSegment σ = some (-1) := by unfold f_X1_latestSegment; rw [g9, if_pos (by decide)]
      have y2 : f_X1_latestPlace σ = some (-1) := by unfold f_X1_latestPlace; rw [g9, if_pos (by decide)]
      have y3 : f_X1_depth σ = some 0 := by unfold f_X1_depth; rw [g9, if_pos (by decide)]
      rw [if_neg cn, if_neg cn]
      rcases hx' with rfl | rfl | rfl | rfl | rfl | rfl | rfl | rfl | rfl | rfl | rfl <;> simp (decide := true) [f_X3_fact, f_X2_held, f_X2_most, f_X2_loads, f_X2_gone, f_X1_count, y1, y2, y3, q0, q1, q2, q5, q6, q7, q8, g9, b_X5_look_80, hh, t10, g7, p_gI, cn]
    · have e7 : nI F - 1 = nI (F - 1) := p_sub (b := 1) (by omega)
      have cy : (0 : Int32) ≤ nI (F - 1) := nI_le (a := 0) (by omega) (by omega)
      have hF : 1 ≤ F := by omega
      have y1 := p_lseg hF hm hf
      have y2 := p_lplc hF hm hf
      have y3 := p_dep hF hm hf
      have y4 := p_depM hF hm hf
      have hin : inB (nI (F - 1)) 520 = true := p_in (by omega) (by decide)
      have a4 : gA τ 4 (nI (F - 1)) = nI (sg (F - 1)) := by rw [p_gA (by omega)]; exact (p_F1 hF hf).2.2.2.2.1
      have a5 : gA τ 5 (nI (F - 1)) = σ.2 6 (F - 1) := by rw [p_gA (by omega)]; exact (hp (F - 1) (by omega)).symm
      have a8 : gI τ 8 - gA τ 8 (nI (F - 1)) = nI (be F - be (F - 1)) := by rw [p_gA (by omega)]; exact y4
      rw [e7, if_pos cy, if_pos cy]
      have t1 : gI τ 1 = τ.1 1 := rfl
      have t4 : gI τ 4 = τ.1 4 := rfl
      have t5 : gI τ 5 = τ.1 5 := rfl
      have t6 : gI τ 6 = τ.1 6 := rfl
      have t9 : gI τ 9 = τ.1 9 := rfl
      rcases hx' with rfl | rfl | rfl | rfl | rfl | rfl | rfl | rfl | rfl | rfl | rfl <;> simp (decide := true) [f_X3_fact, f_X2_held, f_X2_most, f_X2_loads, f_X2_gone, f_X1_count, y1, y2, y3, q0, q1, q2, q5, q6, q7, q8, g9, b_X5_look_80, hh, t10, g7, t1, t4, t5, t6, t9, hin, a4, a5, a8, cy]
theorem a_look (h : Rel σ τ) (x o : Int32) : Ans (f_L_look x σ o) (f_X5_look x τ) := by
  have b1 : b_X5_look_11 x τ = some (0, sI τ 0 1) := by
    unfold b_X5_look_11 b_X5_look_16
    rw [if_neg (by decide)]
  unfold f_L_look f_X4_look f_X5_look
  rw [b1]
  by_cases c1 : x < 0
  · rw [if_pos c1, if_pos c1, Option.bind_some, if_neg x10, if_pos rfl]
    exact ⟨_, _, _, _, _, rfl, rfl, rfl, fun q => absurd q (by decide), h.code 1⟩
  · rw [if_neg c1, if_neg c1]
    by_cases c2 : x ≤ 10
    · obtain ⟨N, hN, rfl⟩ := nI_of2 (M := 10) (n := 10) (by decide) c1 c2
      obtain ⟨r, e1, e2⟩ := p_fact (σ := σ) (τ := sI τ 0 0) hN (h.code 0) rfl
      unfold b_X5_look_16
      rw [if_pos c2, if_pos c2, if_pos (by decide), e1, Option.bind_some, Option.bind_some, if_pos rfl, e2]
      exact ⟨_, _, _, _, _, rfl, rfl, rfl, fun _ => rfl, h.code 0⟩
    · rw [if_neg c2, if_neg c2, Option.bind_some, if_neg x10, if_pos rfl]
      exact ⟨_, _, _, _, _, rfl, rfl, rfl, fun q => absurd q (by decide), h.code 1⟩
/-- state -/
theorem a_state (h : Rel σ τ) (x o : Int32) : Ans (f_L_state x σ o) (f_X5_state x τ) := by
  unfold f_L_state f_X4_state f_X5_state
  rcases p_seg x with ⟨-, hx⟩ | ⟨s, hs, rfl⟩
  · rw [p_reqN hx, Option.bind_some, if_neg x10, Option.bind_some, if_neg x10, if_pos rfl, p_noM hx, Option.bind_some, if_pos rfl]
    unfold b_X5_state_13
    rw [if_pos (by decide)]
    exact ⟨_, _, _, _, _, rfl, rfl, rfl, fun q => absurd q (by decide), h.code 1⟩
  · rw [p_reqY hs, Option.bind_some, if_pos rfl, p_isM hs, Option.bind_some, if_neg i10]
    have p5 := (p_s5 hs).2.2
    unfold b_X5_state_13
    rw [if_neg (by decide), if_pos p5]
    have h' := h
    rcases h' with ⟨n, hd, h1, h3, h4⟩ | ⟨n, F, sg, L, be, rs, lim, hd, hf, hp, hm, ho, h2, h3, h4⟩
    · have g1 : gI τ 1 = 0 := h1
      have eR : f_X2_isResident (nI s) σ = some 0 := by
        unfold f_X2_isResident
        rw [p_isC hs, Option.bind_some, if_neg i10, if_pos p5, p_gA (by omega), (h4 s hs).1, if_pos (by decide)]
      have eA : f_X2_isActive (nI s) σ = some 0 := by
        unfold f_X2_isActive
        rw [p_isC hs, Option.bind_some, if_neg i10, if_pos p5, p_gA (by omega), (h4 s hs).2, if_pos (by decide)]
      unfold f_X3_stateOf b_X3_stateOf_16
      rw [g1, if_pos rfl, eR, Option.bind_some, if_pos rfl, eA, Option.bind_some, if_pos rfl, Option.bind_some, Option.bind_some, if_pos rfl]
      exact ⟨_, _, _, _, _, rfl, rfl, rfl, fun _ => rfl, h.code 0⟩
    · obtain ⟨F5, W1⟩ := FrR.F_le hm
      have g1 : ¬ gI τ 1 = 0 := by rw [p_gI, ← h2]; exact h3
      obtain ⟨r1, r2, r3, r4⟩ := hm.1 s hs
      have hcl := cnt_le sg s F
      have hA : f_X5_isActive (nI s) (sI τ 0 0) = some (if 0 < cnt sg s F then 1 else 0) := p_act (τ := sI τ 0 0) F5 (show τ.1 7 = nI F from hf.2.1) (fun f q => ⟨(hf.2.2.2.2.1 f q).1, (hf.2.2.2.2.1 f q).2.2.2.2.1⟩) hs
      have eR : f_X2_isResident (nI s) σ = some (bI (rs s)) := by
        unfold f_X2_isResident
        rw [p_isC hs, Option.bind_some, if_neg i10, if_pos p5, p_gA (by omega), r2]
        by_cases c : rs s = true
        · have e1 : rsz n rs s = n s := by unfold rsz; rw [if_pos c]
          have hn := (hd s hs).1
          rw [e1, if_neg (nI_nle (r3 c) (by omega)), c]
          rfl
        · have c' : rs s = false := by simpa using c
          have e1 : rsz n rs s = 0 := by unfold rsz; rw [c']; rfl
          rw [e1, if_pos (by decide), c']
          rfl
      have eA : f_X2_isActive (nI s) σ = some (if 0 < cnt sg s F then 1 else 0) := by
        unfold f_X2_isActive
        rw [p_isC hs, Option.bind_some, if_neg i10, if_pos p5, p_gA (by omega), r4]
        by_cases c : 0 < cnt sg s F
        · rw [if_pos c, if_neg (nI_nle c (by omega))]
        · have e : cnt sg s F = 0 := by omega
          rw [if_neg c, e, if_pos (by decide)]
      have g2 : gA τ 2 (nI s) = bI (rs s) := by rw [p_gA (by omega)]; exact r1
      unfold f_X3_stateOf b_X3_stateOf_16 b_X5_state_46
      rw [if_neg g1, eR, Option.bind_some, eA, hA, g2, Option.bind_some, Option.bind_some, Option.bind_some, Option.bind_some]
      refine ⟨0, σ, bI (rs s) + (if 0 < cnt sg s F then 2 else 0), bI (rs s) + (if 0 < cnt sg s F then 2 else 0), sI τ 0 0, ?_, ?_, rfl, fun _ => rfl, h.code 0⟩
      · by_cases c : rs s = true
        · rw [c]
          by_cases c2 : 0 < cnt sg s F
          · simp (decide := true) [bI, c2]
          · simp (decide := true) [bI, c2]
        · have c' : rs s = false := by simpa using c
          rw [c']
          by_cases c2 : 0 < cnt sg s F
          · simp (decide := true) [bI, c2]
          · simp (decide := true) [bI, c2]
      · by_cases c : rs s = true
        · rw [c]
          by_cases c2 : 0 < cnt sg s F
          · simp (decide := true) [bI, c2]
          · simp (decide := true) [bI, c2]
        · have c' : rs s = false := by simpa using c
          rw [c']
          by_cases c2 : 0 < cnt sg s F
          · simp (decide := true) [bI, c2]
          · simp (decide := true) [bI, c2]
/-- out -/
theorem a_out (h : Rel σ τ) (x o : Int32) : Ans (f_L_out x σ o) (f_X5_out x τ) := by
  unfold f_L_out f_X4_out f_X5_out f_X3_outCount
  have h' := h
  rcases h' with ⟨n, hd, h1, h3, h4⟩ | ⟨n, F, sg, L, be, rs, lim, hd, hf, hp, hm, ho, h2, h3, h4⟩
  · have g1 : gI τ 1 = 0 := h1
    have g0 : gI σ 0 = 0 := h3 0 (by omega)
    rw [g1, if_pos rfl, Option.bind_some, g0]
    by_cases c : x < 0
    · rw [if_pos c, Option.bind_some, if_neg x30, if_pos rfl]
      exact ⟨_, _, _, _, _, rfl, rfl, rfl, fun q => absurd q (by decide), h.code 1⟩
    · rw [if_neg c, if_neg c, Option.bind_some, if_neg x30, if_pos rfl]
      exact ⟨_, _, _, _, _, rfl, rfl, rfl, fun q => absurd q (by decide), h.code 1⟩
  · have g1 : ¬ gI τ 1 = 0 := by rw [p_gI, ← h2]; exact h3
    obtain ⟨-, -, -, -, P, hP, o5, o6, o7⟩ := ho
    have g0 : gI σ 0 = nI P := o5
    have g10 : gI τ 10 = nI P := o6
    rw [if_neg g1, Option.bind_some, g0, g10]
    rcases p_ix x (k := P) (by omega) with c | ⟨i, hi, rfl⟩
    · by_cases c1 : x < 0
      · rw [if_pos c1, if_pos c1, Option.bind_some, if_neg x30, if_pos rfl]
        exact ⟨_, _, _, _, _, rfl, rfl, rfl, fun q => absurd q (by decide), h.code 1⟩
      · have c2 : ¬ x < nI P := fun q => i_lt_le.mpr (c.resolve_left c1) q
        rw [if_neg c1, if_neg c1, if_neg c2, if_neg c2, Option.bind_some, if_neg x30, if_pos rfl]
        exact ⟨_, _, _, _, _, rfl, rfl, rfl, fun q => absurd q (by decide), h.code 1⟩
    · have c2 : nI i < nI P := nI_lt hi (by omega)
      have c3 : ¬ nI P ≤ nI i := nI_ge hi (by omega)
      have hin : inB (nI i) 40 = true := p_in (by omega) (by decide)
      unfold f_X3_outAt
      rw [if_neg (p_n0 (by omega)), if_neg (p_n0 (by omega)), if_neg (p_n0 (by omega)), if_pos c2, if_pos c2, g0, if_neg c3, if_pos hin, Option.bind_some, Option.bind_some, if_pos rfl, if_pos hin, p_gA (by omega), p_gA (by omega)]
      exact ⟨_, _, _, _, _, rfl, rfl, rfl, fun _ => o7 i hi, h.code 0⟩
/-- local -/
theorem a_local (h : Rel σ τ) (x y : Int32) : ∃ r, f_X4_local x y σ = some r ∧ f_X5_local x y τ = some (r, sI τ 0 0) := by
  unfold f_X4_local f_X3_localAt f_X5_local
  rcases h with ⟨n, hd, h1, h3, h4⟩ | ⟨n, F, sg, L, be, rs, lim, hd, hf, hp, hm, ho, h2, h3, h4⟩
  · have g1 : gI τ 1 = 0 := h1
    have g9 : gI σ 9 = 0 := h3 9 (by omega)
    refine ⟨0, ?_, by rw [if_pos g1]⟩
    have e : f_X1_hasLocal x y σ = some 0 := by
      unfold f_X1_hasLocal
      rw [g9]
      by_cases c : x < 0
      · rw [if_pos c]
      · rw [if_neg c, if_pos (i_lt_le.mp c)]
    unfold f_X1_localAt
    rw [e, Option.bind_some, if_pos rfl, Option.bind_some, Option.bind_some]
  · obtain ⟨F5, W1⟩ := FrR.F_le hm
    have g1 : ¬ gI τ 1 = 0 := by rw [p_gI, ← h2]; exact h3
    have g7 : gI τ 7 = nI F := hf.2.1
    have g9 : gI σ 9 = nI F := hf.1
    rw [if_neg g1, g7]
    rcases p_ix x (k := F) (by omega) with c | ⟨f, hF, rfl⟩
    · refine ⟨0, ?_, ?_⟩
      · have e : f_X1_hasLocal x y σ = some 0 := by
          unfold f_X1_hasLocal
          rw [g9]
          by_cases c1 : x < 0
          · rw [if_pos c1]
          · rw [if_neg c1, if_pos (c.resolve_left c1)]
        unfold f_X1_localAt
        rw [e, Option.bind_some, if_pos rfl, Option.bind_some, Option.bind_some]
      · by_cases c1 : x < 0
        · rw [if_pos c1]
        · rw [if_neg c1, if_pos (c.resolve_left c1)]
    · have hL := (hf.2.2.2.2.1 f hF).2.1
      have g6 : gA τ 6 (nI f) = nI (L f) := by rw [p_gA (by omega)]; exact (hf.2.2.2.2.1 f hF).2.2.2.2.2.2.2.1
      rw [if_neg (p_n0 (by omega)), if_neg (nI_ge hF (by omega)), if_pos (p_in (n := 520) (by omega) (by decide)), g6]
      rcases p_ix y (k := L f) (by omega) with c | ⟨k, hk, rfl⟩
      · refine ⟨0, ?_, ?_⟩
        · unfold f_X1_localAt
          rw [p_hasN hf F5 hF c, Option.bind_some, if_pos rfl, Option.bind_some, Option.bind_some]
        · by_cases c1 : y < 0
          · rw [if_pos c1]
          · rw [if_neg c1, if_neg (fun q => i_lt_le.mpr (c.resolve_left c1) q)]
      · have e7 : (6 : Int32) * nI f + nI k = nI (6 * f + k) := by rw [show (6 : Int32) = nI 6 from rfl, pk_mul, nI_add]
        refine ⟨τ.2 7 (6 * f + k), ?_, ?_⟩
        · rw [p_locR hf hm hF hk, Option.bind_some, Option.bind_some]
        · rw [if_neg (p_n0 (by omega)), if_pos (nI_lt hk (by omega)), e7, if_pos (p_in (n := 3120) (by omega) (by decide)), p_gA (by omega)]
end Ao
/-- as both begin -/
theorem Rel.zero {σ τ : St} (h1 : ∀ k, k ≤ 10 → σ.1 k = 0) (h2 : τ.1 1 = 0) (h3 : ∀ a i, a ≤ 9 → σ.2 a i = 0) (h4 : ∀ i, τ.2 1 i = 0) : Rel σ τ :=
  Or.inl ⟨fun _ => 0, fun s hs => ⟨Nat.zero_le _, h3 0 s (by omega), h4 s, fun i hi => absurd hi (Nat.not_lt_zero _)⟩, h2, h1, fun s hs => ⟨h3 2 s (by omega), h3 3 s (by omega)⟩⟩
