section Pp
variable {n : Nat → Nat} {F lim : Nat} {sg L be : Nat → Nat} {rs : Nat → Bool} {σ τ σ1 τ1 : St}
/-- the latest frame's numbers -/
theorem p_last (hF : 1 ≤ F) (hm : MeR n F sg L be rs lim σ τ) (hf : FrR F sg L be σ τ) : ¬ σ.1 9 ≤ 0 ∧ σ.1 9 - 1 = nI (F - 1) ∧ inB (nI (F - 1)) 500 = true ∧ inB (nI (F - 1)) 520 = true ∧ τ.1 7 - 1 = nI (F - 1) := by
  obtain ⟨F5, W1⟩ := FrR.F_le hm
  obtain ⟨a1, a2, -⟩ := hf
  refine ⟨?_, ?_, p_in (by omega) (by decide), p_in (by omega) (by decide), ?_⟩
  · rw [a1]; exact nI_nle (by omega) (by omega)
  · rw [a1, show (1 : Int32) = nI 1 from rfl, p_sub (by omega)]
  · rw [a2, show (1 : Int32) = nI 1 from rfl, p_sub (by omega)]
theorem p_F1 (hF : 1 ≤ F) (hf : FrR F sg L be σ τ) : sg (F - 1) < 5 ∧ L (F - 1) ≤ 6 ∧ be (F - 1) ≤ be F ∧ σ.2 5 (F - 1) = nI (sg (F - 1)) ∧ τ.2 4 (F - 1) = nI (sg (F - 1)) ∧ True ∧ σ.2 7 (F - 1) = nI (L (F - 1)) ∧ τ.2 6 (F - 1) = nI (L (F - 1)) ∧ σ.2 8 (F - 1) = nI (be (F - 1) + sm L (F - 1)) ∧ τ.2 8 (F - 1) = nI (be (F - 1)) ∧ sm L F = sm L (F - 1) + L (F - 1) := by
  obtain ⟨-, -, -, -, a5, -⟩ := hf
  have h := a5 (F - 1) (by omega)
  have e : F - 1 + 1 = F := by omega
  rw [e] at h
  obtain ⟨g1, g2, g3, g4, g5, g6, g7, g8, g9, g10⟩ := h
  refine ⟨g1, g2, g3, g4, g5, g6, g7, g8, g9, g10, ?_⟩
  have : sm L (F - 1 + 1) = sm L (F - 1) + L (F - 1) := rfl
  rw [e] at this
  exact this
theorem p_lseg (hF : 1 ≤ F) (hm : MeR n F sg L be rs lim σ τ) (hf : FrR F sg L be σ τ) : f_X1_latestSegment σ = some (nI (sg (F - 1))) := by
  obtain ⟨l1, l2, l3, -, -⟩ := p_last hF hm hf
  unfold f_X1_latestSegment
  rw [p_gI, if_neg l1, l2, if_pos l3, p_gA (by have := FrR.F_le hm; omega), (p_F1 hF hf).2.2.2.1]
theorem p_lplc (hF : 1 ≤ F) (hm : MeR n F sg L be rs lim σ τ) (hf : FrR F sg L be σ τ) : f_X1_latestPlace σ = some (σ.2 6 (F - 1)) := by
  obtain ⟨l1, l2, l3, -, -⟩ := p_last hF hm hf
  unfold f_X1_latestPlace
  rw [p_gI, if_neg l1, l2, if_pos l3, p_gA (by have := FrR.F_le hm; omega)]
theorem p_lloc (hF : 1 ≤ F) (hm : MeR n F sg L be rs lim σ τ) (hf : FrR F sg L be σ τ) : f_X1_latestLocals σ = some (nI (L (F - 1))) := by
  obtain ⟨l1, l2, l3, -, -⟩ := p_last hF hm hf
  unfold f_X1_latestLocals
  rw [p_gI, if_neg l1, l2, if_pos l3, p_gA (by have := FrR.F_le hm; omega), (p_F1 hF hf).2.2.2.2.2.2.1]
theorem p_dep (hF : 1 ≤ F) (hm : MeR n F sg L be rs lim σ τ) (hf : FrR F sg L be σ τ) : f_X1_depth σ = some (nI (be F - be (F - 1))) := by
  obtain ⟨l1, l2, l3, -, -⟩ := p_last hF hm hf
  obtain ⟨F5, W1⟩ := FrR.F_le hm
  obtain ⟨-, -, g3, -, -, -, g7, -, g9, -, gs⟩ := p_F1 hF hf
  unfold f_X1_depth
  rw [p_gI, p_gI, if_neg l1, l2, if_pos l3, if_pos l3, p_gA (by omega), p_gA (by omega), g9, g7, hf.2.2.1, p_sub (by omega), p_sub (by omega)]
  congr 2
  omega
theorem p_depM (hF : 1 ≤ F) (hm : MeR n F sg L be rs lim σ τ) (hf : FrR F sg L be σ τ) : gI τ 8 - τ.2 8 (F - 1) = nI (be F - be (F - 1)) := by
  obtain ⟨-, -, g3, -, -, -, -, -, -, g10, -⟩ := p_F1 hF hf
  rw [p_gI, hf.2.2.2.1, g10, p_sub g3]
/-- a number is taken -/
theorem FrR.pop (hf : FrR F sg L be σ τ) (hF : 1 ≤ F) (hd : be (F - 1) < be F) (h10 : σ1.1 10 = nI (be F + sm L F - 1)) (hs9 : σ1.1 9 = σ.1 9) (hs : σ1.2 = σ.2) (t8 : τ1.1 8 = nI (be F - 1)) (t7 : τ1.1 7 = τ.1 7) (ht : τ1.2 = τ.2) : FrR F sg L (upF be F (be F - 1)) σ1 τ1 := by
  obtain ⟨b1, b2, b3, b4, b5, b6, b7⟩ := hf
  refine ⟨hs9.trans b1, t7.trans b2, by rw [upF_s, h10]; congr 1; omega, by rw [upF_s, t8], fun f q => ?_, fun f k q hk => ?_, fun f j q hj1 hj2 => ?_⟩
  · obtain ⟨g1, g2, g3, g4, g5, g6, g7, g8, g9, g10⟩ := b5 f q
    have eb : upF be F (be F - 1) f = be f := upF_n (by omega)
    rw [eb, hs, ht]
    refine ⟨g1, g2, ?_, g4, g5, g6, g7, g8, g9, g10⟩
    by_cases hfF : f + 1 = F
    · have : F - 1 = f := by omega
      rw [this] at hd
      rw [hfF, upF_s]
      omega
    · rw [upF_n hfF]
      exact g3
  · have eb : upF be F (be F - 1) f = be f := upF_n (by omega)
    rw [eb, hs, ht]
    exact b6 f k q hk
  · have eb : upF be F (be F - 1) f = be f := upF_n (by omega)
    rw [eb] at hj1
    rw [hs, ht]
    refine b7 f j q hj1 ?_
    by_cases hfF : f + 1 = F
    · rw [hfF, upF_s] at hj2
      rw [hfF]
      omega
    · rw [upF_n hfF] at hj2
      exact hj2
/-- both take a number -/
theorem p_take (hF : 1 ≤ F) (hf : FrR F sg L be σ τ) (hm : MeR n F sg L be rs lim σ τ) (ho : OtR σ τ) (hT : TmR σ τ) (hd : be (F - 1) < be F) :
    ∃ v σ1 τ1, Off [5, 10] [] σ σ1 ∧ Off [8] [] τ τ1 ∧ FrR F sg L (upF be F (be F - 1)) σ1 τ1 ∧ MeR n F sg L (upF be F (be F - 1)) rs lim σ1 τ1 ∧ OtR σ1 τ1 ∧ TmR σ1 τ1 ∧ f_X3_take σ = some (v, σ1) ∧ f_X5_pop τ = some (v, τ1) := by
  obtain ⟨F5, W1⟩ := FrR.F_le hm
  obtain ⟨-, -, g3, -, -, -, g7, -, g9, -, gs⟩ := p_F1 hF hf
  obtain ⟨c1, c2, c3, c4, c5, c6⟩ := id hm
  have eh : hld n F L (upF be F (be F - 1)) rs + 4 = hld n F L be rs := by
    have := hld_N (n := n) (F := F) (L := L) (be := be) (rs := rs) (N := be F - 1)
    omega
  have hm0 : MeR n F sg L be rs lim σ τ := hm
  have hdep : f_X1_depth (sI σ 5 (nI (hld n F L be rs - 4))) = some (nI (be F - be (F - 1))) := by
    have := p_dep hF hm hf
    exact this
  have hv := hf.2.2.2.2.2.2 (F - 1) (be F - 1) (by omega) (by omega) (by rw [show F - 1 + 1 = F by omega]; omega)
  rw [show F - 1 + 1 = F by omega] at hv
  have eC : f_X3_take σ = some (τ.2 9 (be F - 1), sI (sI σ 5 (nI (hld n F L be rs - 4))) 10 (nI (be F + sm L F - 1))) := by
    unfold f_X3_take f_X2_dropNumber
    rw [Option.bind_some, p_gI, c2, show (4 : Int32) = nI 4 from rfl, p_sub (by omega)]
    unfold f_X1_pop
    have e10 : gI (sI σ 5 (nI (hld n F L be rs - 4))) 10 = nI (be F + sm L F) := hf.2.2.1
    have e1 : nI (be F + sm L F) - 1 = nI (be F + sm L F - 1) := p_sub (b := 1) (by omega)
    have hpos : (0 : Int32) < nI (be F - be (F - 1)) := nI_lt (a := 0) (by omega) (by omega)
    have e9 : gA (sI σ 5 (nI (hld n F L be rs - 4))) 9 (nI (be F + sm L F - 1)) = τ.2 9 (be F - 1) := by
      rw [p_gA (by omega), p_sI2, show be F + sm L F - 1 = be F - 1 + sm L F by omega, hv]
    show ((f_X1_depth (sI σ 5 (nI (hld n F L be rs - 4)))).bind _).bind _ = _
    rw [hdep, Option.bind_some, if_pos hpos, e10, e1, if_pos (p_in (n := 1000) (by omega) (by decide)), Option.bind_some, e9]
  have eM : f_X5_pop τ = some (τ.2 9 (be F - 1), sI τ 8 (nI (be F - 1))) := by
    unfold f_X5_pop
    have e1 : nI (be F) - 1 = nI (be F - 1) := p_sub (b := 1) (by omega)
    rw [p_gI, hf.2.2.2.1, e1, if_pos (p_in (n := 1010) (by omega) (by decide)), p_gA (by omega)]
  refine ⟨_, _, _, ?_, ?_, ?_, ?_, ?_, ?_, eC, eM⟩
  · exact off_sI (off_sI Off.rf (by decide)) (by decide)
  · exact off_sI Off.rf (by decide)
  · exact hf.pop hF hd rfl rfl rfl rfl rfl rfl
  · refine ⟨c1, ?_, by omega, c4, c5, c6⟩
    show nI (hld n F L be rs - 4) = _
    congr 1
    omega
  · exact ho
  · exact hT
theorem p_move (hF : 1 ≤ F) (hm : MeR n F sg L be rs lim σ τ) (hf : FrR F sg L be σ τ) (v : Int32) : f_X1_moveTo v σ = some (0, sA σ 6 (nI (F - 1)) v) := by
  obtain ⟨l1, l2, l3, -, -⟩ := p_last hF hm hf
  unfold f_X1_moveTo
  rw [p_gI, if_neg l1, l2, if_pos l3]
end Pp
