section Oc
variable {n : Nat → Nat} {F lim : Nat} {sg L be : Nat → Nat} {rs : Nat → Bool} {σ τ σ1 τ1 : St}
/-- what both read at the place: nothing that can be done, or an operation -/
theorem p_front (hg : GoR n F sg L be rs lim σ τ) (hp : PlR F σ τ) :
    (f_X3_doInstruction σ = some (0, sI σ 2 3) ∧ f_X5_one τ = some (0, sI τ 1 3)) ∨
    ∃ o i : Nat, o < 13 ∧ σ.2 6 (F - 1) = nI i ∧ τ.2 5 (F - 1) = nI i ∧ i + lenN o ≤ n (sg (F - 1)) ∧ takN o ≤ be F - be (F - 1) ∧
      f_X3_doInstruction σ = dI (nI (sg (F - 1))) (nI i) (nI o) σ ∧ f_X5_one τ = b_X5_one_121 (nI (F - 1)) (nI (sg (F - 1))) (nI i) (nI o) 1 τ := by
  obtain ⟨hd, hf, hm, ho, hT, s2, t1, hF⟩ := id hg
  obtain ⟨F5, W1⟩ := FrR.F_le hm
  obtain ⟨l1, l2, l3, l4, l5⟩ := p_last hF hm hf
  obtain ⟨g1, g2, g3, g4, g5, -, g7, g8, g9, g10, gs⟩ := p_F1 hF hf
  have eC : f_X3_doInstruction σ = (f_X3_kindAt (nI (sg (F - 1))) (σ.2 6 (F - 1)) σ).bind fun u5 => if u5 = (-1) then some (0, sI σ 2 3) else if inB u5 13 = true then if (tTak u5.toNatClampNeg) ≤ nI (be F - be (F - 1)) then dI (nI (sg (F - 1))) (σ.2 6 (F - 1)) u5 σ else some (0, sI σ 2 3) else none := by
    unfold f_X3_doInstruction
    rw [p_lseg hF hm hf, Option.bind_some, p_lplc hF hm hf, Option.bind_some, p_dep hF hm hf]
    rfl
  have hpl := hp (F - 1) (by omega)
  have z : ∀ x, b_X5_one_39 (nI (F - 1)) (nI (sg (F - 1))) x τ = some (0, sI τ 1 3) := fun x => by
    unfold b_X5_one_39 b_X5_one_40
    rw [if_pos rfl]
    unfold b_X5_one_62
    rw [if_pos rfl, p_120]
  have a5 : gA τ 5 (nI (F - 1)) = σ.2 6 (F - 1) := by rw [p_gA (by omega)]; exact hpl.symm
  have a4 : gA τ 4 (nI (F - 1)) = nI (sg (F - 1)) := by rw [p_gA (by omega)]; exact g5
  have a1 : gA τ 1 (nI (sg (F - 1))) = nI (n (sg (F - 1))) := by rw [p_gA (by omega)]; exact (hd _ g1).2.2.1
  have eM : f_X5_one τ = if σ.2 6 (F - 1) < 0 then some (0, sI τ 1 3) else if nI (n (sg (F - 1))) ≤ σ.2 6 (F - 1) then some (0, sI τ 1 3) else b_X5_one_40 (nI (F - 1)) (nI (sg (F - 1))) (σ.2 6 (F - 1)) 1 τ := by
    unfold f_X5_one
    rw [p_gI, l5, if_pos l4, if_pos l4, a4, a5, if_pos (p_s5 g1).2.2, a1, z]
  have hn80 := (hd _ g1).1
  have ek : f_X3_kindAt (nI (sg (F - 1))) (σ.2 6 (F - 1)) σ = if σ.2 6 (F - 1) < 0 then some (-1) else if σ.2 6 (F - 1) < nI (n (sg (F - 1))) then (f_X0_byteAt (nI (sg (F - 1))) (σ.2 6 (F - 1)) σ).bind fun u5 => if u5 < 0 then some (-1) else if 13 ≤ u5 then some (-1) else if inB u5 13 = true then if (σ.2 6 (F - 1) + (tLen u5.toNatClampNeg)) ≤ nI (n (sg (F - 1))) then some u5 else some (-1) else none else some (-1) := by
    unfold f_X3_kindAt
    rw [p_len hd g1, Option.bind_some]
  rw [eC, eM, ek, ← hpl]
  rcases p_ix (σ.2 6 (F - 1)) (k := n (sg (F - 1))) (by omega) with h | ⟨i, hi, hie⟩
  · refine Or.inl ⟨?_, ?_⟩
    · by_cases c : σ.2 6 (F - 1) < 0
      · rw [if_pos c, Option.bind_some, if_pos rfl]
      · rw [if_neg c, if_neg (fun q => i_lt_le.mpr (h.resolve_left c) q), Option.bind_some, if_pos rfl]
    · by_cases c : σ.2 6 (F - 1) < 0
      · rw [if_pos c]
      · rw [if_neg c, if_pos (h.resolve_left c)]
  · rw [hie, if_neg (p_n0 (by omega)), if_pos (nI_lt hi (by omega)), if_neg (p_n0 (by omega)), if_neg (nI_ge hi (by omega)), p_by hd g1 hi, Option.bind_some]
    have e80 : (80 : Int32) * nI (sg (F - 1)) + nI i = nI (80 * sg (F - 1) + i) := by rw [show (80 : Int32) = nI 80 from rfl, pk_mul, nI_add]
    unfold b_X5_one_40
    rw [if_neg i10, e80, if_pos (p_in (n := 400) (by omega) (by decide)), p_gA (by omega)]
    generalize hv : τ.2 0 (80 * sg (F - 1) + i) = v
    unfold b_X5_one_62
    rw [if_neg i10]
    rcases p_ix v (k := 13) (by decide) with h | ⟨o, ho13, rfl⟩
    · refine Or.inl ⟨?_, ?_⟩
      · by_cases c : v < 0
        · rw [if_pos c, Option.bind_some, if_pos rfl]
        · have h' : (13 : Int32) ≤ v := h.resolve_left c
          rw [if_neg c, if_pos h', Option.bind_some, if_pos rfl]
      · by_cases c : v < 0
        · rw [if_pos c, p_120]
        · have h' : (13 : Int32) ≤ v := h.resolve_left c
          have h2 : (12 : Int32) < v := by
            rw [Int32.le_iff_toInt_le] at h'
            rw [Int32.lt_iff_toInt_lt]
            have e1 : (13 : Int32).toInt = 13 := by decide
            have e2 : (12 : Int32).toInt = 12 := by decide
            omega
          rw [if_neg c, if_pos h2, p_120]
    · obtain ⟨k1, k2, k3, k4, k5⟩ := lenN_e o ho13
      have c13 : ¬ (13 : Int32) ≤ nI o := nI_ge (b := 13) ho13 (by decide)
      have c12 : ¬ (12 : Int32) < nI o := nI_nlt (a := 12) (by omega) (by decide)
      have nm1 : ¬ nI o = (-1 : Int32) := fun q => p_n0 (i := o) (by omega) (by rw [q]; decide)
      rw [if_neg (p_n0 (by omega)), if_neg c13, if_pos (p_in (n := 13) ho13 (by decide)), p_cl (by omega), k1, nI_add, if_neg (p_n0 (by omega)), if_neg c12, sz_o ho13, Option.bind_some, if_pos (p_s5 g1).2.2, a1, nI_add]
      by_cases cl : i + lenN o ≤ n (sg (F - 1))
      · rw [if_pos (nI_le cl (by omega)), Option.bind_some, if_neg nm1, if_pos (p_in (n := 13) ho13 (by decide)), p_cl (by omega), k2, if_neg (nI_nlt cl (by omega)), if_pos l4, tk_o ho13, Option.bind_some, p_gA (by omega), p_depM hF hm hf]
        by_cases ct : takN o ≤ be F - be (F - 1)
        · refine Or.inr ⟨o, i, ho13, rfl, rfl, cl, ct, ?_, ?_⟩
          · rw [if_pos (nI_le ct (by omega))]
          · rw [if_neg (nI_nlt ct (by omega))]
        · refine Or.inl ⟨?_, ?_⟩
          · rw [if_neg (nI_ge (by omega) (by omega))]
          · rw [if_pos (nI_lt (by omega) (by omega)), p_120]
      · refine Or.inl ⟨?_, ?_⟩
        · rw [if_neg (nI_ge (by omega) (by omega)), Option.bind_some, if_pos rfl]
        · rw [if_pos (nI_lt (by omega) (by omega)), p_120]
theorem p_byS (hd : DiskR n σ τ) {s : Nat} (hs : s < 5) (y : Int32) : ∃ v, f_X0_byteAt (nI s) y σ = some v := by
  rcases p_ix y (k := n s) (by have := (hd s hs).1; omega) with h | ⟨i, hi, rfl⟩
  · exact ⟨_, p_byO hd hs h⟩
  · exact ⟨_, p_by hd hs hi⟩
/-- both do an operation -/
def Did (a b : Option (Int32 × St)) (τ : St) : Prop := ∃ σ' τ', a = some (0, σ') ∧ b = some (0, τ') ∧ Fin σ' τ' ∧ τ'.1 0 = τ.1 0
theorem op_0 (hg : GoR n F sg L be rs lim σ τ) (hp : PlR F σ τ) {i : Nat} (ha : τ.2 5 (F - 1) = nI i) : Did (dI (nI (sg (F - 1))) (nI i) 0 σ) (b_X5_one_121 (nI (F - 1)) (nI (sg (F - 1))) (nI i) 0 1 τ) τ := by
  obtain ⟨hd, hf, hm, ho, hT, s2, t1, hF⟩ := id hg
  obtain ⟨F5, W1⟩ := FrR.F_le hm
  obtain ⟨l1, l2, l3, l4, l5⟩ := p_last hF hm hf
  obtain ⟨v, hv⟩ := p_byS hd (p_F1 hF hf).1 (nI i + 1)
  refine ⟨sI σ 2 2, sA (sI (sA τ 5 (nI (F - 1)) (nI i + 1)) 1 2) 5 (nI (F - 1)) (nI i), ?_, ?_, ?_, rfl⟩
  · rw [d_m0, hv, Option.bind_some]
  · rw [p_m0 l4, p_gI, hf.2.1, if_neg (nI_ge (by omega) (by omega))]
  · refine fin_stop hd hf hm ho (by decide) (by decide) (off_sA (off_sI (off_sA Off.rf (by simp)) (by simp)) (by simp)) rfl (fun j hj => ?_)
    rw [p_sA5 (by omega), p_sI2, p_sA5 (by omega), hp j hj]
    by_cases c : j = F - 1
    · rw [if_pos c, c, ha]
    · rw [if_neg c, if_neg c]
theorem p_k1 (hd : DiskR n σ τ) {s i k : Nat} (hs : s < 5) (hi : i + k < n s) : inB ((80 * nI s + nI i) + nI k) 400 = true ∧ gA τ 0 ((80 * nI s + nI i) + nI k) = τ.2 0 (80 * s + (i + k)) ∧ f_X0_byteAt (nI s) (nI i + nI k) σ = some (τ.2 0 (80 * s + (i + k))) := by
  have hn := (hd s hs).1
  have e : (80 * nI s + nI i) + nI k = nI (80 * s + (i + k)) := by rw [show (80 : Int32) = nI 80 from rfl, pk_mul, nI_add, nI_add, Nat.add_assoc]
  rw [e, nI_add]
  exact ⟨p_in (by omega) (by decide), p_gA (by omega), p_by hd hs hi⟩
theorem op_1 (hg : GoR n F sg L be rs lim σ τ) (hp : PlR F σ τ) {i : Nat} (ha : τ.2 5 (F - 1) = nI i) (hi : i + 2 ≤ n (sg (F - 1))) : Did (dI (nI (sg (F - 1))) (nI i) 1 σ) (b_X5_one_121 (nI (F - 1)) (nI (sg (F - 1))) (nI i) 1 1 τ) τ := by
  obtain ⟨hd, hf, hm, ho, hT, s2, t1, hF⟩ := id hg
  obtain ⟨l1, l2, l3, l4, l5⟩ := p_last hF hm hf
  obtain ⟨w1, w2, w3⟩ := p_k1 (k := 1) hd (p_F1 hF hf).1 (show i + 1 < n (sg (F - 1)) by omega)
  obtain ⟨σ', e1, -, τ', e2, h3, h4⟩ := p_pam hg hp (τ.2 0 (80 * sg (F - 1) + (i + 1))) (nI i + 2) ha
  refine ⟨σ', τ', ?_, ?_, h3, h4⟩
  · have w3 : f_X0_byteAt (nI (sg (F - 1))) (nI i + 1) σ = _ := w3
    rw [d_m1, w3, Option.bind_some, e1, Option.bind_some]
  · have w2 : gA τ 0 ((80 * nI (sg (F - 1)) + nI i) + 1) = _ := w2
    rw [p_m1 l4 w1, w2]
    exact e2
theorem op_2 (hg : GoR n F sg L be rs lim σ τ) (hp : PlR F σ τ) {i : Nat} (ha : τ.2 5 (F - 1) = nI i) (hi : i + 2 ≤ n (sg (F - 1))) : Did (dI (nI (sg (F - 1))) (nI i) 2 σ) (b_X5_one_121 (nI (F - 1)) (nI (sg (F - 1))) (nI i) 2 1 τ) τ := by
  obtain ⟨hd, hf, hm, ho, hT, s2, t1, hF⟩ := id hg
  obtain ⟨F5, W1⟩ := FrR.F_le hm
  obtain ⟨l1, l2, l3, l4, l5⟩ := p_last hF hm hf
  obtain ⟨g1, g2, g3, g4, g5, -, g7, g8, g9, g10, gs⟩ := p_F1 hF hf
  obtain ⟨w1, w2, w3⟩ := p_k1 (k := 1) hd g1 (show i + 1 < n (sg (F - 1)) by omega)
  have w3 : f_X0_byteAt (nI (sg (F - 1))) (nI i + 1) σ = _ := w3
  have w2 : gA τ 0 ((80 * nI (sg (F - 1)) + nI i) + 1) = _ := w2
  unfold Did
  rw [d_m2, w3, Option.bind_some, p_m2 l4 w1 w2]
  unfold f_X3_getLocal f_X1_count
  rw [Option.bind_some, p_gI, l2]
  generalize τ.2 0 (80 * sg (F - 1) + (i + 1)) = K
  have e6 : gA τ 6 (nI (F - 1)) = nI (L (F - 1)) := by rw [p_gA (by omega)]; exact g8
  rw [e6]
  rcases p_ix K (k := L (F - 1)) (by omega) with h | ⟨k, hk, rfl⟩
  · rw [p_hasN hf F5 (by omega) h, Option.bind_some, if_pos rfl, Option.bind_some]
    refine ⟨_, sI τ 1 3, rfl, ?_, Fin.stop hd hf hp hm ho (by decide) (by decide), rfl⟩
    by_cases c : K < 0
    · rw [if_pos c]
    · rw [if_neg c, if_pos (h.resolve_left c)]
  · have e7 : (6 : Int32) * nI (F - 1) + nI k = nI (6 * (F - 1) + k) := by rw [show (6 : Int32) = nI 6 from rfl, pk_mul, nI_add]
    obtain ⟨σ', e1, -, τ', e2, h3, h4⟩ := p_pam hg hp (τ.2 7 (6 * (F - 1) + k)) (nI i + 2) ha
    rw [p_hasY hf F5 (by omega) hk, Option.bind_some, if_neg i10, p_locR hf hm (by omega) hk, Option.bind_some, e1, Option.bind_some, Option.bind_some, if_neg (p_n0 (by omega)), if_neg (nI_ge hk (by omega)), e7, if_pos (p_in (n := 3120) (by omega) (by decide)), p_gA (by omega)]
    exact ⟨σ', τ', rfl, e2, h3, h4⟩
theorem op_3 (hg : GoR n F sg L be rs lim σ τ) (hp : PlR F σ τ) {i : Nat} (ha : τ.2 5 (F - 1) = nI i) (hi : i + 2 ≤ n (sg (F - 1))) (hb : 1 ≤ be F - be (F - 1)) : Did (dI (nI (sg (F - 1))) (nI i) 3 σ) (b_X5_one_121 (nI (F - 1)) (nI (sg (F - 1))) (nI i) 3 1 τ) τ := by
  obtain ⟨hd, hf, hm, ho, hT, s2, t1, hF⟩ := id hg
  obtain ⟨F5, W1⟩ := FrR.F_le hm
  obtain ⟨l1, l2, l3, l4, l5⟩ := p_last hF hm hf
  obtain ⟨g1, g2, g3, g4, g5, -, g7, g8, g9, g10, gs⟩ := p_F1 hF hf
  obtain ⟨w1, w2, w3⟩ := p_k1 (k := 1) hd g1 (show i + 1 < n (sg (F - 1)) by omega)
  have w3 : f_X0_byteAt (nI (sg (F - 1))) (nI i + 1) σ = _ := w3
  have w2 : gA τ 0 ((80 * nI (sg (F - 1)) + nI i) + 1) = _ := w2
  unfold Did
  rw [d_m3, w3, Option.bind_some, p_m3 l4 w1 w2]
  unfold f_X3_setLocal f_X1_count
  rw [Option.bind_some, p_gI, l2]
  generalize τ.2 0 (80 * sg (F - 1) + (i + 1)) = K
  have e6 : gA τ 6 (nI (F - 1)) = nI (L (F - 1)) := by rw [p_gA (by omega)]; exact g8
  rw [e6]
  rcases p_ix K (k := L (F - 1)) (by omega) with h | ⟨k, hk, rfl⟩
  · rw [p_hasN hf F5 (by omega) h, Option.bind_some, if_pos rfl, Option.bind_some]
    refine ⟨_, sI τ 1 3, rfl, ?_, Fin.stop hd hf hp hm ho (by decide) (by decide), rfl⟩
    by_cases c : K < 0
    · rw [if_pos c]
    · rw [if_neg c, if_pos (h.resolve_left c)]
  · have e7 : (6 : Int32) * nI (F - 1) + nI k = nI (6 * (F - 1) + k) := by rw [show (6 : Int32) = nI 6 from rfl, pk_mul, nI_add]
    obtain ⟨v, σ1, τ1, o1, o2, hg1, e1, e2⟩ := g_take hg (by omega)
    obtain ⟨hd1, hf1, hm1, ho1, hT1, s21, t11, -⟩ := id hg1
    obtain ⟨e3, hf2⟩ := p_locW hf1 hm1 (f := F - 1) (k := k) (by omega) hk v
    generalize eAd : upF be F (be F - 1) (F - 1) + sm L (F - 1) + k = Ad at e3 hf2
    have oa : Off [] [9] σ1 (sA σ1 9 (nI Ad) v) := off_sA Off.rf (by simp)
    have ob : Off [] [7] τ1 (sA τ1 7 (nI (6 * (F - 1) + k)) v) := off_sA Off.rf (by simp)
    have hg2 : GoR n F sg L (upF be F (be F - 1)) rs lim (sA σ1 9 (nI Ad) v) (sA τ1 7 (nI (6 * (F - 1) + k)) v) := by
      refine ⟨hd1.off (fun a ha => oa.2 a (by simp; omega)) (fun a ha => ob.2 a (by simp; omega)), hf2, hm1.off (rs2 := rs) rfl rfl rfl (oa.2 2 (by simp)) (oa.2 3 (by simp)) (ob.2 2 (by simp)) rfl, ?_, ⟨hT1.1, fun s hs => by rw [oa.2 4 (by simp), ob.2 3 (by simp)]; exact hT1.2 s hs⟩, s21, t11, hF⟩
      exact ho1.off rfl rfl rfl rfl rfl (oa.2 1 (by simp)) rfl rfl rfl rfl rfl (ob.2 10 (by simp))
    rw [p_hasY hf F5 (by omega) hk, Option.bind_some, if_neg i10, e1, Option.bind_some, e3, Option.bind_some, p_move hF hg2.2.2.1 hg2.2.1, Option.bind_some, Option.bind_some, e2, Option.bind_some, if_neg (p_n0 (by omega)), if_neg (nI_ge hk (by omega)), e7, if_pos (p_in (n := 3120) (by omega) (by decide))]
    have h1 : gI τ1 1 = 1 := t11
    rw [h1, if_pos (by decide)]
    refine ⟨_, _, rfl, rfl, ?_, ?_⟩
    · -- the two writes of the reference, in the other order
      have key : ∀ τ2, Off [] [5] (sA τ1 7 (nI (6 * (F - 1) + k)) v) τ2 → (∀ j, τ2.2 5 j = if j = F - 1 then nI i + 2 else τ1.2 5 j) → Fin (sA (sA σ1 9 (nI Ad) v) 6 (nI (F - 1)) (nI i + 2)) τ2 := fun τ2 q1 q2 => by
        refine (hg2.off off_6 q1).fin (hp.put (f := F - 1) (p := nI i + 2) (fun j => ?_) (fun j => ?_))
        · rw [p_sA5 (by omega), oa.2 6 (by simp), o1.2 6 (by simp)]
        · rw [q2, o2.2 5 (by simp)]
      refine key _ ⟨fun _ _ => rfl, fun a ha => ?_⟩ (fun j => ?_)
      · have ha5 : ¬ a = 5 := by simpa using ha
        funext j
        rw [p_sA2 (by omega), p_sA2 (by omega), p_sA2 (by omega)]
        simp only [ha5, false_and, if_false]
      · rw [p_sA2 (by omega), p_sA5 (by omega)]
        simp only [(by decide : ¬ (5 : Nat) = 7), false_and, if_false]
    · show τ1.1 0 = _
      rw [o2.1 0 (by simp)]
end Oc
