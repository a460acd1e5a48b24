section Od
variable {n : Nat → Nat} {F lim : Nat} {sg L be : Nat → Nat} {rs : Nat → Bool} {σ τ σ1 τ1 : St}
/-- two numbers taken, and one pushed -/
theorem op_calc (hg : GoR n F sg L be rs lim σ τ) (hp : PlR F σ τ) {i : Nat} (ha : τ.2 5 (F - 1) = nI i) (hb : 2 ≤ be F - be (F - 1)) (o : Int32) (g : Int32 → Int32 → Int32) (hv : ∀ x y σ2, f_X3_valueOf o x y σ2 = some (g x y)) :
    Did ((f_X3_calculate o (nI i + 1) σ).bind fun u => some (0, u.2)) ((f_X5_pop τ).bind fun u => (f_X5_pop u.2).bind fun w => b_X5_one_567 (nI (F - 1)) (nI i) (g w.1 u.1) (sA w.2 5 (nI (F - 1)) (nI i + 1))) τ := by
  obtain ⟨v, σ1, τ1, o1, o2, hg1, e1, e2⟩ := g_take hg (by omega)
  have hF := hg.2.2.2.2.2.2.2
  have hb1 : upF be F (be F - 1) (F - 1) = be (F - 1) := upF_n (by omega)
  obtain ⟨w, σ2, τ2, o3, o4, hg2, e3, e4⟩ := g_take hg1 (by rw [hb1, upF_s]; omega)
  have hp2 : PlR F σ2 τ2 := (hp.offs o1 o2 (by simp) (by simp)).offs o3 o4 (by simp) (by simp)
  obtain ⟨σ', e5, ⟨τ', e6, h3, h4⟩, -⟩ := p_pam hg2 hp2 (g w v) (nI i + 1) (pl := nI i) (by rw [o4.2 5 (by simp), o2.2 5 (by simp)]; exact ha)
  unfold f_X3_calculate
  refine ⟨σ', τ', ?_, ?_, h3, ?_⟩
  · rw [e1, Option.bind_some, e3, Option.bind_some, hv, Option.bind_some, e5, Option.bind_some, Option.bind_some]
  · rw [e2, Option.bind_some, e4, Option.bind_some, e6]
  · rw [h4, o4.1 0 (by simp), o2.1 0 (by simp)]
theorem op_4 (hg : GoR n F sg L be rs lim σ τ) (hp : PlR F σ τ) {i : Nat} (ha : τ.2 5 (F - 1) = nI i) (hb : 2 ≤ be F - be (F - 1)) : Did (dI (nI (sg (F - 1))) (nI i) 4 σ) (b_X5_one_121 (nI (F - 1)) (nI (sg (F - 1))) (nI i) 4 1 τ) τ := by
  obtain ⟨hd, hf, hm, ho, hT, s2, t1, hF⟩ := id hg
  obtain ⟨v, hv⟩ := p_byS hd (p_F1 hF hf).1 (nI i + 1)
  rw [d_m4, hv, Option.bind_some, p_m4 (p_last hF hm hf).2.2.2.1]
  exact op_calc hg hp ha hb 4 (fun x y => x + y) (fun x y σ2 => by unfold f_X3_valueOf; rw [if_pos rfl])
theorem op_5 (hg : GoR n F sg L be rs lim σ τ) (hp : PlR F σ τ) {i : Nat} (ha : τ.2 5 (F - 1) = nI i) (hb : 2 ≤ be F - be (F - 1)) : Did (dI (nI (sg (F - 1))) (nI i) 5 σ) (b_X5_one_121 (nI (F - 1)) (nI (sg (F - 1))) (nI i) 5 1 τ) τ := by
  obtain ⟨hd, hf, hm, ho, hT, s2, t1, hF⟩ := id hg
  obtain ⟨v, hv⟩ := p_byS hd (p_F1 hF hf).1 (nI i + 1)
  rw [d_m5, hv, Option.bind_some, p_m5 (p_last hF hm hf).2.2.2.1]
  exact op_calc hg hp ha hb 5 (fun x y => x - y) (fun x y σ2 => by unfold f_X3_valueOf; rw [if_neg (by decide), if_pos rfl])
theorem op_6 (hg : GoR n F sg L be rs lim σ τ) (hp : PlR F σ τ) {i : Nat} (ha : τ.2 5 (F - 1) = nI i) (hb : 2 ≤ be F - be (F - 1)) : Did (dI (nI (sg (F - 1))) (nI i) 6 σ) (b_X5_one_121 (nI (F - 1)) (nI (sg (F - 1))) (nI i) 6 1 τ) τ := by
  obtain ⟨hd, hf, hm, ho, hT, s2, t1, hF⟩ := id hg
  obtain ⟨v, hv⟩ := p_byS hd (p_F1 hF hf).1 (nI i + 1)
  rw [d_m6, hv, Option.bind_some, p_m6 (p_last hF hm hf).2.2.2.1]
  have h := op_calc hg hp ha hb 6 (fun x y => if y ≤ x then 0 else 1) (fun x y σ2 => by
    unfold f_X3_valueOf
    rw [if_neg (by decide), if_neg (by decide), if_pos rfl]
    by_cases c : y ≤ x
    · rw [if_pos c, if_pos c]
    · rw [if_neg c, if_neg c])
  have e : ∀ u w : Int32 × St, (if u.1 ≤ w.1 then b_X5_one_567 (nI (F - 1)) (nI i) 0 (sA w.2 5 (nI (F - 1)) (nI i + 1)) else b_X5_one_567 (nI (F - 1)) (nI i) 1 (sA w.2 5 (nI (F - 1)) (nI i + 1))) = b_X5_one_567 (nI (F - 1)) (nI i) (if u.1 ≤ w.1 then 0 else 1) (sA w.2 5 (nI (F - 1)) (nI i + 1)) := fun u w => by
    by_cases c : u.1 ≤ w.1
    · rw [if_pos c, if_pos c]
    · rw [if_neg c, if_neg c]
  simp only [e]
  exact h
theorem op_7 (hg : GoR n F sg L be rs lim σ τ) (hp : PlR F σ τ) {i : Nat} (ha : τ.2 5 (F - 1) = nI i) (hb : 2 ≤ be F - be (F - 1)) : Did (dI (nI (sg (F - 1))) (nI i) 7 σ) (b_X5_one_121 (nI (F - 1)) (nI (sg (F - 1))) (nI i) 7 1 τ) τ := by
  obtain ⟨hd, hf, hm, ho, hT, s2, t1, hF⟩ := id hg
  obtain ⟨v, hv⟩ := p_byS hd (p_F1 hF hf).1 (nI i + 1)
  rw [d_m7, hv, Option.bind_some, p_m7 (p_last hF hm hf).2.2.2.1]
  exact op_calc hg hp ha hb 7 (fun x y => x * y) (fun x y σ2 => by unfold f_X3_valueOf; rw [if_neg (by decide), if_neg (by decide), if_neg (by decide), if_pos rfl])
theorem p_435 (hg : GoR n F sg L be rs lim σ τ) (hp : PlR F σ τ) {pl p z : Int32} : ∃ τ', b_X5_one_435 (nI (F - 1)) pl z (gA (sA τ 5 (nI (F - 1)) p) 5 (nI (F - 1))) (nI (F - 1)) (sA τ 5 (nI (F - 1)) p) = some (0, τ') ∧ Fin (sA σ 6 (nI (F - 1)) (p + z)) τ' ∧ τ'.1 0 = τ.1 0 := by
  obtain ⟨hd, hf, hm, ho, hT, s2, t1, hF⟩ := id hg
  obtain ⟨F5, W1⟩ := FrR.F_le hm
  have h1 : gI (sA τ 5 (nI (F - 1)) p) 1 = 1 := t1
  have e5 : gA (sA τ 5 (nI (F - 1)) p) 5 (nI (F - 1)) = p := by rw [p_gA (by omega), p_sA5 (by omega), if_pos rfl]
  refine ⟨sA (sA τ 5 (nI (F - 1)) p) 5 (nI (F - 1)) (p + z), ?_, ?_, rfl⟩
  · unfold b_X5_one_435
    rw [if_pos (p_last hF hm hf).2.2.2.1, h1, if_pos (by decide), e5]
  · refine (hg.off off_6 (off_sA off_5 (by simp))).fin (hp.put (f := F - 1) (p := p + z) (fun j => ?_) (fun j => ?_))
    · rw [p_sA5 (by omega)]
    · rw [p_sA5 (by omega), p_sA5 (by omega)]
      by_cases c : j = F - 1
      · rw [if_pos c, if_pos c]
      · rw [if_neg c, if_neg c, if_neg c]
theorem op_8 (hg : GoR n F sg L be rs lim σ τ) (hp : PlR F σ τ) {i : Nat} (hi : i + 2 ≤ n (sg (F - 1))) (hb : 1 ≤ be F - be (F - 1)) : Did (dI (nI (sg (F - 1))) (nI i) 8 σ) (b_X5_one_121 (nI (F - 1)) (nI (sg (F - 1))) (nI i) 8 1 τ) τ := by
  obtain ⟨hd, hf, hm, ho, hT, s2, t1, hF⟩ := id hg
  obtain ⟨w1, w2, w3⟩ := p_k1 (k := 1) hd (p_F1 hF hf).1 (show i + 1 < n (sg (F - 1)) by omega)
  have w3 : f_X0_byteAt (nI (sg (F - 1))) (nI i + 1) σ = _ := w3
  have w2 : gA τ 0 ((80 * nI (sg (F - 1)) + nI i) + 1) = _ := w2
  obtain ⟨v, σ1, τ1, o1, o2, hg1, e1, e2⟩ := g_take hg (by omega)
  have hp1 : PlR F σ1 τ1 := hp.offs o1 o2 (by simp) (by simp)
  unfold Did
  rw [d_m8, w3, Option.bind_some, e1, Option.bind_some, p_m8 (p_last hF hm hf).2.2.2.1 w1 w2, e2, Option.bind_some, p_move hF hg1.2.2.1 hg1.2.1, p_move hF hg1.2.2.1 hg1.2.1, Option.bind_some, Option.bind_some]
  generalize τ.2 0 (80 * sg (F - 1) + (i + 1)) = K
  by_cases c : v = 0
  · obtain ⟨τ', e3, h3, h4⟩ := p_435 hg1 hp1 (pl := nI i) (p := nI i + 2) (z := K)
    rw [if_pos c, if_pos c]
    exact ⟨_, τ', rfl, e3, h3, by rw [h4, o2.1 0 (by simp)]⟩
  · obtain ⟨τ', e3, h3, h4⟩ := p_435 hg1 hp1 (pl := nI i) (p := nI i + 2) (z := 0)
    have e0 : nI i + 2 + 0 = nI i + 2 := by
      show nI i + nI 2 + nI 0 = nI i + nI 2
      rw [nI_add, nI_add, Nat.add_zero]
    rw [e0] at h3
    rw [if_neg c, if_neg c]
    exact ⟨_, τ', rfl, e3, h3, by rw [h4, o2.1 0 (by simp)]⟩
theorem op_9 (hg : GoR n F sg L be rs lim σ τ) (hp : PlR F σ τ) {i : Nat} (hi : i + 2 ≤ n (sg (F - 1))) : Did (dI (nI (sg (F - 1))) (nI i) 9 σ) (b_X5_one_121 (nI (F - 1)) (nI (sg (F - 1))) (nI i) 9 1 τ) τ := by
  obtain ⟨hd, hf, hm, ho, hT, s2, t1, hF⟩ := id hg
  obtain ⟨w1, w2, w3⟩ := p_k1 (k := 1) hd (p_F1 hF hf).1 (show i + 1 < n (sg (F - 1)) by omega)
  have w3 : f_X0_byteAt (nI (sg (F - 1))) (nI i + 1) σ = _ := w3
  have w2 : gA τ 0 ((80 * nI (sg (F - 1)) + nI i) + 1) = _ := w2
  unfold Did
  rw [d_m9, w3, Option.bind_some, p_move hF hm hf, Option.bind_some, p_m9 (p_last hF hm hf).2.2.2.1 w1 w2]
  obtain ⟨τ', e3, h3, h4⟩ := p_435 hg hp (pl := nI i) (p := nI i + 2) (z := τ.2 0 (80 * sg (F - 1) + (i + 1)))
  exact ⟨_, τ', rfl, e3, h3, h4⟩
theorem op_10 (hg : GoR n F sg L be rs lim σ τ) (hp : PlR F σ τ) {i : Nat} (ha : τ.2 5 (F - 1) = nI i) (hi : i + 3 ≤ n (sg (F - 1))) (hb : 1 ≤ be F - be (F - 1)) : Did (dI (nI (sg (F - 1))) (nI i) 10 σ) (b_X5_one_121 (nI (F - 1)) (nI (sg (F - 1))) (nI i) 10 1 τ) τ := by
  obtain ⟨hd, hf, hm, ho, hT, s2, t1, hF⟩ := id hg
  obtain ⟨F5, W1⟩ := FrR.F_le hm
  have l4 := (p_last hF hm hf).2.2.2.1
  obtain ⟨w1, w2, w3⟩ := p_k1 (k := 1) hd (p_F1 hF hf).1 (show i + 1 < n (sg (F - 1)) by omega)
  have w3 : f_X0_byteAt (nI (sg (F - 1))) (nI i + 1) σ = _ := w3
  have w2 : gA τ 0 ((80 * nI (sg (F - 1)) + nI i) + 1) = _ := w2
  obtain ⟨y1, y2, y3⟩ := p_k1 (k := 2) hd (p_F1 hF hf).1 (show i + 2 < n (sg (F - 1)) by omega)
  have y3 : f_X0_byteAt (nI (sg (F - 1))) (nI i + 2) σ = _ := y3
  have y2 : gA τ 0 ((80 * nI (sg (F - 1)) + nI i) + 2) = _ := y2
  obtain ⟨v, σ1, τ1, o1, o2, hg1, e1, e2⟩ := g_take hg (by omega)
  have hp1 : PlR F σ1 τ1 := hp.offs o1 o2 (by simp) (by simp)
  have y4 : gA τ1 0 ((80 * nI (sg (F - 1)) + nI i) + 2) = τ.2 0 (80 * sg (F - 1) + (i + 2)) := by
    rw [← y2]
    unfold gA
    rw [o2.2 0 (by simp)]
  unfold Did
  rw [d_m10, w3, Option.bind_some, y3, Option.bind_some]
  unfold f_X3_callFrom
  rw [e1, Option.bind_some, p_m10 l4 w1 y1 w2, e2, Option.bind_some, y4]
  generalize τ.2 0 (80 * sg (F - 1) + (i + 1)) = K
  generalize τ.2 0 (80 * sg (F - 1) + (i + 2)) = K2
  have hgm := hg1.off (Off.rf (σ := σ1)) (off_5 (τ := τ1) (i := nI (F - 1)) (p := nI i + 3))
  have om := off_5 (τ := τ1) (i := nI (F - 1)) (p := nI i + 3)
  have em : ∀ j, (sA τ1 5 (nI (F - 1)) (nI i + 3)).2 5 j = if j = F - 1 then nI i + 3 else τ1.2 5 j := fun j => p_sA5 (by omega)
  show ∃ σ' τ', (((f_X3_enter K K2 v σ1).bind _).bind _ = some (0, σ')) ∧ ((f_X5_call K K2 v (sA τ1 5 (nI (F - 1)) (nI i + 3))).bind _ = some (0, τ')) ∧ _
  generalize sA τ1 5 (nI (F - 1)) (nI i + 3) = τm at hgm om em ⊢
  obtain ⟨hdm, hfm, hmm, hom, hTm, s2m, t1m, -⟩ := id hgm
  have h0m : τm.1 0 = τ.1 0 := by rw [om.1 0 (by simp), o2.1 0 (by simp)]
  have c2 : ¬ nI F ≤ nI (F - 1) := nI_ge (by omega) (by omega)
  have back : ∀ (τ2 : St) (k : Int32), τ2.2 5 = τm.2 5 → PlR F σ1 (sA (sI τ2 1 k) 5 (nI (F - 1)) (nI i)) := fun τ2 k q j hj => by
    rw [p_sA5 (by omega), p_sI2, q, em, hp1 j hj]
    by_cases c : j = F - 1
    · rw [if_pos c, c, o2.2 5 (by simp), ha]
    · rw [if_neg c, if_neg c]
  rcases p_call hdm hfm hmm hom hTm K K2 v with ⟨f1, f2⟩ | ⟨rs1, σ2, τ2, p1, p2, hd2, hf2, hm2, ho2, f1, f2⟩ | ⟨s, ln, rs1, σ2, τ2, p1, p2, hd2, hf2, hm2, ho2, hT2, ⟨pl, q1, q2⟩, f1, f2⟩
  · have h7 : gI (sI τm 1 3) 7 = nI F := hfm.2.1
    have h1 : gI (sI τm 1 3) 1 = 3 := rfl
    rw [f1, Option.bind_some, if_pos rfl, Option.bind_some, f2, Option.bind_some, h1, if_neg (by decide), h7, if_neg c2]
    refine ⟨_, _, rfl, rfl, ?_, h0m⟩
    exact fin_stop hdm hfm hmm hom (by decide) (by decide) (off_sA (off_sI Off.rf (by simp)) (by simp)) rfl (back τm 3 rfl)
  · have h7 : gI (sI τ2 1 4) 7 = nI F := hf2.2.1
    have h1 : gI (sI τ2 1 4) 1 = 4 := rfl
    rw [f1, Option.bind_some, if_pos rfl, Option.bind_some, f2, Option.bind_some, h1, if_neg (by decide), h7, if_neg c2]
    refine ⟨_, _, rfl, rfl, ?_, ?_⟩
    · refine fin_stop hd2 hf2 hm2 ho2 (by decide) (by decide) (off_sA (off_sI Off.rf (by simp)) (by simp)) rfl ((back τ2 4 (p2.2 5 (by decide))).off (p1.2 6 (by decide)) rfl)
    · show τ2.1 0 = _
      rw [p2.1 0 (by decide), h0m]
  · have h1 : gI τ2 1 = 1 := by rw [p_gI, p2.1 1 (by decide)]; exact t1m
    have h9 : gI σ2 9 = nI (F + 1) := hf2.1
    have emv : f_X1_moveCallerTo (nI i + 3) σ2 = some (0, sA σ2 6 (nI (F - 1)) (nI i + 3)) := by
      unfold f_X1_moveCallerTo
      have ce : ¬ nI (F + 1) ≤ (1 : Int32) := nI_ge (a := 1) (by omega) (by omega)
      have es : nI (F + 1) - 2 = nI (F - 1) := by
        show nI (F + 1) - nI 2 = _
        rw [p_sub (by omega)]
        congr 1
      rw [h9, if_neg ce, es, if_pos (p_last hF hm hf).2.2.1]
    rw [f1, Option.bind_some, if_neg i10, emv, Option.bind_some, Option.bind_some, f2, Option.bind_some, h1, if_pos (by decide)]
    refine ⟨_, _, rfl, rfl, ?_, by rw [p2.1 0 (by decide), h0m]⟩
    have hg2 : GoR n (F + 1) (upF sg F s) (upF L F ln) (upF be F (be F - 1) |> fun b => upF b (F + 1) (b F)) rs1 lim σ2 τ2 := ⟨hd2, hf2, hm2, ho2, hT2, by rw [p1.1 2 (by decide)]; exact s2m, h1, by omega⟩
    refine (hg2.off off_6 Off.rf).fin (fun j hj => ?_)
    rw [p_sA5 (by omega), q1, q2, em]
    by_cases c : j = F - 1
    · rw [if_pos c, if_neg (by omega), if_pos c]
    · rw [if_neg c, if_neg c]
      by_cases cF : j = F
      · rw [if_pos cF, if_pos cF]
      · rw [if_neg cF, if_neg cF]
        exact hp1 j (by omega)
theorem op_11 (hg : GoR n F sg L be rs lim σ τ) (hp : PlR F σ τ) {i : Nat} (ha : τ.2 5 (F - 1) = nI i) (hb : 1 ≤ be F - be (F - 1)) : Did (dI (nI (sg (F - 1))) (nI i) 11 σ) (b_X5_one_121 (nI (F - 1)) (nI (sg (F - 1))) (nI i) 11 1 τ) τ := by
  obtain ⟨hd, hf, hm, ho, hT, s2, t1, hF⟩ := id hg
  obtain ⟨F5, W1⟩ := FrR.F_le hm
  have l4 := (p_last hF hm hf).2.2.2.1
  obtain ⟨b0, hb0⟩ := p_byS hd (p_F1 hF hf).1 (nI i + 1)
  obtain ⟨v, σ1, τ1, o1, o2, hg1, e1, e2⟩ := g_take hg (by omega)
  have hp1 : PlR F σ1 τ1 := hp.offs o1 o2 (by simp) (by simp)
  unfold Did
  rw [d_m11, hb0, Option.bind_some]
  unfold f_X3_giveBack
  rw [e1, Option.bind_some, p_m11 l4, e2, Option.bind_some]
  have hgm := hg1.off (Off.rf (σ := σ1)) (off_5 (τ := τ1) (i := nI (F - 1)) (p := nI i + 1))
  have om := off_5 (τ := τ1) (i := nI (F - 1)) (p := nI i + 1)
  have em : ∀ j, (sA τ1 5 (nI (F - 1)) (nI i + 1)).2 5 j = if j = F - 1 then nI i + 1 else τ1.2 5 j := fun j => p_sA5 (by omega)
  show ∃ σ' τ', (((f_X1_count σ1).bind _).bind _ = some (0, σ')) ∧ ((f_X5_back v (sA τ1 5 (nI (F - 1)) (nI i + 1))).bind _ = some (0, τ')) ∧ _
  generalize sA τ1 5 (nI (F - 1)) (nI i + 1) = τm at hgm om em ⊢
  obtain ⟨hdm, hfm, hmm, hom, hTm, s2m, t1m, -⟩ := id hgm
  have h0m : τm.1 0 = τ.1 0 := by rw [om.1 0 (by simp), o2.1 0 (by simp)]
  have h9 : f_X1_count σ1 = some (nI F) := by unfold f_X1_count; rw [p_gI, hfm.1]
  have h7 : gI τm 7 = nI F := hfm.2.1
  rw [h9, Option.bind_some]
  unfold f_X5_back
  rw [h7]
  by_cases c1 : F = 1
  · have c1' : nI F = (1 : Int32) := by rw [c1]; rfl
    have h71 : gI (sI (sI τm 9 v) 1 2) 7 = nI F := h7
    have h11 : gI (sI (sI τm 9 v) 1 2) 1 = 2 := rfl
    have c2 : ¬ nI F ≤ nI (F - 1) := nI_ge (by omega) (by omega)
    rw [if_pos c1', if_pos c1', Option.bind_some, Option.bind_some, h11, h71, if_neg (by decide), if_neg c2]
    refine ⟨_, _, rfl, rfl, ?_, h0m⟩
    have oa : Off [1] [] σ1 (sI σ1 1 v) := off_sI Off.rf (by simp)
    have ob : Off [9] [] τm (sI τm 9 v) := off_sI Off.rf (by simp)
    refine fin_stop (σ := sI σ1 1 v) (τ := sI τm 9 v) hdm hfm hmm ⟨hom.1, hom.2.1, hom.2.2.1, rfl, hom.2.2.2.2⟩ (by decide) (by decide) (off_sA (off_sI Off.rf (by simp)) (by simp)) rfl (fun j hj => ?_)
    rw [p_sA5 (by omega), p_sI2, p_sI2, p_sI2, em, hp1 j hj]
    by_cases c : j = F - 1
    · rw [if_pos c, c, o2.2 5 (by simp), ha]
    · rw [if_neg c, if_neg c]
  · obtain ⟨G, rfl⟩ : ∃ G, F = G + 1 := ⟨F - 1, by omega⟩
    have c1' : ¬ nI (G + 1) = (1 : Int32) := fun q => c1 ((nI_inj (a := G + 1) (b := 1) (by omega) (by omega)).mp q)
    have eG : nI (G + 1) - 1 = nI G := nI_pred G
    have l4' : inB (nI G) 520 = true := l4
    rw [if_neg c1', if_neg c1', eG, if_pos l4']
    obtain ⟨σ2, σ3, p1, f1, f2, hf3, hm3, ho3, hT3⟩ := p_drop hfm hmm hom hTm
    have hF1 := p_lloc (by omega) hmm hfm
    have hF2 := p_dep (by omega) hmm hfm
    have hF3 := p_lseg (by omega) hmm hfm
    rw [show G + 1 - 1 = G by omega] at hF1 hF2 hF3
    have eb : (8 + 4 * nI (L G)) + 4 * nI (upF be (G + 1) (be (G + 1) - 1) (G + 1) - upF be (G + 1) (be (G + 1) - 1) G) = nI (8 + 4 * L G + 4 * (upF be (G + 1) (be (G + 1) - 1) (G + 1) - upF be (G + 1) (be (G + 1) - 1) G)) := by
      show (nI 8 + nI 4 * _) + nI 4 * _ = _
      rw [pk_mul, pk_mul, nI_add, nI_add]
    have e8 : gA τm 8 (nI G) = nI (upF be (G + 1) (be (G + 1) - 1) G) := by
      rw [p_gA (by omega)]
      exact (hfm.2.2.2.2.1 G (by omega)).2.2.2.2.2.2.2.2.2
    unfold f_X3_frameBytes
    rw [hF1, Option.bind_some, Option.bind_some, hF2, Option.bind_some, hF3, Option.bind_some, eb, f1, Option.bind_some, f2, Option.bind_some, e8]
    generalize eτ3 : sI (sI τm 7 (nI G)) 8 (nI (upF be (G + 1) (be (G + 1) - 1) G)) = τ3 at hf3 hm3 ho3 hT3 ⊢
    have p2 : Off [7, 8] [] τm τ3 := by rw [← eτ3]; exact off_sI (off_sI Off.rf (by simp)) (by simp)
    have hd3 : DiskR n σ3 τ3 := hdm.off (fun a ha => p1.2 a (by simp; omega)) (fun a ha => p2.2 a (by simp))
    have hpl3 : PlR G σ3 τ3 := fun j hj => by
      rw [p1.2 6 (by simp), p2.2 5 (by simp), em, if_neg (by omega)]
      exact hp1 j (by omega)
    have h03 : τ3.1 0 = τ.1 0 := by rw [p2.1 0 (by decide), h0m]
    rcases p_push hd3 (by omega) hf3 hm3 ho3 hT3 v with ⟨rs1, σ4, τ4, p3, p4, hf4, hm4, ho4, f3, f4⟩ | ⟨rs1, σ4, τ4, p3, p4, hf4, hm4, ho4, f3, f4⟩
    · have h74 : gI (sI τ4 1 4) 7 = nI G := hf4.2.1
      have h14 : gI (sI τ4 1 4) 1 = 4 := rfl
      have cG : nI G ≤ nI (G + 1 - 1) := nI_le (by omega) (by omega)
      rw [f3, Option.bind_some, Option.bind_some, f4, Option.bind_some, Option.bind_some, h14, if_neg (by decide), h74, if_pos cG]
      refine ⟨_, _, rfl, rfl, ?_, ?_⟩
      · exact Fin.stop (hd3.off (fun a ha => p3.2 a (by simp; omega)) (fun a ha => p4.2 a (by simp; omega))) hf4 (hpl3.offs p3 p4 (by simp) (by simp)) hm4 ho4 (by decide) (by decide)
      · show τ4.1 0 = _
        rw [p4.1 0 (by decide), h03]
    · have h14 : gI τ4 1 = 1 := by rw [p_gI, p4.1 1 (by decide), p2.1 1 (by decide)]; exact t1m
      rw [f3, Option.bind_some, Option.bind_some, f4, Option.bind_some, Option.bind_some, h14, if_pos (by decide)]
      refine ⟨_, _, rfl, rfl, ?_, by rw [p4.1 0 (by decide), h03]⟩
      have hT4 : TmR σ4 τ4 := ⟨by rw [p3.1 3 (by decide), p4.1 3 (by decide)]; exact hT3.1, fun s hs => by rw [p3.2 4 (by decide), p4.2 3 (by decide)]; exact hT3.2 s hs⟩
      have hg4 : GoR n G sg L (upF (upF be (G + 1) (be (G + 1) - 1)) G (upF be (G + 1) (be (G + 1) - 1) G + 1)) rs1 lim σ4 τ4 := ⟨hd3.off (fun a ha => p3.2 a (by simp; omega)) (fun a ha => p4.2 a (by simp; omega)), hf4, hm4, ho4, hT4, by rw [p3.1 2 (by decide), p1.1 2 (by decide)]; exact s2m, h14, by omega⟩
      exact hg4.fin (hpl3.offs p3 p4 (by simp) (by simp))
theorem op_12 (hg : GoR n F sg L be rs lim σ τ) (hp : PlR F σ τ) {i : Nat} (hb : 1 ≤ be F - be (F - 1)) : Did (dI (nI (sg (F - 1))) (nI i) 12 σ) (b_X5_one_121 (nI (F - 1)) (nI (sg (F - 1))) (nI i) 12 1 τ) τ := by
  obtain ⟨hd, hf, hm, ho, hT, s2, t1, hF⟩ := id hg
  obtain ⟨F5, W1⟩ := FrR.F_le hm
  obtain ⟨b0, hb0⟩ := p_byS hd (p_F1 hF hf).1 (nI i + 1)
  obtain ⟨q1, q2, q3, q4, P, hP, p1, p2, p3⟩ := id ho
  unfold Did
  rw [d_m12, hb0, Option.bind_some, p_m12 (p_last hF hm hf).2.2.2.1]
  unfold f_X3_putOut
  rw [p_gI, p1, p_gI, p2]
  by_cases c : P < 40
  · have c1 : nI P < (40 : Int32) := nI_lt (b := 40) c (by decide)
    have c2 : ¬ (40 : Int32) ≤ nI P := nI_ge (b := 40) c (by decide)
    obtain ⟨v, σ1, τ1, o1, o2, hg1, e1, e2⟩ := g_take hg (by omega)
    have hp1 : PlR F σ1 τ1 := hp.offs o1 o2 (by simp) (by simp)
    obtain ⟨hd1, hf1, hm1, ho1, hT1, s21, t11, -⟩ := id hg1
    have hin : inB (nI P) 40 = true := p_in c (by decide)
    have g0 : gI σ1 0 = nI P := by rw [p_gI, o1.1 0 (by simp), p1]
    have g10 : gI τ1 10 = nI P := by rw [p_gI, o2.1 10 (by simp), p2]
    have h1 : gI τ1 1 = 1 := t11
    rw [if_pos c1, if_neg c2, e1, Option.bind_some, if_pos hin, e2, Option.bind_some, g0, g10, if_pos hin, h1, if_pos (by decide), nI_1 P]
    obtain ⟨σ2, eσ⟩ : ∃ z, z = sI (sA σ1 1 (nI P) v) 0 (nI (P + 1)) := ⟨_, rfl⟩
    obtain ⟨τ2, eτ⟩ : ∃ z, z = sI (sA (sA τ1 5 (nI (F - 1)) (nI i + 1)) 10 (nI P) v) 10 (nI (P + 1)) := ⟨_, rfl⟩
    have oa : Off [0] [1] σ1 σ2 := by rw [eσ]; exact off_sI (off_sA Off.rf (by simp)) (by simp)
    have ob : Off [10] [5, 10] τ1 τ2 := by rw [eτ]; exact off_sI (off_sA (off_sA Off.rf (by simp)) (by simp)) (by simp)
    show ∃ σ' τ', (((f_X1_moveTo (nI i + 1) (sI (sA σ1 1 (nI P) v) 0 (nI (P + 1)))).bind _).bind _ = some (0, σ')) ∧ (some (0, sI (sA (sA τ1 5 (nI (F - 1)) (nI i + 1)) 10 (nI P) v) 10 (nI (P + 1))) = some (0, τ')) ∧ _
    rw [← eσ, ← eτ]
    have hg2 : GoR n F sg L (upF be F (be F - 1)) rs lim σ2 τ2 := by
      refine ⟨hd1.off (fun a ha => oa.2 a (by simp; omega)) (fun a ha => ob.2 a (by simp; omega)), hf1.off (oa.1 9 (by simp)) (oa.1 10 (by simp)) (fun a ha => oa.2 a (by simp; omega)) (ob.1 7 (by simp)) (ob.1 8 (by simp)) (fun a ha => ob.2 a (by simp; omega)), hm1.off (rs2 := rs) rfl (oa.1 5 (by simp)) (oa.1 4 (by simp)) (oa.2 2 (by simp)) (oa.2 3 (by simp)) (ob.2 2 (by simp)) (ob.1 2 (by simp)), ?_, ?_, ?_, ?_, hF⟩
      · obtain ⟨y1, y2, y3, y4, -⟩ := ho1
        refine ⟨by rw [oa.1 6 (by simp), ob.1 4 (by simp)]; exact y1, by rw [oa.1 7 (by simp), ob.1 5 (by simp)]; exact y2, by rw [oa.1 8 (by simp), ob.1 6 (by simp)]; exact y3, by rw [oa.1 1 (by simp), ob.1 9 (by simp)]; exact y4, P + 1, by omega, by rw [eσ]; rfl, by rw [eτ]; rfl, fun j hj => ?_⟩
        rw [eσ, eτ, p_sI2, p_sI2, p_sA5 (by omega), p_sA5 (by omega)]
        by_cases cj : j = P
        · rw [if_pos cj, if_pos cj]
        · rw [if_neg cj, if_neg cj, p_sA2 (by omega), o1.2 1 (by simp), o2.2 10 (by simp)]
          simp only [(by decide : ¬ (10 : Nat) = 5), false_and, if_false]
          exact p3 j (by omega)
      · exact ⟨by rw [oa.1 3 (by simp), ob.1 3 (by simp)]; exact hT1.1, fun s hs => by rw [oa.2 4 (by simp), ob.2 3 (by simp)]; exact hT1.2 s hs⟩
      · rw [oa.1 2 (by simp)]; exact s21
      · rw [ob.1 1 (by simp)]; exact t11
    rw [p_move hF hg2.2.2.1 hg2.2.1, Option.bind_some, Option.bind_some]
    refine ⟨_, _, rfl, rfl, ?_, ?_⟩
    · refine (hg2.off off_6 Off.rf).fin (hp1.put (f := F - 1) (p := nI i + 1) (fun j => ?_) (fun j => ?_))
      · rw [p_sA5 (by omega), oa.2 6 (by simp)]
      · rw [eτ, p_sI2, p_sA2 (by omega), p_sA5 (by omega)]
        simp only [(by decide : ¬ (5 : Nat) = 10), false_and, if_false]
    · rw [ob.1 0 (by simp), o2.1 0 (by simp)]
  · have c1 : ¬ nI P < (40 : Int32) := nI_nlt (b := 40) (by omega) (by omega)
    have c2 : (40 : Int32) ≤ nI P := nI_le (a := 40) (by omega) (by omega)
    rw [if_neg c1, if_pos c2, Option.bind_some]
    exact ⟨_, _, rfl, rfl, Fin.stop hd hf hp hm ho (by decide) (by decide), rfl⟩
end Od
/-- one instruction in both -/
theorem p_one {σ τ : St} (h : Fin σ τ) (h1 : σ.1 2 = 1) : Did (f_X3_doInstruction σ) (f_X5_one τ) τ := by
  obtain ⟨n, F, sg, L, be, rs, lim, hd, hf, hp, hm, ho, h2, h3, h4⟩ := h
  obtain ⟨hF, hT⟩ := h4 h1
  have hg : GoR n F sg L be rs lim σ τ := ⟨hd, hf, hm, ho, hT, h1, by rw [← h2]; exact h1, hF⟩
  rcases p_front hg hp with ⟨e1, e2⟩ | ⟨o, i, ho13, a1, a2, hl, ht, e1, e2⟩
  · exact ⟨_, _, e1, e2, Fin.stop hd hf hp hm ho (by decide) (by decide), rfl⟩
  · rw [e1, e2]
    rcases o13 ho13 with rfl | rfl | rfl | rfl | rfl | rfl | rfl | rfl | rfl | rfl | rfl | rfl | rfl
    · exact op_0 hg hp a2
    · exact op_1 hg hp a2 hl
    · exact op_2 hg hp a2 hl
    · exact op_3 hg hp a2 hl ht
    · exact op_4 hg hp a2 ht
    · exact op_5 hg hp a2 ht
    · exact op_6 hg hp a2 ht
    · exact op_7 hg hp a2 ht
    · exact op_8 hg hp hl ht
    · exact op_9 hg hp hl
    · exact op_10 hg hp a2 hl ht
    · exact op_11 hg hp a2 ht
    · exact op_12 hg hp ht
