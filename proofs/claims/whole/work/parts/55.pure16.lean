/-! class and reference, an answer at a time -/
def Zer (σ τ : St) : Prop := ∃ n : Nat → Nat, DiskR n σ τ ∧ τ.1 1 = 0 ∧ (∀ k, k ≤ 10 → σ.1 k = 0) ∧ ∀ s, s < 5 → σ.2 2 s = 0 ∧ σ.2 3 s = 0
def Rel (σ τ : St) : Prop := Zer σ τ ∨ Fin σ τ
def Ans (a : Option Rh) (b : Option (Int32 × St)) : Prop := ∃ k σ' o' r τ', a = some (k, (σ', o')) ∧ b = some (r, τ') ∧ τ'.1 0 = k ∧ (k = 0 → o' = r) ∧ Rel σ' τ'
def Anv (a : Option Rh) (b : Option (Int32 × St)) : Prop := ∃ k σ' o' r τ', a = some (k, (σ', o')) ∧ b = some (r, τ') ∧ τ'.1 0 = k ∧ Rel σ' τ'
section An
variable {σ τ : St}
theorem Zer.code (h : Zer σ τ) (z : Int32) : Zer σ (sI τ 0 z) := by
  obtain ⟨n, hd, h1, h2, h3⟩ := h
  exact ⟨n, hd, h1, h2, h3⟩
theorem Fin.code (h : Fin σ τ) (z : Int32) : Fin σ (sI τ 0 z) := by
  obtain ⟨n, F, sg, L, be, rs, lim, hd, hf, hp, hm, ho, h2, h3, h4⟩ := h
  exact ⟨n, F, sg, L, be, rs, lim, hd, hf, hp, hm, ho, h2, h3, h4⟩
theorem Rel.code (h : Rel σ τ) (z : Int32) : Rel σ (sI τ 0 z) := h.elim (fun h => Or.inl (h.code z)) (fun h => Or.inr (h.code z))
theorem Rel.disk (h : Rel σ τ) : ∃ n, DiskR n σ τ := by
  rcases h with ⟨n, hd, -⟩ | ⟨n, F, sg, L, be, rs, lim, hd, -⟩
  · exact ⟨n, hd⟩
  · exact ⟨n, hd⟩
theorem p_reqN {x : Int32} (h : x < 0 ∨ 5 ≤ x) : f_X4_requireSegment x σ = some ((1, 0), σ) := by
  unfold f_X4_requireSegment
  rw [p_noC h, Option.bind_some, if_pos rfl]
theorem p_reqY {s : Nat} (h : s < 5) : f_X4_requireSegment (nI s) σ = some ((0, 0), σ) := by
  unfold f_X4_requireSegment
  rw [p_isC h, Option.bind_some, if_neg i10]
theorem x10 : ¬ (1 : Nat) = 0 := by decide
theorem x20 : ¬ (2 : Nat) = 0 := by decide
theorem x21 : ¬ (2 : Nat) = 1 := by decide
theorem x12 : ¬ (1 : Nat) = 2 := by decide
theorem x30 : ¬ (3 : Nat) = 0 := by decide
theorem x31 : ¬ (3 : Nat) = 1 := by decide
/-- a run is forgotten, or begins -/
theorem p_emp (x : Int32) : ∀ (k s fu : Nat) (σ : St), s + k = 5 → k < fu → ∃ σ', b_X2_empty_2 fu x (nI s) σ = some (0, σ') ∧ Off [3, 4, 5, 6, 7, 8] [2, 3, 4] σ σ' ∧ σ'.1 3 = 0 ∧ σ'.1 4 = x ∧ σ'.1 5 = 0 ∧ σ'.1 6 = 0 ∧ σ'.1 7 = 0 ∧ σ'.1 8 = 0 ∧ (∀ j, j < 5 → (s ≤ j → σ'.2 2 j = 0 ∧ σ'.2 3 j = 0 ∧ σ'.2 4 j = 0) ∧ (j < s → σ'.2 2 j = σ.2 2 j ∧ σ'.2 3 j = σ.2 3 j ∧ σ'.2 4 j = σ.2 4 j)) := by
  intro k
  induction k with
  | zero =>
    intro s fu σ hs hf
    obtain ⟨fu, rfl⟩ : ∃ f, fu = f + 1 := ⟨fu - 1, by omega⟩
    have : s = 5 := by omega
    subst this
    refine ⟨_, by rw [b_X2_empty_2, if_pos (by decide)], off_sI (off_sI (off_sI (off_sI (off_sI (off_sI Off.rf (by simp)) (by simp)) (by simp)) (by simp)) (by simp)) (by simp), rfl, rfl, rfl, rfl, rfl, rfl, fun j hj => ⟨fun q => absurd q (by omega), fun _ => ⟨rfl, rfl, rfl⟩⟩⟩
  | succ k ih =>
    intro s fu σ hs hf
    obtain ⟨fu, rfl⟩ : ∃ f, fu = f + 1 := ⟨fu - 1, by omega⟩
    have hs5 : s < 5 := by omega
    have p5 := (p_s5 hs5).2.2
    obtain ⟨σ', e1, o1, h3, h4, h5, h6, h7, h8, h9⟩ := ih (s + 1) fu (sA (sA (sA σ 2 (nI s) 0) 3 (nI s) 0) 4 (nI s) 0) (by omega) (by omega)
    refine ⟨σ', ?_, Off.tr (off_sA (off_sA (off_sA Off.rf (by simp)) (by simp)) (by simp)) o1, h3, h4, h5, h6, h7, h8, fun j hj => ?_⟩
    · rw [b_X2_empty_2, if_neg (p_s5 hs5).2.1, if_pos p5, if_pos p5, if_pos p5, nI_1]
      exact e1
    · obtain ⟨y1, y2⟩ := h9 j hj
      refine ⟨fun q => ?_, fun q => ?_⟩
      · by_cases c : j = s
        · obtain ⟨z1, z2, z3⟩ := y2 (by omega)
          rw [z1, z2, z3]
          simp [p_sA2 (show s < 2 ^ 31 by omega), c]
        · exact y1 (by omega)
      · obtain ⟨z1, z2, z3⟩ := y2 (by omega)
        have c : ¬ j = s := by omega
        rw [z1, z2, z3]
        simp [p_sA2 (show s < 2 ^ 31 by omega), c]
theorem p_fresh (x y : Int32) (σ : St) : ∃ σ', f_X3_makeFresh x y σ = some (0, σ') ∧ Off [0, 1, 2, 3, 4, 5, 6, 7, 8, 9, 10] [2, 3, 4] σ σ' ∧ σ'.1 0 = 0 ∧ σ'.1 1 = 0 ∧ σ'.1 2 = y ∧ σ'.1 3 = 0 ∧ σ'.1 4 = x ∧ σ'.1 5 = 0 ∧ σ'.1 6 = 0 ∧ σ'.1 7 = 0 ∧ σ'.1 8 = 0 ∧ σ'.1 9 = 0 ∧ σ'.1 10 = 0 ∧ ∀ j, j < 5 → σ'.2 2 j = 0 ∧ σ'.2 3 j = 0 ∧ σ'.2 4 j = 0 := by
  obtain ⟨σ1, e1, o1, h3, h4, h5, h6, h7, h8, h9⟩ := p_emp x 5 0 6 σ (by omega) (by omega)
  refine ⟨sI (sI (sI (sI (sI σ1 9 0) 10 0) 0 0) 1 0) 2 y, ?_, ?_, rfl, rfl, rfl, h3, h4, h5, h6, h7, h8, rfl, rfl, fun j hj => (h9 j hj).1 (by omega)⟩
  · unfold f_X3_makeFresh f_X2_empty f_X1_empty
    have e1 : b_X2_empty_2 6 x 0 σ = some (0, σ1) := e1
    rw [e1, Option.bind_some, Option.bind_some]
  · exact off_sI (off_sI (off_sI (off_sI (off_sI (off_mono o1 (by decide) (by decide)) (by simp)) (by simp)) (by simp)) (by simp)) (by simp)
theorem p_forget (n : Nat → Nat) (hd : DiskR n σ τ) : ∃ σ', f_X3_forget σ = some (0, σ') ∧ DiskR n σ' τ ∧ (∀ k, k ≤ 10 → σ'.1 k = 0) ∧ ∀ s, s < 5 → σ'.2 2 s = 0 ∧ σ'.2 3 s = 0 := by
  obtain ⟨σ', e1, o1, h0, h1, h2, h3, h4, h5, h6, h7, h8, h9, h10, hr⟩ := p_fresh 0 0 σ
  refine ⟨σ', ?_, hd.off (fun a ha => o1.2 a (by simp; omega)) (fun _ _ => rfl), fun k hk => ?_, fun s hs => ⟨(hr s hs).1, (hr s hs).2.1⟩⟩
  · unfold f_X3_forget
    rw [e1, Option.bind_some]
  · have : k = 0 ∨ k = 1 ∨ k = 2 ∨ k = 3 ∨ k = 4 ∨ k = 5 ∨ k = 6 ∨ k = 7 ∨ k = 8 ∨ k = 9 ∨ k = 10 := by omega
    rcases this with rfl | rfl | rfl | rfl | rfl | rfl | rfl | rfl | rfl | rfl | rfl <;> assumption
/-- code -/
theorem a_code (h : Rel σ τ) (x y o : Int32) (hy : vp_nar .byte y = y) : Ans (f_L_code x y σ o) (f_X5_code x y τ) := by
  unfold f_L_code f_X4_code f_X5_code
  rcases p_seg x with ⟨-, hx⟩ | ⟨s, hs, rfl⟩
  · rw [p_reqN hx, Option.bind_some, if_neg x10, Option.bind_some, if_neg x10, if_pos rfl, p_noM hx, Option.bind_some, if_pos rfl]
    unfold b_X5_code_28
    rw [if_neg (by decide)]
    exact ⟨_, _, _, _, _, rfl, rfl, rfl, fun q => absurd q (by decide), h.code 1⟩
  · obtain ⟨n, hd⟩ := h.disk
    obtain ⟨h1, h2, h3, h4⟩ := hd s hs
    have p5 := (p_s5 hs).2.2
    have g1 : gA τ 1 (nI s) = nI (n s) := by rw [p_gA (by omega)]; exact h3
    rw [p_reqY hs, Option.bind_some, if_pos rfl, p_len hd hs, Option.bind_some, p_isM hs, Option.bind_some, if_neg i10, if_pos p5, g1]
    by_cases c : n s < 80
    · have c1 : nI (n s) < (80 : Int32) := nI_lt (b := 80) c (by decide)
      have c2 : ¬ nI (n s) = (80 : Int32) := fun q => absurd ((nI_inj (a := n s) (b := 80) (by omega) (by decide)).mp q) (by omega)
      have c3 : ¬ (80 : Int32) ≤ nI (n s) := nI_ge (b := 80) c (by decide)
      obtain ⟨σ1, e1, hd1, z1, z2⟩ := p_forget n hd
      have e80 : (80 : Int32) * nI s + nI (n s) = nI (80 * s + n s) := by rw [show (80 : Int32) = nI 80 from rfl, pk_mul, nI_add]
      have ea : f_X0_append (nI s) y σ1 = some (0, sA (sA σ1 (10 + s) (nI (n s)) y) 0 (nI s) (nI (n s + 1))) := by
        unfold f_X0_append
        rw [p_len hd1 hs, Option.bind_some, p_isC hs, Option.bind_some, if_neg i10, if_neg c3, if_pos p5, if_pos (p_in (n := 80) c (by decide)), if_pos p5, p_cl (by omega), hy, nI_1]
      have hd2 : DiskR (upF n s (n s + 1)) (sA (sA σ1 (10 + s) (nI (n s)) y) 0 (nI s) (nI (n s + 1))) (sI (sA (sA (sI τ 0 0) 0 (nI (80 * s + n s)) y) 1 (nI s) (nI (n s + 1))) 1 0) := fun s2 hs2 => by
        obtain ⟨k1, k2, k3, k4⟩ := hd1 s2 hs2
        rw [p_sI2, p_sA5 (by omega), p_sA5 (by omega)]
        by_cases c4 : s2 = s
        · subst c4
          rw [upF_s, if_pos rfl, if_pos rfl]
          refine ⟨by omega, rfl, rfl, fun i hi => ?_⟩
          have n1 : ¬ 10 + s2 = 0 := by omega
          have n2 : ¬ (0 : Nat) = 1 := by decide
          rw [p_sA2 (by omega), p_sA2 (by omega), p_sA2 (by omega), p_sA2 (by omega)]
          simp only [n1, n2, false_and, if_false, true_and]
          by_cases c5 : i = n s2
          · subst c5
            simp
          · rw [if_neg c5, if_neg (by omega)]
            exact k4 i (by omega)
        · rw [upF_n c4, if_neg c4, if_neg c4]
          have n1 : ¬ (0 : Nat) = 10 + s := by omega
          have n3 : ¬ (1 : Nat) = 0 := by decide
          have n4 : ¬ (0 : Nat) = 1 := by decide
          have n5 : ¬ 10 + s2 = 0 := by omega
          have n6 : ¬ 10 + s2 = 10 + s := by omega
          refine ⟨k1, ?_, ?_, fun i hi => ?_⟩
          · rw [p_sA2 (by omega)]
            simp only [n1, false_and, if_false]
            exact k2
          · rw [p_sA2 (by omega)]
            simp only [n3, false_and, if_false]
            exact k3
          · rw [p_sA2 (by omega), p_sA2 (by omega), p_sA2 (by omega), p_sA2 (by omega)]
            simp only [n4, n5, n6, false_and, if_false, true_and]
            rw [if_neg (by omega)]
            exact k4 i hi
      have el := p_len hd2 hs
      rw [upF_s] at el
      rw [if_pos c1, e1, Option.bind_some, ea, Option.bind_some, el, Option.bind_some, Option.bind_some, if_pos rfl, if_neg c2]
      unfold b_X5_code_28
      rw [if_pos (by decide), if_pos p5, g1, e80, if_pos (p_in (n := 400) (by omega) (by decide)), if_pos p5, if_pos p5, if_pos p5, nI_1]
      refine ⟨_, _, _, _, _, rfl, rfl, rfl, fun _ => ?_, Or.inl ⟨_, hd2, rfl, z1, fun s2 hs2 => ?_⟩⟩
      · rw [p_gA (by omega), p_sA5 (by omega), if_pos rfl]
      · have n1 : ¬ (2 : Nat) = 0 := by decide
        have n2 : ¬ (2 : Nat) = 10 + s := by omega
        have n3 : ¬ (3 : Nat) = 0 := by decide
        have n4 : ¬ (3 : Nat) = 10 + s := by omega
        rw [p_sA2 (by omega), p_sA2 (by omega), p_sA2 (by omega), p_sA2 (by omega)]
        simp only [n1, n2, n3, n4, false_and, if_false]
        exact z2 s2 hs2
    · have e8 : n s = 80 := by omega
      have c1 : ¬ nI (n s) < (80 : Int32) := by rw [e8]; decide
      have c2 : nI (n s) = (80 : Int32) := by rw [e8]; rfl
      rw [if_neg c1, if_pos c2, Option.bind_some, if_neg x30, if_neg x31, if_pos rfl]
      unfold b_X5_code_28
      rw [if_neg (by decide)]
      exact ⟨_, _, _, _, _, rfl, rfl, rfl, fun q => absurd q (by decide), h.code 2⟩
/-- clear -/
theorem a_clear (h : Rel σ τ) (x o : Int32) : Anv (f_L_clear x σ o) (f_X5_clear x τ) := by
  unfold f_L_clear f_X4_clear f_X5_clear
  rcases p_seg x with ⟨-, hx⟩ | ⟨s, hs, rfl⟩
  · rw [p_reqN hx, Option.bind_some, if_neg x10, Option.bind_some, if_neg x10, if_pos rfl, p_noM hx, Option.bind_some, if_pos rfl]
    exact ⟨_, _, _, _, _, rfl, rfl, rfl, h.code 1⟩
  · obtain ⟨n, hd⟩ := h.disk
    have p5 := (p_s5 hs).2.2
    obtain ⟨σ1, e1, hd1, z1, z2⟩ := p_forget n hd
    have ew : f_X0_wipe (nI s) σ1 = some (0, sA σ1 0 (nI s) 0) := by
      unfold f_X0_wipe
      rw [p_isC hs, Option.bind_some, if_neg i10, if_pos p5]
    rw [p_reqY hs, Option.bind_some, if_pos rfl, e1, Option.bind_some, ew, Option.bind_some, Option.bind_some, if_pos rfl, p_isM hs, Option.bind_some, if_neg i10, if_pos p5]
    refine ⟨_, _, _, _, _, rfl, rfl, rfl, Or.inl ⟨upF n s 0, fun s2 hs2 => ?_, rfl, z1, fun s2 hs2 => ?_⟩⟩
    · obtain ⟨k1, k2, k3, k4⟩ := hd1 s2 hs2
      rw [p_sI2, p_sA5 (by omega), p_sA5 (by omega)]
      by_cases c4 : s2 = s
      · subst c4
        rw [upF_s, if_pos rfl, if_pos rfl]
        exact ⟨by omega, rfl, rfl, fun i hi => absurd hi (by omega)⟩
      · rw [upF_n c4, if_neg c4, if_neg c4]
        have n4 : ¬ (0 : Nat) = 1 := by decide
        have n5 : ¬ 10 + s2 = 0 := by omega
        refine ⟨k1, k2, k3, fun i hi => ?_⟩
        rw [p_sA2 (by omega), p_sA2 (by omega)]
        simp only [n4, n5, false_and, if_false]
        exact k4 i hi
    · have n1 : ¬ (2 : Nat) = 0 := by decide
      have n3 : ¬ (3 : Nat) = 0 := by decide
      rw [p_sA2 (by omega), p_sA2 (by omega)]
      simp only [n1, n3, false_and, if_false]
      exact z2 s2 hs2
/-- good -/
theorem a_good (h : Rel σ τ) (x o : Int32) : Ans (f_L_good x σ o) (f_X5_good x τ) := by
  unfold f_L_good f_X4_good f_X5_good
  rcases p_seg x with ⟨-, hx⟩ | ⟨s, hs, rfl⟩
  · rw [p_reqN hx, Option.bind_some, if_neg x10, Option.bind_some, if_neg x10, if_pos rfl, p_noM hx, Option.bind_some, if_pos rfl]
    unfold b_X5_good_13
    rw [if_neg (by decide)]
    exact ⟨_, _, _, _, _, rfl, rfl, rfl, fun q => absurd q (by decide), h.code 1⟩
  · obtain ⟨n, hd⟩ := (h.code 0).disk
    obtain ⟨P, hP, e1, e2, -⟩ := p_prs hd (nI s)
    rw [p_reqY hs, Option.bind_some, if_pos rfl, e1, Option.bind_some, Option.bind_some, if_pos rfl, p_isM hs, Option.bind_some, if_neg i10]
    unfold b_X5_good_13
    rw [if_pos (by decide), e2, Option.bind_some]
    exact ⟨_, _, _, _, _, rfl, rfl, rfl, fun _ => rfl, h.code 0⟩
end An
