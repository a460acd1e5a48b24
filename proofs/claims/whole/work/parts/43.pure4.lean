section Rm
variable {n : Nat → Nat} {F lim : Nat} {sg L be : Nat → Nat}
theorem p_sub {a b : Nat} (h : b ≤ a) : nI a - nI b = nI (a - b) := pk_sub h
/-- room is made alike: the class counts the new bytes already, the reference not yet -/
theorem p_hold (hn : ∀ s, s < 5 → n s ≤ 80) (hF : F ≤ 500) {b : Nat} (hb : b ≤ 1000) (x : Int32) :
    ∀ (k w f1 f2 : Nat) (rs : Nat → Bool) (σ τ : St), nres rs = k → k + w ≤ 5 → k < f1 → k < f2 → τ.1 7 = nI F → τ.1 8 = nI (be F) → (∀ f, f < F → sg f < 5 ∧ τ.2 4 f = nI (sg f) ∧ τ.2 6 f = nI (L f)) → (∀ s, s < 5 → τ.2 1 s = nI (n s)) → MeR n F sg L be rs lim σ τ → TmX x σ τ → σ.1 8 = τ.1 6 →
    ∃ rs1 σ1 τ1, Off [5, 8] [2] σ σ1 ∧ Off [6] [2] τ τ1 ∧ MeR n F sg L be rs1 lim σ1 τ1 ∧ σ1.1 8 = τ1.1 6 ∧ (∀ s, s < 5 → (0 < cnt sg s F ∨ nI s = x) → rs1 s = rs s) ∧
      ((b_X2_hold_2 f1 (nI b) x (nI w) σ = some (0, σ1) ∧ b_X5_room_0 f2 (nI b) x τ = some (0, sI τ1 1 4)) ∨
       (hld n F L be rs1 + b ≤ lim ∧ b_X2_hold_2 f1 (nI b) x (nI w) σ = some (1, sI (sI σ1 5 (nI (hld n F L be rs1 + b))) 6 (if σ1.1 6 < nI (hld n F L be rs1 + b) then nI (hld n F L be rs1 + b) else σ1.1 6)) ∧ b_X5_room_0 f2 (nI b) x τ = some (1, τ1))) := by
  intro k
  induction k with
  | zero =>
    intro w f1 f2 rs σ τ hk hw hf1 hf2 h7 h8 hf hl hM hT h86
    obtain ⟨f1, rfl⟩ : ∃ f, f1 = f + 1 := ⟨f1 - 1, by omega⟩
    obtain ⟨f2, rfl⟩ : ∃ f, f2 = f + 1 := ⟨f2 - 1, by omega⟩
    obtain ⟨m1, m2, m3, m4, m5, m6⟩ := id hM
    have hheld := p_held hF h7 h8 (fun f q => (hf f q).2.2) hl (fun s q => (m1 s q).1)
    have e1 : (nI (hld n F L be rs) : Int32) + nI b = nI (hld n F L be rs + b) := nI_add _ _
    refine ⟨rs, σ, τ, Off.rf, Off.rf, hM, h86, fun _ _ _ => rfl, ?_⟩
    rw [b_X2_hold_2, b_X5_room_0, hheld, Option.bind_some]
    simp only [p_gI, m2, e1, m5, m6]
    by_cases hc : hld n F L be rs + b ≤ lim
    · refine Or.inr ⟨hc, ?_, ?_⟩
      · rw [if_pos (nI_le hc (by omega))]
        unfold b_X2_hold_75
        simp only [p_gI, m2, e1, m5]
        rw [if_pos (nI_le hc (by omega))]
      · rw [if_pos (nI_le hc (by omega))]
    · have hcn : ¬ nI (hld n F L be rs + b) ≤ nI lim := nI_ge (by omega) (by omega)
      refine Or.inl ⟨?_, ?_⟩
      · rw [if_neg hcn]
        by_cases hw5 : w = 5
        · subst hw5
          rw [if_pos (by decide)]
          unfold b_X2_hold_75
          simp only [p_gI, m2, e1, m5]
          rw [if_neg hcn]
        · rw [if_neg (p_s5 (by omega)).2.1]
          unfold f_X2_leastLatelyCalled
          obtain ⟨r, r1, r2, -, -⟩ := p_ll hn hF h7 (fun f q => ⟨(hf f q).1, (hf f q).2.1⟩) m1 x hT 5 0 6 7 (-1) (by omega) (by omega) (by omega) (Or.inl rfl)
          have r2 : b_X2_leastLatelyCalled_4 6 x (-1) 0 σ = some r := r2
          rw [r2, Option.bind_some]
          rcases r1 with hr | ⟨g, g5, -, gr, -⟩
          · rw [if_pos hr]
          · have := nres_x g5 gr
            omega
      · rw [if_neg hcn]
        obtain ⟨r, r1, -, r3, -⟩ := p_ll hn hF h7 (fun f q => ⟨(hf f q).1, (hf f q).2.1⟩) m1 x hT 5 0 6 7 (-1) (by omega) (by omega) (by omega) (Or.inl rfl)
        have r3 : ∀ kk y1, b_X5_room_18 kk 7 y1 x (-1) 0 τ = kk y1 x r τ := r3
        rw [r3]
        rcases r1 with hr | ⟨g, g5, -, gr, -⟩
        · subst hr
          rw [if_neg (by decide)]
        · have := nres_x g5 gr
          omega
  | succ k ih =>
    intro w f1 f2 rs σ τ hk hw hf1 hf2 h7 h8 hf hl hM hT h86
    obtain ⟨f1, rfl⟩ : ∃ f, f1 = f + 1 := ⟨f1 - 1, by omega⟩
    obtain ⟨f2, rfl⟩ : ∃ f, f2 = f + 1 := ⟨f2 - 1, by omega⟩
    obtain ⟨m1, m2, m3, m4, m5, m6⟩ := id hM
    have hheld := p_held hF h7 h8 (fun f q => (hf f q).2.2) hl (fun s q => (m1 s q).1)
    have e1 : (nI (hld n F L be rs) : Int32) + nI b = nI (hld n F L be rs + b) := nI_add _ _
    by_cases hc : hld n F L be rs + b ≤ lim
    · refine ⟨rs, σ, τ, Off.rf, Off.rf, hM, h86, fun _ _ _ => rfl, Or.inr ⟨hc, ?_, ?_⟩⟩
      · rw [b_X2_hold_2]
        simp only [p_gI, m2, e1, m5]
        rw [if_pos (nI_le hc (by omega))]
        unfold b_X2_hold_75
        simp only [p_gI, m2, e1, m5]
        rw [if_pos (nI_le hc (by omega))]
      · rw [b_X5_room_0, hheld, Option.bind_some, e1, p_gI, m6, if_pos (nI_le hc (by omega))]
    · have hcn : ¬ nI (hld n F L be rs + b) ≤ nI lim := nI_ge (by omega) (by omega)
      obtain ⟨r, r1, r2, r3, -⟩ := p_ll hn hF h7 (fun f q => ⟨(hf f q).1, (hf f q).2.1⟩) m1 x hT 5 0 6 7 (-1) (by omega) (by omega) (by omega) (Or.inl rfl)
      have r2 : b_X2_leastLatelyCalled_4 6 x (-1) 0 σ = some r := r2
      have r3 : ∀ kk y1, b_X5_room_18 kk 7 y1 x (-1) 0 τ = kk y1 x r τ := r3
      have hC : b_X2_hold_2 (f1 + 1) (nI b) x (nI w) σ = if r = (-1) then some (0, σ) else if inB r 5 = true then if inB r 5 = true then b_X2_hold_2 f1 (nI b) x (nI w + 1) (sI (sA (sI σ 5 ((gI σ 5) - (gA σ 2 r))) 2 r 0) 8 ((gI σ 8) + 1)) else none else none := by
        rw [b_X2_hold_2, p_gI, p_gI, m2, e1, m5, if_neg hcn, if_neg (p_s5 (show w < 5 by omega)).2.1]
        unfold f_X2_leastLatelyCalled
        rw [r2, Option.bind_some]
      have hMd : b_X5_room_0 (f2 + 1) (nI b) x τ = if 0 ≤ r then if inB r 5 = true then b_X5_room_0 f2 (nI b) x (sI (sA τ 2 r (vp_nar .boolean 0)) 6 ((gI τ 6) + 1)) else none else some (0, sI τ 1 4) := by
        rw [b_X5_room_0, hheld, Option.bind_some, e1, p_gI, m6, if_neg hcn, r3]
      rcases r1 with hr | ⟨g, g5, hr, gr, gc, gx⟩
      · subst hr
        refine ⟨rs, σ, τ, Off.rf, Off.rf, hM, h86, fun _ _ _ => rfl, Or.inl ⟨?_, ?_⟩⟩
        · rw [hC, if_pos rfl]
        · rw [hMd, if_neg (by decide)]
      · subst hr
        have hx1 := hld_x (n := n) (F := F) (L := L) (be := be) g5 gr
        have ez : rsz n rs g = n g := by unfold rsz; rw [if_pos gr]
        rw [if_neg (i_m1 g g5), if_pos (p_s5 g5).2.2, if_pos (p_s5 g5).2.2, nI_1, p_gA (by omega), (m1 g g5).2.1, ez, p_gI, m2, p_sub (by omega)] at hC
        rw [if_pos (nI_pos' (by omega)), if_pos (p_s5 g5).2.2] at hMd
        have ehl : hld n F L be rs - n g = hld n F L be (rsx rs g) := by omega
        rw [ehl] at hC
        generalize hσ : sI (sA (sI σ 5 (nI (hld n F L be (rsx rs g)))) 2 (nI g) 0) 8 ((gI σ 8) + 1) = σ2 at hC
        generalize hτ : sI (sA τ 2 (nI g) (vp_nar .boolean 0)) 6 ((gI τ 6) + 1) = τ2 at hMd
        have oσ : Off [5, 8] [2] σ σ2 := by
          rw [← hσ]
          exact off_sI (off_sA (off_sI Off.rf (by decide)) (by decide)) (by decide)
        have oτ : Off [6] [2] τ τ2 := by
          rw [← hτ]
          exact off_sI (off_sA Off.rf (by decide)) (by decide)
        have s5 : σ2.1 5 = nI (hld n F L be (rsx rs g)) := by rw [← hσ]; rfl
        have s8 : σ2.1 8 = σ.1 8 + 1 := by rw [← hσ]; rfl
        have t6 : τ2.1 6 = τ.1 6 + 1 := by rw [← hτ]; rfl
        have s2 : ∀ s, σ2.2 2 s = if s = g then 0 else σ.2 2 s := fun s => by
          rw [← hσ, p_sI2, p_sA2 (by omega)]
          simp only [true_and]
          rfl
        have t2 : ∀ s, τ2.2 2 s = if s = g then 0 else τ.2 2 s := fun s => by
          rw [← hτ, p_sI2, p_sA2 (by omega)]
          simp only [true_and]
          rfl
        have hM2 : MeR n F sg L be (rsx rs g) lim σ2 τ2 := by
          refine ⟨fun s hs => ?_, s5, by omega, m4, (oσ.1 4 (by decide)).trans m5, (oτ.1 2 (by decide)).trans m6⟩
          obtain ⟨a1, a2, a3, a4⟩ := m1 s hs
          have e3 : σ2.2 3 s = nI (cnt sg s F) := by rw [oσ.2 3 (by decide)]; exact a4
          rw [s2, t2]
          by_cases hsg : s = g
          · subst hsg
            refine ⟨by simp [bI, rsx], by simp [rsz, rsx, nI_0], fun q => by simp [rsx] at q, e3⟩
          · rw [if_neg hsg, if_neg hsg]
            refine ⟨by simp only [rsx, if_neg hsg]; exact a1, by simp only [rsz, rsx, if_neg hsg]; exact a2, fun q => a3 (by simpa only [rsx, if_neg hsg] using q), e3⟩
        have hT2 : TmX x σ2 τ2 := fun s hs hx9 => by rw [oσ.2 4 (by decide), oτ.2 3 (by decide)]; exact hT s hs hx9
        obtain ⟨rs1, σ1, τ1, a1, a2, a3, a4, a5, a6⟩ := ih (w + 1) f1 f2 (rsx rs g) σ2 τ2 (by have := nres_x g5 gr; omega) (by omega) (by omega) (by omega) (by rw [oτ.1 7 (by decide)]; exact h7) (by rw [oτ.1 8 (by decide)]; exact h8) (fun f q => by rw [oτ.2 4 (by decide), oτ.2 6 (by decide)]; exact hf f q) (fun s q => by rw [oτ.2 1 (by decide)]; exact hl s q) hM2 hT2 (by rw [s8, t6, h86])
        refine ⟨rs1, σ1, τ1, oσ.tr a1, oτ.tr a2, a3, a4, fun s hs hq => ?_, ?_⟩
        · rw [a5 s hs hq]
          have hsg : s ≠ g := fun e => by
            subst e
            rcases hq with q | q
            · omega
            · exact gx q
          simp only [rsx, if_neg hsg]
        · rw [hC, hMd]
          exact a6
end Rm
