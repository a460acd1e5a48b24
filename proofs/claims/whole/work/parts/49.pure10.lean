section Bk
variable {n : Nat → Nat} {F G lim : Nat} {sg L be : Nat → Nat} {rs : Nat → Bool} {σ τ σ1 τ1 : St}
/-- the latest frame goes -/
theorem p_drop (hf : FrR (G + 1) sg L be σ τ) (hm : MeR n (G + 1) sg L be rs lim σ τ) (ho : OtR σ τ) (hT : TmR σ τ) :
    ∃ σ1 σ2, Off [5, 9, 10] [3] σ σ2 ∧ f_X2_dropFrame (nI (sg G)) (nI (8 + 4 * L G + 4 * (be (G + 1) - be G))) σ = some (0, σ1) ∧ f_X1_close σ1 = some (0, σ2) ∧
      FrR G sg L be σ2 (sI (sI τ 7 (nI G)) 8 (nI (be G))) ∧ MeR n G sg L be rs lim σ2 (sI (sI τ 7 (nI G)) 8 (nI (be G))) ∧ OtR σ2 (sI (sI τ 7 (nI G)) 8 (nI (be G))) ∧ TmR σ2 (sI (sI τ 7 (nI G)) 8 (nI (be G))) := by
  obtain ⟨F5, W1⟩ := FrR.F_le hm
  obtain ⟨b1, b2, b3, b4, b5, b6, b7⟩ := id hf
  obtain ⟨c1, c2, c3, c4, c5, c6⟩ := id hm
  obtain ⟨g1, g2, g3, g4, g5, -, g7, g8, g9, g10⟩ := b5 G (by omega)
  have p5 := (p_s5 g1).2.2
  have hcl := cnt_le sg (sg G) (G + 1)
  have hc1 : cnt sg (sg G) (G + 1) = cnt sg (sg G) G + 1 := by rw [cnt, if_pos rfl]
  have hh : hld n (G + 1) L be rs = hld n G L be rs + (8 + 4 * L G + 4 * (be (G + 1) - be G)) := by
    unfold hld
    rw [sm_84, sm_84, sm]
    omega
  have hact : f_X2_isActive (nI (sg G)) σ = some 1 := by
    unfold f_X2_isActive
    rw [p_isC g1, Option.bind_some, if_neg i10, if_pos p5, p_gA (by omega), (c1 _ g1).2.2.2, if_neg (nI_nle (by omega) (by omega))]
  obtain ⟨σ1, e1⟩ : ∃ z, z = sI (sA σ 3 (nI (sg G)) (nI (cnt sg (sg G) G))) 5 (nI (hld n G L be rs)) := ⟨_, rfl⟩
  have o1 : Off [5] [3] σ σ1 := by rw [e1]; exact off_sI (off_sA Off.rf (by decide)) (by decide)
  have s5 : σ1.1 5 = nI (hld n G L be rs) := by rw [e1]; rfl
  have s3 : ∀ j, σ1.2 3 j = if j = sg G then nI (cnt sg (sg G) G) else σ.2 3 j := fun j => by
    rw [e1, p_sI2, p_sA2 (by omega)]
    simp only [true_and]
  have eD : f_X2_dropFrame (nI (sg G)) (nI (8 + 4 * L G + 4 * (be (G + 1) - be G))) σ = some (0, σ1) := by
    unfold f_X2_dropFrame
    have e2 : nI (cnt sg (sg G) (G + 1)) - 1 = nI (cnt sg (sg G) G) := by
      rw [hc1]
      exact nI_pred _
    rw [hact, Option.bind_some, if_neg i10, if_pos p5, if_pos p5, p_gA (by omega), (c1 _ g1).2.2.2, e2, p_gI, c2, hh, p_sub (by omega), show hld n G L be rs + (8 + 4 * L G + 4 * (be (G + 1) - be G)) - (8 + 4 * L G + 4 * (be (G + 1) - be G)) = hld n G L be rs by omega, e1]
  obtain ⟨σ2, e2⟩ : ∃ z, z = sI (sI σ1 9 (nI G)) 10 (nI (be G + sm L G)) := ⟨_, rfl⟩
  have o2 : Off [9, 10] [] σ1 σ2 := by rw [e2]; exact off_sI (off_sI Off.rf (by decide)) (by decide)
  have eC : f_X1_close σ1 = some (0, σ2) := by
    unfold f_X1_close
    have e9 : gI σ1 9 = nI (G + 1) := by rw [p_gI, o1.1 9 (by decide)]; exact b1
    have e91 : nI (G + 1) - 1 = nI G := nI_pred G
    have e8 : gA σ1 8 (nI G) = nI (be G + sm L G) := by rw [p_gA (by omega), o1.2 8 (by decide)]; exact g9
    rw [e9, if_neg (nI_nle (by omega) (by omega)), e91, if_pos (p_in (n := 500) (by omega) (by decide)), e8, ← e2]
  obtain ⟨τ2, e3⟩ : ∃ z, z = sI (sI τ 7 (nI G)) 8 (nI (be G)) := ⟨_, rfl⟩
  have o3 : Off [7, 8] [] τ τ2 := by rw [e3]; exact off_sI (off_sI Off.rf (by decide)) (by decide)
  refine ⟨σ1, σ2, (off_mono o1 (by decide) (by decide)).tr (off_mono o2 (by decide) (by decide)), eD, eC, ?_⟩
  rw [← e3]
  refine ⟨?_, ?_, ?_, ?_⟩
  · refine ⟨by rw [e2]; rfl, by rw [e3]; rfl, by rw [e2]; rfl, by rw [e3]; rfl, fun f q => ?_, fun f k q hk => ?_, fun f j q hj1 hj2 => ?_⟩
    · rw [o2.2 5 (by decide), o1.2 5 (by decide), o2.2 7 (by decide), o1.2 7 (by decide), o2.2 8 (by decide), o1.2 8 (by decide), o3.2 4 (by decide), o3.2 6 (by decide), o3.2 8 (by decide)]
      exact b5 f (by omega)
    · rw [o2.2 9 (by decide), o1.2 9 (by decide), o3.2 7 (by decide)]
      exact b6 f k (by omega) hk
    · rw [o2.2 9 (by decide), o1.2 9 (by decide), o3.2 9 (by decide)]
      exact b7 f j (by omega) hj1 hj2
  · refine ⟨fun s hs => ?_, by rw [o2.1 5 (by decide)]; exact s5, by omega, c4, by rw [o2.1 4 (by decide), o1.1 4 (by decide)]; exact c5, by rw [o3.1 2 (by decide)]; exact c6⟩
    obtain ⟨z1, z2, z3, z4⟩ := c1 s hs
    refine ⟨by rw [o3.2 2 (by decide)]; exact z1, by rw [o2.2 2 (by decide), o1.2 2 (by decide)]; exact z2, z3, ?_⟩
    rw [o2.2 3 (by decide), s3]
    by_cases hj : s = sg G
    · rw [if_pos hj, hj]
    · rw [if_neg hj, z4, cnt, if_neg (fun e => hj e.symm), Nat.add_zero]
  · exact ho.off (by rw [o2.1 6 (by decide), o1.1 6 (by decide)]) (by rw [o2.1 7 (by decide), o1.1 7 (by decide)]) (by rw [o2.1 8 (by decide), o1.1 8 (by decide)]) (by rw [o2.1 1 (by decide), o1.1 1 (by decide)]) (by rw [o2.1 0 (by decide), o1.1 0 (by decide)]) (by rw [o2.2 1 (by decide), o1.2 1 (by decide)]) (o3.1 4 (by decide)) (o3.1 5 (by decide)) (o3.1 6 (by decide)) (o3.1 9 (by decide)) (o3.1 10 (by decide)) (o3.2 10 (by decide))
  · exact ⟨by rw [o2.1 3 (by decide), o1.1 3 (by decide), o3.1 3 (by decide)]; exact hT.1, fun s hs => by rw [o2.2 4 (by decide), o1.2 4 (by decide), o3.2 3 (by decide)]; exact hT.2 s hs⟩
end Bk
/-! the relation of class and reference where there is a run -/
def Fin (σ τ : St) : Prop := ∃ (n : Nat → Nat) (F : Nat) (sg L be : Nat → Nat) (rs : Nat → Bool) (lim : Nat), DiskR n σ τ ∧ FrR F sg L be σ τ ∧ PlR F σ τ ∧ MeR n F sg L be rs lim σ τ ∧ OtR σ τ ∧ σ.1 2 = τ.1 1 ∧ ¬ σ.1 2 = 0 ∧ (σ.1 2 = 1 → 1 ≤ F ∧ TmR σ τ)
section Fi
variable {n : Nat → Nat} {F lim : Nat} {sg L be : Nat → Nat} {rs : Nat → Bool} {σ τ σ1 τ1 : St}
/-- a run that ends: only its state is set -/
theorem Fin.stop (hd : DiskR n σ τ) (hf : FrR F sg L be σ τ) (hp : PlR F σ τ) (hm : MeR n F sg L be rs lim σ τ) (ho : OtR σ τ) {k : Int32} (hk0 : ¬ k = 0) (hk1 : ¬ k = 1) : Fin (sI σ 2 k) (sI τ 1 k) :=
  ⟨n, F, sg, L, be, rs, lim, hd, hf, hp, hm, ho, rfl, hk0, fun q => absurd q hk1⟩
theorem PlR.off (hp : PlR F σ τ) (h1 : σ1.2 6 = σ.2 6) (h2 : τ1.2 5 = τ.2 5) : PlR F σ1 τ1 := fun f q => by rw [h1, h2]; exact hp f q
end Fi
