/-! a run's relation under what the methods do -/
theorem i_lt_le {a b : Int32} : ¬ a < b ↔ b ≤ a := by
  rw [Int32.lt_iff_toInt_lt, Int32.le_iff_toInt_le]
  omega
def mxI (a b : Int32) : Int32 := if a < b then b else a
theorem p_grown {τ : St} {h : Nat} (hh : f_X5_held τ = some (nI h)) : f_X5_grown τ = some (0, sI τ 4 (mxI (τ.1 4) (nI h))) := by
  unfold f_X5_grown mxI
  rw [hh, Option.bind_some, p_gI]
  by_cases c : τ.1 4 < nI h
  · rw [if_pos c, if_neg (fun q => i_lt_le.mpr q c)]
  · rw [if_neg c, if_pos (i_lt_le.mp c)]
theorem be_mono {be : Nat → Nat} {F : Nat} (h : ∀ g, g < F → be g ≤ be (g + 1)) {a : Nat} (ha : a ≤ F) : be a ≤ be F := by
  induction F with
  | zero => have : a = 0 := by omega
            subst this; exact Nat.le_refl _
  | succ F ih =>
    by_cases e : a = F + 1
    · subst e; exact Nat.le_refl _
    · exact Nat.le_trans (ih (fun g hg => h g (by omega)) (by omega)) (h F (by omega))
section Rr
variable {n : Nat → Nat} {F lim : Nat} {sg L be : Nat → Nat} {rs : Nat → Bool} {σ τ σ1 τ1 : St}
theorem FrR.off (h : FrR F sg L be σ τ) (h1 : σ1.1 9 = σ.1 9) (h2 : σ1.1 10 = σ.1 10) (h3 : ∀ a, a = 5 ∨ a = 7 ∨ a = 8 ∨ a = 9 → σ1.2 a = σ.2 a) (h4 : τ1.1 7 = τ.1 7) (h5 : τ1.1 8 = τ.1 8) (h6 : ∀ a, a = 4 ∨ a = 6 ∨ a = 7 ∨ a = 8 ∨ a = 9 → τ1.2 a = τ.2 a) : FrR F sg L be σ1 τ1 := by
  obtain ⟨a1, a2, a3, a4, a5, a6, a7⟩ := h
  refine ⟨h1.trans a1, h4.trans a2, h2.trans a3, h5.trans a4, fun f hf => ?_, fun f k hf hk => ?_, fun f j hf hj1 hj2 => ?_⟩
  · rw [h3 5 (by simp), h3 7 (by simp), h3 8 (by simp), h6 4 (by simp), h6 6 (by simp), h6 8 (by simp)]
    exact a5 f hf
  · rw [h3 9 (by simp), h6 7 (by simp)]
    exact a6 f k hf hk
  · rw [h3 9 (by simp), h6 9 (by simp)]
    exact a7 f j hf hj1 hj2
theorem DiskR.off (h : DiskR n σ τ) (h1 : ∀ a, a = 0 ∨ 10 ≤ a → σ1.2 a = σ.2 a) (h2 : ∀ a, a = 0 ∨ a = 1 → τ1.2 a = τ.2 a) : DiskR n σ1 τ1 := fun s hs => by
  rw [h1 0 (by simp), h1 (10 + s) (by omega), h2 0 (by simp), h2 1 (by simp)]
  exact h s hs
theorem FrR.F_le (h : MeR n F sg L be rs lim σ τ) : F ≤ 500 ∧ be F + sm L F ≤ 1000 := by
  have := p_bnd h.2.2.1 h.2.2.2.1
  omega
/-- a number is added on top -/
def upF (f : Nat → Nat) (k v : Nat) (j : Nat) : Nat := if j = k then v else f j
theorem upF_s {f : Nat → Nat} {k v : Nat} : upF f k v k = v := if_pos rfl
theorem upF_n {f : Nat → Nat} {k v j : Nat} (h : j ≠ k) : upF f k v j = f j := if_neg h
theorem hld_N {N : Nat} : hld n F L (upF be F N) rs + 4 * be F = hld n F L be rs + 4 * N := by
  unfold hld
  rw [upF_s]
  omega
theorem FrR.push (hf : FrR F sg L be σ τ) {v : Int32} (h9 : ∀ j, σ1.2 9 j = if j = be F + sm L F then v else σ.2 9 j) (h10 : σ1.1 10 = nI (be F + sm L F + 1)) (hs9 : σ1.1 9 = σ.1 9) (hs : ∀ a, a = 5 ∨ a = 7 ∨ a = 8 → σ1.2 a = σ.2 a) (t9 : ∀ j, τ1.2 9 j = if j = be F then v else τ.2 9 j) (t8 : τ1.1 8 = nI (be F + 1)) (t7 : τ1.1 7 = τ.1 7) (ht : ∀ a, a = 4 ∨ a = 6 ∨ a = 7 ∨ a = 8 → τ1.2 a = τ.2 a) : FrR F sg L (upF be F (be F + 1)) σ1 τ1 := by
  obtain ⟨b1, b2, b3, b4, b5, b6, b7⟩ := hf
  refine ⟨hs9.trans b1, t7.trans b2, by rw [upF_s, h10]; congr 1; omega, by rw [upF_s, t8], fun f q => ?_, fun f k q hk => ?_, fun f j q hj1 hj2 => ?_⟩
  · obtain ⟨g1, g2, g3, g4, g5, g6, g7, g8, g9, g10⟩ := b5 f q
    have eb : upF be F (be F + 1) f = be f := upF_n (by omega)
    rw [eb, hs 5 (by simp), hs 7 (by simp), hs 8 (by simp), ht 4 (by simp), ht 6 (by simp), ht 8 (by simp)]
    refine ⟨g1, g2, ?_, g4, g5, g6, g7, g8, g9, g10⟩
    by_cases hfF : f + 1 = F
    · rw [hfF, upF_s]
      rw [hfF] at g3
      omega
    · rw [upF_n hfF]
      exact g3
  · have eb : upF be F (be F + 1) f = be f := upF_n (by omega)
    have hle1 : sm L (f + 1) ≤ sm L F := sm_mono (by omega)
    have hbe : be f ≤ be F := be_mono (fun g hg => (b5 g hg).2.2.1) (Nat.le_of_lt q)
    rw [sm] at hle1
    rw [eb, h9, if_neg (by omega), ht 7 (by simp)]
    exact b6 f k q hk
  · have eb : upF be F (be F + 1) f = be f := upF_n (by omega)
    rw [eb] at hj1
    rw [h9, t9]
    by_cases hfF : f + 1 = F
    · rw [hfF, upF_s] at hj2
      by_cases hjF : j = be F
      · subst hjF
        rw [hfF, if_pos rfl, if_pos rfl]
      · rw [hfF, if_neg (by omega), if_neg hjF, ← hfF]
        exact b7 f j q hj1 (by rw [hfF]; omega)
    · rw [upF_n hfF] at hj2
      have hle1 : sm L (f + 1) ≤ sm L F := sm_mono (by omega)
      have hbe : be (f + 1) ≤ be F := be_mono (fun g hg => (b5 g hg).2.2.1) (by omega)
      rw [if_neg (by omega), if_neg (by omega)]
      exact b7 f j q hj1 hj2
theorem MeR.off {be2 : Nat → Nat} {rs2 : Nat → Bool} (hm : MeR n F sg L be rs lim σ τ) (e : hld n F L be2 rs = hld n F L be rs) (h5 : σ1.1 5 = σ.1 5) (h4 : σ1.1 4 = σ.1 4) (h2 : σ1.2 2 = σ.2 2) (h3 : σ1.2 3 = σ.2 3) (t2 : τ1.2 2 = τ.2 2) (t1 : τ1.1 2 = τ.1 2) : MeR n F sg L be2 rs lim σ1 τ1 := by
  obtain ⟨c1, c2, c3, c4, c5, c6⟩ := hm
  exact ⟨fun s hs => by rw [t2, h2, h3]; exact c1 s hs, by rw [h5, e]; exact c2, by rw [e]; exact c3, c4, h4.trans c5, t1.trans c6⟩
theorem nres_5 (rs : Nat → Bool) : nres rs ≤ 5 := by
  have h : nres rs ≤ sm (fun _ => 1) 5 := sm_le 5 (fun i _ => by split <;> omega)
  have h5 : sm (fun _ => 1) 5 = 5 := rfl
  omega
/-- room in both -/
theorem p_room (hd : DiskR n σ τ) (hf : FrR F sg L be σ τ) (hm : MeR n F sg L be rs lim σ τ) (ho : OtR σ τ) {b : Nat} (hb : b ≤ 1000) (x : Int32) (hT : TmX x σ τ) :
    ∃ rs1 σ1 τ1, Off [5, 8] [2] σ σ1 ∧ Off [6] [2] τ τ1 ∧ DiskR n σ1 τ1 ∧ FrR F sg L be σ1 τ1 ∧ MeR n F sg L be rs1 lim σ1 τ1 ∧ OtR σ1 τ1 ∧ (∀ s, s < 5 → (0 < cnt sg s F ∨ nI s = x) → rs1 s = rs s) ∧
      ((f_X2_hold (nI b) x σ = some (0, σ1) ∧ f_X5_room (nI b) x τ = some (0, sI τ1 1 4)) ∨
       (hld n F L be rs1 + b ≤ lim ∧ f_X2_hold (nI b) x σ = some (1, sI (sI σ1 5 (nI (hld n F L be rs1 + b))) 6 (mxI (σ1.1 6) (nI (hld n F L be rs1 + b)))) ∧ f_X5_room (nI b) x τ = some (1, τ1))) := by
  obtain ⟨F5, W1⟩ := FrR.F_le hm
  obtain ⟨a1, a2, a3, a4, a5, a6, a7⟩ := id hf
  have h5 := nres_5 rs
  obtain ⟨rs1, σ1, τ1, o1, o2, hm1, h86, hk, hres⟩ := p_hold (be := be) (lim := lim) (fun s hs => (hd s hs).1) F5 hb x (nres rs) 0 6 7 rs σ τ rfl (by omega) (by omega) (by omega) a2 a4 (fun f q => ⟨(a5 f q).1, (a5 f q).2.2.2.2.1, (a5 f q).2.2.2.2.2.2.2.1⟩) (fun s hs => (hd s hs).2.2.1) hm hT ho.2.2.1
  have hf1 : FrR F sg L be σ1 τ1 := hf.off (o1.1 9 (by decide)) (o1.1 10 (by decide)) (fun a ha => o1.2 a (by simp; omega)) (o2.1 7 (by decide)) (o2.1 8 (by decide)) (fun a ha => o2.2 a (by simp; omega))
  have hd1 : DiskR n σ1 τ1 := hd.off (fun a ha => o1.2 a (by simp; omega)) (fun a ha => o2.2 a (by simp; omega))
  obtain ⟨P, hP, p1, p2, p3⟩ := ho.2.2.2.2
  have ho1 : OtR σ1 τ1 := ⟨by rw [o1.1 6 (by decide), o2.1 4 (by decide)]; exact ho.1, by rw [o1.1 7 (by decide), o2.1 5 (by decide)]; exact ho.2.1, h86, by rw [o1.1 1 (by decide), o2.1 9 (by decide)]; exact ho.2.2.2.1, P, hP, by rw [o1.1 0 (by decide)]; exact p1, by rw [o2.1 10 (by decide)]; exact p2, fun i hi => by rw [o1.2 1 (by decide), o2.2 10 (by decide)]; exact p3 i hi⟩
  exact ⟨rs1, σ1, τ1, o1, o2, hd1, hf1, hm1, ho1, hk, hres⟩
/-- both push, or both find no room -/
theorem p_push (hd : DiskR n σ τ) (hF : 1 ≤ F) (hf : FrR F sg L be σ τ) (hm : MeR n F sg L be rs lim σ τ) (ho : OtR σ τ) (hT : TmR σ τ) (v : Int32) :
    (∃ rs1 σ1 τ1, Off [5, 8] [2] σ σ1 ∧ Off [6] [2] τ τ1 ∧ FrR F sg L be σ1 τ1 ∧ MeR n F sg L be rs1 lim σ1 τ1 ∧ OtR σ1 τ1 ∧ f_X3_push v σ = some (0, sI σ1 2 4) ∧ f_X5_push v τ = some (0, sI τ1 1 4)) ∨
    (∃ rs1 σ1 τ1, Off [5, 6, 8, 10] [2, 9] σ σ1 ∧ Off [4, 6, 8] [2, 9] τ τ1 ∧ FrR F sg L (upF be F (be F + 1)) σ1 τ1 ∧ MeR n F sg L (upF be F (be F + 1)) rs1 lim σ1 τ1 ∧ OtR σ1 τ1 ∧ f_X3_push v σ = some (1, σ1) ∧ f_X5_push v τ = some (1, τ1)) := by
  obtain ⟨F5, W1⟩ := FrR.F_le hm
  obtain ⟨rs1, σ1, τ1, o1, o2, hd1, hf1, hm1, ho1, -, hres⟩ := p_room hd hf hm ho (b := 4) (by omega) (-1) (hT.x _)
  have e0 : f_X2_hold (nI 4) (-1) σ = f_X2_hold 4 (-1) σ := rfl
  have e0m : f_X5_room (nI 4) (-1) τ = f_X5_room 4 (-1) τ := rfl
  rw [e0, e0m] at hres
  rcases hres with ⟨r1, r2⟩ | ⟨hle, r1, r2⟩
  · refine Or.inl ⟨rs1, σ1, τ1, o1, o2, hf1, hm1, ho1, ?_, ?_⟩
    · unfold f_X3_push
      rw [r1, Option.bind_some, if_pos rfl]
    · unfold f_X5_push
      rw [r2, Option.bind_some, if_pos rfl]
  · refine Or.inr ?_
    obtain ⟨b1, b2, b3, b4, b5, b6, b7⟩ := id hf1
    obtain ⟨c1, c2, c3, c4, c5, c6⟩ := id hm1
    have hbd : 8 * F + 4 * (be F + sm L F) + 4 ≤ 4000 := by
      have : hld n F L be rs1 + 4 ≤ 4000 := by omega
      unfold hld at this
      rw [sm_84] at this
      omega
    have eh : hld n F L (upF be F (be F + 1)) rs1 = hld n F L be rs1 + 4 := by
      have := hld_N (n := n) (F := F) (L := L) (be := be) (rs := rs1) (N := be F + 1)
      omega
    -- the class
    have eC : f_X3_push v σ = some (1, sI (sA (sI (sI σ1 5 (nI (hld n F L be rs1 + 4))) 6 (mxI (σ1.1 6) (nI (hld n F L be rs1 + 4)))) 9 (nI (be F + sm L F)) v) 10 (nI (be F + sm L F + 1))) := by
      unfold f_X3_push
      rw [r1, Option.bind_some, if_neg i10]
      unfold f_X1_push
      have e10 : gI (sI (sI σ1 5 (nI (hld n F L be rs1 + 4))) 6 (mxI (σ1.1 6) (nI (hld n F L be rs1 + 4)))) 10 = nI (be F + sm L F) := b3
      have hc9 : ¬ (1000 : Int32) ≤ nI (be F + sm L F) := nI_ge (b := 1000) (by omega) (by decide)
      rw [e10, if_neg hc9, if_pos (p_in (n := 1000) (by omega) (by decide)), Option.bind_some, nI_1]
    -- the reference
    have t8 : gI τ1 8 = nI (be F) := b4
    have hM0 : ∀ τ2, τ2 = sI (sA τ1 9 (nI (be F)) v) 8 (nI (be F + 1)) → f_X5_held τ2 = some (nI (hld n F L (upF be F (be F + 1)) rs1)) := fun τ2 e2 => by
      refine p_held F5 (by rw [e2]; exact b2) (by rw [e2, upF_s]; rfl) (fun f q => ?_) (fun s hs => ?_) (fun s hs => ?_)
      · rw [e2, p_sI2, p_sA2 (by omega), if_neg (by omega)]
        exact (b5 f q).2.2.2.2.2.2.2.1
      · rw [e2, p_sI2, p_sA2 (by omega), if_neg (by omega)]
        exact (hd1 s hs).2.2.1
      · rw [e2, p_sI2, p_sA2 (by omega), if_neg (by omega)]
        exact (c1 s hs).1
    have eM : f_X5_push v τ = some (1, sI (sI (sA τ1 9 (nI (be F)) v) 8 (nI (be F + 1))) 4 (mxI (τ1.1 4) (nI (hld n F L be rs1 + 4)))) := by
      unfold f_X5_push
      rw [r2, Option.bind_some, if_neg i10, t8, if_pos (p_in (n := 1010) (by omega) (by decide)), nI_1, p_grown (hM0 _ rfl), Option.bind_some, eh]
      rfl
    obtain ⟨σ2, eσ⟩ : ∃ z, z = sI (sA (sI (sI σ1 5 (nI (hld n F L be rs1 + 4))) 6 (mxI (σ1.1 6) (nI (hld n F L be rs1 + 4)))) 9 (nI (be F + sm L F)) v) 10 (nI (be F + sm L F + 1)) := ⟨_, rfl⟩
    obtain ⟨τ2, eτ⟩ : ∃ z, z = sI (sI (sA τ1 9 (nI (be F)) v) 8 (nI (be F + 1))) 4 (mxI (τ1.1 4) (nI (hld n F L be rs1 + 4))) := ⟨_, rfl⟩
    rw [← eσ] at eC
    rw [← eτ] at eM
    have oσ : Off [5, 6, 10] [9] σ1 σ2 := by rw [eσ]; exact off_sI (off_sA (off_sI (off_sI Off.rf (by decide)) (by decide)) (by decide)) (by decide)
    have oτ : Off [4, 8] [9] τ1 τ2 := by rw [eτ]; exact off_sI (off_sI (off_sA Off.rf (by decide)) (by decide)) (by decide)
    have s5 : σ2.1 5 = nI (hld n F L be rs1 + 4) := by rw [eσ]; rfl
    have s6 : σ2.1 6 = mxI (σ1.1 6) (nI (hld n F L be rs1 + 4)) := by rw [eσ]; rfl
    have s10 : σ2.1 10 = nI (be F + sm L F + 1) := by rw [eσ]; rfl
    have t4 : τ2.1 4 = mxI (τ1.1 4) (nI (hld n F L be rs1 + 4)) := by rw [eτ]; rfl
    have t8' : τ2.1 8 = nI (be F + 1) := by rw [eτ]; rfl
    have s9 : ∀ j, σ2.2 9 j = if j = be F + sm L F then v else σ1.2 9 j := fun j => by
      rw [eσ, p_sI2, p_sA2 (by omega)]
      simp only [true_and]
      rfl
    have t9 : ∀ j, τ2.2 9 j = if j = be F then v else τ1.2 9 j := fun j => by
      rw [eτ, p_sI2, p_sI2, p_sA2 (by omega)]
      simp only [true_and]
    refine ⟨rs1, σ2, τ2, (off_mono o1 (by decide) (by decide)).tr (off_mono oσ (by decide) (by decide)), (off_mono o2 (by decide) (by decide)).tr (off_mono oτ (by decide) (by decide)), ?_, ?_, ?_, eC, eM⟩
    · exact hf1.push s9 s10 (oσ.1 9 (by decide)) (fun a ha => oσ.2 a (by simp; omega)) t9 t8' (oτ.1 7 (by decide)) (fun a ha => oτ.2 a (by simp; omega))
    · refine ⟨fun s hs => ?_, by rw [eh]; exact s5, by rw [eh]; exact hle, c4, (oσ.1 4 (by decide)).trans c5, (oτ.1 2 (by decide)).trans c6⟩
      rw [oτ.2 2 (by decide), oσ.2 2 (by decide), oσ.2 3 (by decide)]
      exact c1 s hs
    · obtain ⟨q1, q2, q3, q4, P, hP, p1, p2, p3⟩ := ho1
      exact ⟨by rw [s6, t4, q1], by rw [oσ.1 7 (by decide), oτ.1 5 (by decide)]; exact q2, by rw [oσ.1 8 (by decide), oτ.1 6 (by decide)]; exact q3, by rw [oσ.1 1 (by decide), oτ.1 9 (by decide)]; exact q4, P, hP, by rw [oσ.1 0 (by decide)]; exact p1, by rw [oτ.1 10 (by decide)]; exact p2, fun i hi => by rw [oσ.2 1 (by decide), oτ.2 10 (by decide)]; exact p3 i hi⟩
end Rr
