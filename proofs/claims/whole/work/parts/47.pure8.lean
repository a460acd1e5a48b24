section Fm
variable {n : Nat → Nat} {F lim : Nat} {sg L be : Nat → Nat} {rs : Nat → Bool} {σ τ σ1 τ1 : St}
/-- a frame more -/
theorem FrR.open_ (hf : FrR F sg L be σ τ) {s ln : Nat} {v : Int32} (hs : s < 5) (hln : ln ≤ 6) (h9 : σ1.1 9 = nI (F + 1)) (h10 : σ1.1 10 = nI (be F + sm L F + ln)) (t7 : τ1.1 7 = nI (F + 1)) (t8 : τ1.1 8 = τ.1 8)
    (a5 : ∀ j, σ1.2 5 j = if j = F then nI s else σ.2 5 j) (a7 : ∀ j, σ1.2 7 j = if j = F then nI ln else σ.2 7 j) (a8 : ∀ j, σ1.2 8 j = if j = F then nI (be F + sm L F) else σ.2 8 j) (a9 : ∀ j, σ1.2 9 j = if be F + sm L F ≤ j ∧ j < be F + sm L F + ln then (if j = be F + sm L F then v else 0) else σ.2 9 j)
    (m4 : ∀ j, τ1.2 4 j = if j = F then nI s else τ.2 4 j) (m6 : ∀ j, τ1.2 6 j = if j = F then nI ln else τ.2 6 j) (m8 : ∀ j, τ1.2 8 j = if j = F then nI (be F) else τ.2 8 j) (m7 : ∀ j, τ1.2 7 j = if 6 * F ≤ j ∧ j < 6 * F + 6 then (if j = 6 * F ∧ 0 < ln then v else 0) else τ.2 7 j) (m9 : τ1.2 9 = τ.2 9) :
    FrR (F + 1) (upF sg F s) (upF L F ln) (upF be (F + 1) (be F)) σ1 τ1 := by
  obtain ⟨b1, b2, b3, b4, b5, b6, b7⟩ := hf
  have eL : ∀ f, f ≤ F → sm (upF L F ln) f = sm L f := fun f hfF => sm_congr f (fun i hi => upF_n (by omega))
  have eL1 : sm (upF L F ln) (F + 1) = sm L F + ln := by rw [sm, eL F (Nat.le_refl _), upF_s]
  have eB : ∀ f, f ≤ F → upF be (F + 1) (be F) f = be f := fun f hfF => upF_n (by omega)
  have hmono : ∀ f, f ≤ F → be f ≤ be F := fun f hfF => be_mono (fun g hg => (b5 g hg).2.2.1) hfF
  refine ⟨h9, t7, by rw [h10, upF_s, eL1]; congr 1; omega, by rw [t8, upF_s]; exact b4, fun f q => ?_, fun f k q hk => ?_, fun f j q hj1 hj2 => ?_⟩
  · rw [a5, a7, a8, m4, m6, m8, eB f (by omega), eL f (by omega)]
    by_cases hfF : f = F
    · subst hfF
      rw [if_pos rfl, if_pos rfl, if_pos rfl, if_pos rfl, if_pos rfl, if_pos rfl, upF_s, upF_s, upF_s]
      exact ⟨hs, hln, Nat.le_refl _, rfl, rfl, trivial, rfl, rfl, rfl, rfl⟩
    · rw [if_neg hfF, if_neg hfF, if_neg hfF, if_neg hfF, if_neg hfF, if_neg hfF, upF_n hfF, upF_n hfF, eB (f + 1) (by omega)]
      exact b5 f (by omega)
  · rw [eB f (by omega), eL f (by omega)]
    by_cases hfF : f = F
    · subst hfF
      rw [upF_s] at hk
      rw [a9, m7, if_pos (by omega), if_pos (show 6 * f ≤ 6 * f + k ∧ 6 * f + k < 6 * f + 6 by omega)]
      by_cases hk0 : k = 0
      · rw [if_pos (by omega), if_pos (by omega)]
      · rw [if_neg (by omega), if_neg (by omega)]
    · rw [upF_n hfF] at hk
      have h1 : sm L (f + 1) ≤ sm L F := sm_mono (by omega)
      rw [sm] at h1
      have h2 := hmono f (by omega)
      rw [a9, m7, if_neg (by omega), if_neg (show ¬ (6 * F ≤ 6 * f + k ∧ 6 * f + k < 6 * F + 6) by have := (b5 f (by omega)).2.1; omega)]
      exact b6 f k (by omega) hk
  · rw [eB f (by omega)] at hj1
    by_cases hfF : f = F
    · subst hfF
      rw [upF_s] at hj2
      omega
    · rw [eB (f + 1) (by omega)] at hj2
      have h1 : sm L (f + 1) ≤ sm L F := sm_mono (by omega)
      have h2 := hmono (f + 1) (by omega)
      rw [eL (f + 1) (by omega), a9, if_neg (by omega), m9]
      exact b7 f j (by omega) hj1 hj2
theorem cnt_open {s s2 : Nat} : cnt (upF sg F s) s2 (F + 1) = cnt sg s2 F + (if s = s2 then 1 else 0) := by
  rw [cnt, upF_s, cnt_congr F (fun i hi => upF_n (by omega))]
theorem hld_open {ln s : Nat} : hld n (F + 1) (upF L F ln) (upF be (F + 1) (be F)) rs = hld n F L be rs + (8 + 4 * ln) := by
  have e : sm (upF L F ln) F = sm L F := sm_congr F (fun i hi => upF_n (by omega))
  unfold hld
  rw [upF_s, sm_84, sm_84, sm, upF_s, e]
  omega
theorem p_frame (hd : DiskR n σ τ) (hf : FrR F sg L be σ τ) (hm : MeR n F sg L be rs lim σ τ) (ho : OtR σ τ) {s g ln : Nat} {y : Int32} (hs : s < 5) (hln : ln ≤ 6) (hrs : rs s = true) (hT : TmX (nI s) σ τ) (hbeg : ∀ σ2 τ2, DiskR n σ2 τ2 → τ2.2 0 = τ.2 0 → f_X0_beginOf (nI s) y σ2 = some (nI g)) (v : Int32) (h3 : σ.1 3 + 1 = τ.1 3) (h4 : τ.2 3 s = τ.1 3) :
    (∃ rs1 σ1 τ1, Off [5, 8] [2] σ σ1 ∧ Off [6] [2] τ τ1 ∧ DiskR n σ1 τ1 ∧ FrR F sg L be σ1 τ1 ∧ MeR n F sg L be rs1 lim σ1 τ1 ∧ OtR σ1 τ1 ∧
      ((f_X3_frameBytes (nI ln) σ).bind fun u14 => (f_X2_addFrame (nI s) u14 σ).bind fun u16 => if u16.1 = 0 then b_X3_enter_63 (nI s) y v (nI ln) u16.2 else b_X3_enter_64 (nI s) y v (nI ln) 1 u16.2) = some (0, sI σ1 2 4) ∧
      ((f_X5_room (8 + (4 * nI ln)) (nI s) τ).bind fun u8 => if u8.1 = 0 then some (0, u8.2) else if inB (gI u8.2 7) 520 = true then if inB (gI u8.2 7) 520 = true then if inB (gI u8.2 7) 520 = true then if inB (gI u8.2 7) 520 = true then b_X5_call_208 7 v (nI ln) 0 (sA (sA (sA (sA u8.2 4 (gI u8.2 7) (nI s)) 5 (gI u8.2 7) (nI g + 1)) 6 (gI u8.2 7) (nI ln)) 8 (gI u8.2 7) (gI u8.2 8)) else none else none else none else none) = some (0, sI τ1 1 4)) ∨
    (∃ rs1 σ1 τ1, Off [3, 5, 6, 8, 9, 10] [2, 3, 4, 5, 6, 7, 8, 9] σ σ1 ∧ Off [4, 6, 7] [2, 4, 5, 6, 7, 8] τ τ1 ∧ DiskR n σ1 τ1 ∧ FrR (F + 1) (upF sg F s) (upF L F ln) (upF be (F + 1) (be F)) σ1 τ1 ∧ MeR n (F + 1) (upF sg F s) (upF L F ln) (upF be (F + 1) (be F)) rs1 lim σ1 τ1 ∧ OtR σ1 τ1 ∧ TmR σ1 τ1 ∧ (∀ j, σ1.2 6 j = if j = F then nI g + 1 else σ.2 6 j) ∧ (∀ j, τ1.2 5 j = if j = F then nI g + 1 else τ.2 5 j) ∧
      ((f_X3_frameBytes (nI ln) σ).bind fun u14 => (f_X2_addFrame (nI s) u14 σ).bind fun u16 => if u16.1 = 0 then b_X3_enter_63 (nI s) y v (nI ln) u16.2 else b_X3_enter_64 (nI s) y v (nI ln) 1 u16.2) = some (1, σ1) ∧
      ((f_X5_room (8 + (4 * nI ln)) (nI s) τ).bind fun u8 => if u8.1 = 0 then some (0, u8.2) else if inB (gI u8.2 7) 520 = true then if inB (gI u8.2 7) 520 = true then if inB (gI u8.2 7) 520 = true then if inB (gI u8.2 7) 520 = true then b_X5_call_208 7 v (nI ln) 0 (sA (sA (sA (sA u8.2 4 (gI u8.2 7) (nI s)) 5 (gI u8.2 7) (nI g + 1)) 6 (gI u8.2 7) (nI ln)) 8 (gI u8.2 7) (gI u8.2 8)) else none else none else none else none) = some (0, τ1)) := by
  have ebt : (8 : Int32) + (4 * nI ln) = nI (8 + 4 * ln) := by rw [show (8 : Int32) = nI 8 from rfl, show (4 : Int32) = nI 4 from rfl, pk_mul, nI_add]
  obtain ⟨rs1, σ1, τ1, o1, o2, hd1, hf1, hm1, ho1, hk, hres⟩ := p_room hd hf hm ho (b := 8 + 4 * ln) (by omega) (nI s) hT
  unfold f_X3_frameBytes f_X2_addFrame
  rw [Option.bind_some, p_isC hs, Option.bind_some, if_neg i10, ebt]
  rcases hres with ⟨r1, r2⟩ | ⟨hle, r1, r2⟩
  · refine Or.inl ⟨rs1, σ1, τ1, o1, o2, hd1, hf1, hm1, ho1, ?_, ?_⟩
    · rw [r1, Option.bind_some, if_pos rfl, Option.bind_some, if_pos rfl]
      unfold b_X3_enter_63 b_X3_enter_64
      rw [if_pos rfl]
    · rw [r2, Option.bind_some, if_pos rfl]
  · refine Or.inr ?_
    obtain ⟨F5, W1⟩ := FrR.F_le hm1
    obtain ⟨b1, b2, b3, b4, b5, b6, b7⟩ := id hf1
    obtain ⟨c1, c2, c3, c4, c5, c6⟩ := id hm1
    have hbd : 8 * (F + 1) + 4 * (be F + sm L F + ln) ≤ 4000 := by
      have h9 : hld n F L be rs1 + (8 + 4 * ln) ≤ 4000 := by omega
      unfold hld at h9
      rw [sm_84] at h9
      omega
    obtain ⟨σh, eσh⟩ : ∃ z, z = sI (sI σ1 5 (nI (hld n F L be rs1 + (8 + 4 * ln)))) 6 (mxI (σ1.1 6) (nI (hld n F L be rs1 + (8 + 4 * ln)))) := ⟨_, rfl⟩
    rw [← eσh] at r1
    have oh : Off [5, 6] [] σ1 σh := by rw [eσh]; exact off_sI (off_sI Off.rf (by decide)) (by decide)
    have sh5 : σh.1 5 = nI (hld n F L be rs1 + (8 + 4 * ln)) := by rw [eσh]; rfl
    have sh6 : σh.1 6 = mxI (σ1.1 6) (nI (hld n F L be rs1 + (8 + 4 * ln))) := by rw [eσh]; rfl
    have e33 : gA σh 3 (nI s) = nI (cnt sg s F) := by
      rw [p_gA (by omega), oh.2 3 (by decide)]
      exact (c1 s hs).2.2.2
    -- the class, behind addFrame
    obtain ⟨σa, eσa⟩ : ∃ z, z = sA (sI (sA σh 3 (nI s) (nI (cnt sg s F + 1))) 3 (σ1.1 3 + 1)) 4 (nI s) (σ1.1 3 + 1) := ⟨_, rfl⟩
    have oa : Off [3] [3, 4] σh σa := by rw [eσa]; exact off_sA (off_sI (off_sA Off.rf (by decide)) (by decide)) (by decide)
    have sa3 : σa.1 3 = σ1.1 3 + 1 := by rw [eσa]; rfl
    have sa33 : ∀ j, σa.2 3 j = if j = s then nI (cnt sg s F + 1) else σ1.2 3 j := fun j => by
      rw [eσa, p_sA2 (by omega), if_neg (by omega), p_sI2, p_sA2 (by omega), oh.2 3 (by decide)]
      simp only [true_and]
    have sa4 : ∀ j, σa.2 4 j = if j = s then σ1.1 3 + 1 else σ1.2 4 j := fun j => by
      rw [eσa, p_sA2 (by omega)]
      simp only [true_and]
      by_cases hj : j = s
      · rw [if_pos hj, if_pos hj]
      · rw [if_neg hj, if_neg hj, p_sI2, p_sA2 (by omega), if_neg (by omega), oh.2 4 (by decide)]
    have hdA : DiskR n σa τ1 := hd1.off (fun a ha => by rw [oa.2 a (by simp; omega), oh.2 a (by simp)]) (fun a _ => rfl)
    have sa9 : σa.1 9 = nI F := by rw [oa.1 9 (by decide), oh.1 9 (by decide)]; exact b1
    have sa10 : σa.1 10 = nI (be F + sm L F) := by rw [oa.1 10 (by decide), oh.1 10 (by decide)]; exact b3
    obtain ⟨σb, eσb⟩ : ∃ z, z = sA (sA (sA (sA σa 5 (nI F) (nI s)) 6 (nI F) (nI g + 1)) 7 (nI F) (nI ln)) 8 (nI F) (nI (be F + sm L F)) := ⟨_, rfl⟩
    obtain ⟨σ3, q1, q2, q3, q4, q5⟩ := p_lay (F := F) (U := be F + sm L F) (ln := ln) (by omega) v ln 0 8 σb (by omega) (by omega) (by rw [eσb]; exact sa10) (by rw [eσb]; exact sa9)
    have q1 : b_X1_open_73 8 (nI ln) v 0 σb = some (0, σ3) := q1
    have hopen : f_X1_open (nI s) (nI g + 1) (nI ln) v σa = some (0, σ3) := by
      unfold f_X1_open
      have g9 : gI σa 9 = nI F := sa9
      have g10 : gI σa 10 = nI (be F + sm L F) := sa10
      have k1 : ¬ (500 : Int32) ≤ nI F := nI_ge (b := 500) (by omega) (by decide)
      have k2 : ¬ nI ln < 0 := nI_pos (by omega)
      have k3 : (1000 : Int32) - nI (be F + sm L F) = nI (1000 - (be F + sm L F)) := p_sub (a := 1000) (by omega)
      have k4 := p_in (i := F) (n := 500) (by omega) (by decide)
      rw [g9, g10, if_neg k1, if_neg k2, k3, if_pos (nI_le (by omega) (by omega)), if_pos k4, if_pos k4, if_pos k4, if_pos k4, ← eσb]
      exact q1
    have eC : ((f_X2_hold (nI (8 + 4 * ln)) (nI s) σ).bind fun u4 => if u4.1 = 0 then (some (0, u4.2) : Option (Int32 × St)) else if inB (nI s) 5 = true then if inB (nI s) 5 = true then if inB (nI s) 5 = true then some (1, sA (sI (sA u4.2 3 (nI s) ((gA u4.2 3 (nI s)) + 1)) 3 ((gI u4.2 3) + 1)) 4 (nI s) ((gI u4.2 3) + 1)) else none else none else none) = some (1, σa) := by
      have p5 := (p_s5 hs).2.2
      have e3 : gI σh 3 = σ1.1 3 := oh.1 3 (by decide)
      rw [r1, Option.bind_some, if_neg i10, if_pos p5, if_pos p5, if_pos p5]
      simp only [e33, nI_1, e3]
      rw [← eσa]
    -- the reference
    have t7 : gI τ1 7 = nI F := b2
    have t8 : gI τ1 8 = nI (be F) := b4
    obtain ⟨τb, eτb⟩ : ∃ z, z = sA (sA (sA (sA τ1 4 (nI F) (nI s)) 5 (nI F) (nI g + 1)) 6 (nI F) (nI ln)) 8 (nI F) (nI (be F)) := ⟨_, rfl⟩
    obtain ⟨τ3, w1, w2, w3⟩ := p_layM (F := F) (ln := ln) F5 hln v 6 0 7 τb (by omega) (by omega) (by rw [eτb]; exact b2)
    have w1 : b_X5_call_208 7 v (nI ln) 0 τb = (f_X5_grown (sI τ3 7 (nI (F + 1)))).bind (fun u => some (0, u.2)) := w1
    have ob : Off [] [4, 5, 6, 8] τ1 τb := by rw [eτb]; exact off_sA (off_sA (off_sA (off_sA Off.rf (by decide)) (by decide)) (by decide)) (by decide)
    have ob4 : ∀ j, τb.2 4 j = if j = F then nI s else τ1.2 4 j := fun j => by
      rw [eτb, p_sA2 (by omega), if_neg (by omega), p_sA2 (by omega), if_neg (by omega), p_sA2 (by omega), if_neg (by omega), p_sA2 (by omega)]
      simp only [true_and]
    have ob5 : ∀ j, τb.2 5 j = if j = F then nI g + 1 else τ1.2 5 j := fun j => by
      rw [eτb, p_sA2 (by omega), if_neg (by omega), p_sA2 (by omega), if_neg (by omega), p_sA2 (by omega)]
      simp only [true_and]
      by_cases hj : j = F
      · rw [if_pos hj, if_pos hj]
      · rw [if_neg hj, if_neg hj, p_sA2 (by omega), if_neg (by omega)]
    have ob6 : ∀ j, τb.2 6 j = if j = F then nI ln else τ1.2 6 j := fun j => by
      rw [eτb, p_sA2 (by omega), if_neg (by omega), p_sA2 (by omega)]
      simp only [true_and]
      by_cases hj : j = F
      · rw [if_pos hj, if_pos hj]
      · rw [if_neg hj, if_neg hj, p_sA2 (by omega), if_neg (by omega), p_sA2 (by omega), if_neg (by omega)]
    have ob8 : ∀ j, τb.2 8 j = if j = F then nI (be F) else τ1.2 8 j := fun j => by
      rw [eτb, p_sA2 (by omega)]
      simp only [true_and]
      by_cases hj : j = F
      · rw [if_pos hj, if_pos hj]
      · rw [if_neg hj, if_neg hj, p_sA2 (by omega), if_neg (by omega), p_sA2 (by omega), if_neg (by omega), p_sA2 (by omega), if_neg (by omega)]
    obtain ⟨τc, eτc⟩ : ∃ z, z = sI τ3 7 (nI (F + 1)) := ⟨_, rfl⟩
    have oc : Off [7] [7] τb τc := by rw [eτc]; exact off_sI (off_mono w2 (by decide) (by decide)) (by decide)
    have c7 : τc.1 7 = nI (F + 1) := by rw [eτc]; rfl
    have c77 : ∀ j, τc.2 7 j = if 6 * F ≤ j ∧ j < 6 * F + 6 then (if j = 6 * F ∧ 0 < ln then v else 0) else τ1.2 7 j := fun j => by
      rw [eτc, p_sI2, w3, ob.2 7 (by decide), Nat.add_zero]
    have hopenh := hld_open (n := n) (F := F) (L := L) (be := be) (rs := rs1) (ln := ln) (s := s)
    have hheld : f_X5_held τc = some (nI (hld n F L be rs1 + (8 + 4 * ln))) := by
      rw [← hopenh]
      refine p_held (by omega) c7 (by rw [upF_s, oc.1 8 (by decide), ob.1 8 (by decide)]; exact b4) (fun f q => ?_) (fun s2 hs2 => ?_) (fun s2 hs2 => ?_)
      · rw [oc.2 6 (by decide), ob6]
        by_cases hfF : f = F
        · rw [if_pos hfF, hfF, upF_s]
        · rw [if_neg hfF, upF_n hfF]
          exact (b5 f (by omega)).2.2.2.2.2.2.2.1
      · rw [oc.2 1 (by decide), ob.2 1 (by decide)]
        exact (hd1 s2 hs2).2.2.1
      · rw [oc.2 2 (by decide), ob.2 2 (by decide)]
        exact (c1 s2 hs2).1
    obtain ⟨τd, eτd⟩ : ∃ z, z = sI τc 4 (mxI (τc.1 4) (nI (hld n F L be rs1 + (8 + 4 * ln)))) := ⟨_, rfl⟩
    have od : Off [4] [] τc τd := by rw [eτd]; exact off_sI Off.rf (by decide)
    have d4 : τd.1 4 = mxI (τ1.1 4) (nI (hld n F L be rs1 + (8 + 4 * ln))) := by
      rw [eτd]
      show mxI (τc.1 4) _ = _
      rw [oc.1 4 (by decide), ob.1 4 (by decide)]
    have oAll : Off [3, 5, 6, 8, 9, 10] [2, 3, 4, 5, 6, 7, 8, 9] σ σ3 := by
      have ob2 : Off [] [5, 6, 7, 8] σa σb := by rw [eσb]; exact off_sA (off_sA (off_sA (off_sA Off.rf (by decide)) (by decide)) (by decide)) (by decide)
      exact ((((off_mono o1 (by decide) (by decide)).tr (off_mono oh (by decide) (by decide))).tr (off_mono oa (by decide) (by decide))).tr (off_mono ob2 (by decide) (by decide))).tr (off_mono q2 (by decide) (by decide))
    have oAllM : Off [4, 6, 7] [2, 4, 5, 6, 7, 8] τ τd := (((off_mono o2 (by decide) (by decide)).tr (off_mono ob (by decide) (by decide))).tr (off_mono oc (by decide) (by decide))).tr (off_mono od (by decide) (by decide))
    have ob2 : Off [] [5, 6, 7, 8] σa σb := by rw [eσb]; exact off_sA (off_sA (off_sA (off_sA Off.rf (by decide)) (by decide)) (by decide)) (by decide)
    have u5 : ∀ j, σ3.2 5 j = if j = F then nI s else σ1.2 5 j := fun j => by
      rw [q2.2 5 (by decide), eσb, p_sA2 (by omega), if_neg (by omega), p_sA2 (by omega), if_neg (by omega), p_sA2 (by omega), if_neg (by omega), p_sA2 (by omega), oa.2 5 (by decide), oh.2 5 (by decide)]
      simp only [true_and]
    have u6 : ∀ j, σ3.2 6 j = if j = F then nI g + 1 else σ1.2 6 j := fun j => by
      rw [q2.2 6 (by decide), eσb, p_sA2 (by omega), if_neg (by omega), p_sA2 (by omega), if_neg (by omega), p_sA2 (by omega)]
      simp only [true_and]
      by_cases hj : j = F
      · rw [if_pos hj, if_pos hj]
      · rw [if_neg hj, if_neg hj, p_sA2 (by omega), if_neg (by omega), oa.2 6 (by decide), oh.2 6 (by decide)]
    have u7 : ∀ j, σ3.2 7 j = if j = F then nI ln else σ1.2 7 j := fun j => by
      rw [q2.2 7 (by decide), eσb, p_sA2 (by omega), if_neg (by omega), p_sA2 (by omega)]
      simp only [true_and]
      by_cases hj : j = F
      · rw [if_pos hj, if_pos hj]
      · rw [if_neg hj, if_neg hj, p_sA2 (by omega), if_neg (by omega), p_sA2 (by omega), if_neg (by omega), oa.2 7 (by decide), oh.2 7 (by decide)]
    have u8 : ∀ j, σ3.2 8 j = if j = F then nI (be F + sm L F) else σ1.2 8 j := fun j => by
      rw [q2.2 8 (by decide), eσb, p_sA2 (by omega)]
      simp only [true_and]
      by_cases hj : j = F
      · rw [if_pos hj, if_pos hj]
      · rw [if_neg hj, if_neg hj, p_sA2 (by omega), if_neg (by omega), p_sA2 (by omega), if_neg (by omega), p_sA2 (by omega), if_neg (by omega), oa.2 8 (by decide), oh.2 8 (by decide)]
    have u9 : ∀ j, σ3.2 9 j = if be F + sm L F ≤ j ∧ j < be F + sm L F + ln then (if j = be F + sm L F then v else 0) else σ1.2 9 j := fun j => by
      rw [q5, Nat.add_zero, ob2.2 9 (by decide), oa.2 9 (by decide), oh.2 9 (by decide)]
    refine ⟨rs1, σ3, τd, oAll, oAllM, ?_, ?_, ?_, ?_, ?_, fun j => by rw [u6, o1.2 6 (by decide)], fun j => by rw [od.2 5 (by decide), oc.2 5 (by decide), ob5, o2.2 5 (by decide)], ?_, ?_⟩
    · exact hd.off (fun a ha => oAll.2 a (by simp; omega)) (fun a ha => oAllM.2 a (by simp; omega))
    · refine hf1.open_ hs hln (by rw [q4]) (by rw [q3]) (by rw [od.1 7 (by decide)]; exact c7) (by rw [od.1 8 (by decide), oc.1 8 (by decide), ob.1 8 (by decide)]) u5 u7 u8 u9 ?_ ?_ ?_ ?_ ?_
      · intro j; rw [od.2 4 (by decide), oc.2 4 (by decide)]; exact ob4 j
      · intro j; rw [od.2 6 (by decide), oc.2 6 (by decide)]; exact ob6 j
      · intro j; rw [od.2 8 (by decide), oc.2 8 (by decide)]; exact ob8 j
      · intro j; rw [od.2 7 (by decide)]; exact c77 j
      · rw [od.2 9 (by decide), oc.2 9 (by decide), ob.2 9 (by decide)]
    · refine ⟨fun s2 hs2 => ?_, ?_, by rw [hopenh]; exact hle, c4, ?_, ?_⟩
      · obtain ⟨z1, z2, z3, z4⟩ := c1 s2 hs2
        refine ⟨?_, ?_, z3, ?_⟩
        · rw [od.2 2 (by decide), oc.2 2 (by decide), ob.2 2 (by decide)]; exact z1
        · rw [q2.2 2 (by decide), ob2.2 2 (by decide), oa.2 2 (by decide), oh.2 2 (by decide)]; exact z2
        · rw [q2.2 3 (by decide), ob2.2 3 (by decide), sa33, cnt_open]
          by_cases hj : s2 = s
          · subst hj
            rw [if_pos rfl, if_pos rfl]
          · rw [if_neg hj, if_neg (fun e => hj e.symm), Nat.add_zero]
            exact z4
      · rw [hopenh, q2.1 5 (by decide), ob2.1 5 (by decide), oa.1 5 (by decide)]; exact sh5
      · rw [q2.1 4 (by decide), ob2.1 4 (by decide), oa.1 4 (by decide), oh.1 4 (by decide)]; exact c5
      · rw [od.1 2 (by decide), oc.1 2 (by decide), ob.1 2 (by decide)]; exact c6
    · obtain ⟨y1, y2, y3, y4, P, hP, p1, p2, p3⟩ := ho1
      refine ⟨?_, ?_, ?_, ?_, P, hP, ?_, ?_, fun i hi => ?_⟩
      · rw [q2.1 6 (by decide), ob2.1 6 (by decide), oa.1 6 (by decide), sh6, d4, y1]
      · rw [q2.1 7 (by decide), ob2.1 7 (by decide), oa.1 7 (by decide), oh.1 7 (by decide), od.1 5 (by decide), oc.1 5 (by decide), ob.1 5 (by decide)]; exact y2
      · rw [q2.1 8 (by decide), ob2.1 8 (by decide), oa.1 8 (by decide), oh.1 8 (by decide), od.1 6 (by decide), oc.1 6 (by decide), ob.1 6 (by decide)]; exact y3
      · rw [q2.1 1 (by decide), ob2.1 1 (by decide), oa.1 1 (by decide), oh.1 1 (by decide), od.1 9 (by decide), oc.1 9 (by decide), ob.1 9 (by decide)]; exact y4
      · rw [q2.1 0 (by decide), ob2.1 0 (by decide), oa.1 0 (by decide), oh.1 0 (by decide)]; exact p1
      · rw [od.1 10 (by decide), oc.1 10 (by decide), ob.1 10 (by decide)]; exact p2
      · rw [q2.2 1 (by decide), ob2.2 1 (by decide), oa.2 1 (by decide), oh.2 1 (by decide), od.2 10 (by decide), oc.2 10 (by decide), ob.2 10 (by decide)]; exact p3 i hi
    · have z3 : σ1.1 3 + 1 = τ.1 3 := by rw [o1.1 3 (by decide)]; exact h3
      refine ⟨?_, fun s2 hs2 => ?_⟩
      · rw [q2.1 3 (by decide), ob2.1 3 (by decide), sa3, z3, oAllM.1 3 (by decide)]
      · rw [q2.2 4 (by decide), ob2.2 4 (by decide), sa4, oAllM.2 3 (by decide)]
        by_cases hj : s2 = s
        · subst hj
          rw [if_pos rfl, z3, h4]
        · rw [if_neg hj, o1.2 4 (by decide)]
          exact hT s2 hs2 (fun e => hj ((nI_inj (by omega) (by omega)).mp e))
    · rw [eC, Option.bind_some, if_neg i10]
      unfold b_X3_enter_64
      rw [if_neg i10, hbeg σa τ1 hdA (o2.2 0 (by decide)), Option.bind_some]
      rw [hopen, Option.bind_some]
    · have k4 := p_in (i := F) (n := 520) (by omega) (by decide)
      rw [r2, Option.bind_some, if_neg i10]
      simp only [t7, t8]
      rw [if_pos k4, if_pos k4, if_pos k4, if_pos k4, ← eτb, w1, ← eτc, p_grown hheld, Option.bind_some, ← eτd]
end Fm
