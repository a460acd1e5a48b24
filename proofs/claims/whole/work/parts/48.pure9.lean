section Ca
variable {n : Nat → Nat} {F lim : Nat} {sg L be : Nat → Nat} {rs : Nat → Bool} {σ τ σ1 τ1 : St}
theorem i_m7 : ∀ g, g < 7 → ¬ nI g = (-1) := by decide
def rsy (rs : Nat → Bool) (g : Nat) (s : Nat) : Bool := if s = g then true else rs s
theorem hld_y {g : Nat} (hg : g < 5) (hr : rs g = false) : hld n F L be (rsy rs g) = hld n F L be rs + n g := by
  have h := sm_upd (f := rsz n (rsy rs g)) (g := rsz n rs) (j := g) 5 hg (fun i hi => by simp only [rsz, rsy, if_neg hi])
  have e1 : rsz n rs g = 0 := by unfold rsz; rw [hr]; rfl
  have e2 : rsz n (rsy rs g) g = n g := by simp [rsz, rsy]
  rw [e1, e2] at h
  unfold hld
  omega
theorem OtR.off (ho : OtR σ τ) (h6 : σ1.1 6 = σ.1 6) (h7 : σ1.1 7 = σ.1 7) (h8 : σ1.1 8 = σ.1 8) (h1 : σ1.1 1 = σ.1 1) (h0 : σ1.1 0 = σ.1 0) (ha : σ1.2 1 = σ.2 1) (t4 : τ1.1 4 = τ.1 4) (t5 : τ1.1 5 = τ.1 5) (t6 : τ1.1 6 = τ.1 6) (t9 : τ1.1 9 = τ.1 9) (t10 : τ1.1 10 = τ.1 10) (ta : τ1.2 10 = τ.2 10) : OtR σ1 τ1 := by
  obtain ⟨q1, q2, q3, q4, P, hP, p1, p2, p3⟩ := ho
  exact ⟨by rw [h6, t4]; exact q1, by rw [h7, t5]; exact q2, by rw [h8, t6]; exact q3, by rw [h1, t9]; exact q4, P, hP, by rw [h0]; exact p1, by rw [t10]; exact p2, fun i hi => by rw [ha, ta]; exact p3 i hi⟩
/-- a call in both: nothing to be called; no room; a frame more -/
theorem p_call (hd : DiskR n σ τ) (hf : FrR F sg L be σ τ) (hm : MeR n F sg L be rs lim σ τ) (ho : OtR σ τ) (hT : TmR σ τ) (x y v : Int32) :
    (f_X3_enter x y v σ = some (0, sI σ 2 3) ∧ f_X5_call x y v τ = some (0, sI τ 1 3)) ∨
    (∃ rs1 σ1 τ1, Off [5, 6, 7, 8] [2] σ σ1 ∧ Off [3, 4, 5, 6] [2, 3] τ τ1 ∧ DiskR n σ1 τ1 ∧ FrR F sg L be σ1 τ1 ∧ MeR n F sg L be rs1 lim σ1 τ1 ∧ OtR σ1 τ1 ∧ f_X3_enter x y v σ = some (0, sI σ1 2 4) ∧ f_X5_call x y v τ = some (0, sI τ1 1 4)) ∨
    (∃ s ln rs1 σ1 τ1, Off [3, 5, 6, 7, 8, 9, 10] [2, 3, 4, 5, 6, 7, 8, 9] σ σ1 ∧ Off [3, 4, 5, 6, 7] [2, 3, 4, 5, 6, 7, 8] τ τ1 ∧ DiskR n σ1 τ1 ∧ FrR (F + 1) (upF sg F s) (upF L F ln) (upF be (F + 1) (be F)) σ1 τ1 ∧ MeR n (F + 1) (upF sg F s) (upF L F ln) (upF be (F + 1) (be F)) rs1 lim σ1 τ1 ∧ OtR σ1 τ1 ∧ TmR σ1 τ1 ∧ (∃ pl, (∀ j, σ1.2 6 j = if j = F then pl else σ.2 6 j) ∧ ∀ j, τ1.2 5 j = if j = F then pl else τ.2 5 j) ∧ f_X3_enter x y v σ = some (1, σ1) ∧ f_X5_call x y v τ = some (0, τ1)) := by
  rcases p_pre hd x y with ⟨e1, e2⟩ | ⟨s, g, ln, hs, rfl, hln, hg0, hgn, e1, hbeg, e2⟩
  · refine Or.inl ⟨?_, e2 v⟩
    unfold f_X3_enter
    rw [e1, Option.bind_some, if_pos rfl]
  · refine Or.inr ?_
    obtain ⟨c1, c2, c3, c4, c5, c6⟩ := id hm
    obtain ⟨z1, z2, z3, z4⟩ := c1 s hs
    have p5 := (p_s5 hs).2.2
    have k1 : ¬ nI ln < 0 := nI_pos (by omega)
    have k2 : nI ln ≤ (6 : Int32) := nI_le (b := 6) hln (by decide)
    obtain ⟨τa, eτa⟩ : ∃ z, z = sI τ 3 (τ.1 3 + 1) := ⟨_, rfl⟩
    have oa : Off [3] [] τ τa := by rw [eτa]; exact off_sI Off.rf (by decide)
    have a3 : τa.1 3 = τ.1 3 + 1 := by rw [eτa]; rfl
    have hda : DiskR n σ τa := hd.off (fun _ _ => rfl) (fun a _ => oa.2 a (by simp))
    have hfa : FrR F sg L be σ τa := hf.off rfl rfl (fun _ _ => rfl) (oa.1 7 (by decide)) (oa.1 8 (by decide)) (fun a _ => oa.2 a (by simp))
    have hma : MeR n F sg L be rs lim σ τa := ⟨fun s2 hs2 => by rw [oa.2 2 (by decide)]; exact c1 s2 hs2, c2, c3, c4, c5, by rw [oa.1 2 (by decide)]; exact c6⟩
    have hoa : OtR σ τa := ho.off rfl rfl rfl rfl rfl rfl (oa.1 4 (by decide)) (oa.1 5 (by decide)) (oa.1 6 (by decide)) (oa.1 9 (by decide)) (oa.1 10 (by decide)) (oa.2 10 (by decide))
    have hres : f_X2_isResident (nI s) σ = some (if rs s then 1 else 0) := by
      unfold f_X2_isResident
      rw [p_isC hs, Option.bind_some, if_neg i10, if_pos p5, p_gA (by omega), z2]
      by_cases hr : rs s = true
      · have ez : rsz n rs s = n s := by unfold rsz; rw [if_pos hr]
        rw [ez, if_neg (nI_nle (z3 hr) (by have := (hd s hs).1; omega)), if_pos hr]
      · have hr' : rs s = false := by simpa using hr
        have ez : rsz n rs s = 0 := by unfold rsz; rw [hr']; rfl
        rw [ez, if_pos (by decide), hr']
        rfl
    by_cases hr : rs s = true
    · -- it is resident
      obtain ⟨τb, eτb⟩ : ∃ z, z = sA τa 3 (nI s) (τa.1 3) := ⟨_, rfl⟩
      have ob : Off [] [3] τa τb := by rw [eτb]; exact off_sA Off.rf (by decide)
      have b3 : ∀ j, τb.2 3 j = if j = s then τa.1 3 else τa.2 3 j := fun j => by
        rw [eτb, p_sA2 (by omega)]
        simp only [true_and]
      have eC : f_X3_enter (nI s) y v σ = (f_X3_frameBytes (nI ln) σ).bind fun u14 => (f_X2_addFrame (nI s) u14 σ).bind fun u16 => if u16.1 = 0 then b_X3_enter_63 (nI s) y v (nI ln) u16.2 else b_X3_enter_64 (nI s) y v (nI ln) 1 u16.2 := by
        unfold f_X3_enter
        rw [e1, Option.bind_some, if_neg (i_m7 ln (by omega)), p_len hd hs, Option.bind_some]
        unfold f_X2_bringIn
        rw [p_isC hs, Option.bind_some, if_neg i10, hres, if_pos hr, Option.bind_some, if_neg i10, Option.bind_some]
        have ev : vp_nar .boolean (1 : Int32) = 1 := by decide
        rw [ev, Option.bind_some, if_neg i10]
      have eM : f_X5_call (nI s) y v τ = (f_X5_room (8 + (4 * nI ln)) (nI s) τb).bind fun u8 => if u8.1 = 0 then some (0, u8.2) else if inB (gI u8.2 7) 520 = true then if inB (gI u8.2 7) 520 = true then if inB (gI u8.2 7) 520 = true then if inB (gI u8.2 7) 520 = true then b_X5_call_208 7 v (nI ln) 0 (sA (sA (sA (sA u8.2 4 (gI u8.2 7) (nI s)) 5 (gI u8.2 7) (nI g + 1)) 6 (gI u8.2 7) (nI ln)) 8 (gI u8.2 7) (gI u8.2 8)) else none else none else none else none := by
        have eb : bI (rs s) = 1 := by rw [hr]; rfl
        rw [e2]
        unfold b_X5_call_57
        rw [if_neg k1, if_pos k2, if_pos p5, p_gA (by omega), z1, eb, if_neg i10, p_gI, ← eτa]
        unfold b_X5_call_132
        rw [if_pos p5, p_gI, ← eτb]
      have hdb : DiskR n σ τb := hda.off (fun _ _ => rfl) (fun a ha => ob.2 a (by simp; omega))
      have hfb : FrR F sg L be σ τb := hfa.off rfl rfl (fun _ _ => rfl) (ob.1 7 (by decide)) (ob.1 8 (by decide)) (fun a ha => ob.2 a (by simp; omega))
      have hmb : MeR n F sg L be rs lim σ τb := ⟨fun s2 hs2 => by rw [ob.2 2 (by decide), oa.2 2 (by decide)]; exact c1 s2 hs2, c2, c3, c4, c5, by rw [ob.1 2 (by decide), oa.1 2 (by decide)]; exact c6⟩
      have hob : OtR σ τb := hoa.off rfl rfl rfl rfl rfl rfl (ob.1 4 (by decide)) (ob.1 5 (by decide)) (ob.1 6 (by decide)) (ob.1 9 (by decide)) (ob.1 10 (by decide)) (ob.2 10 (by decide))
      have hTb : TmX (nI s) σ τb := fun s2 hs2 hx => by
        have hne : ¬ s2 = s := fun e => hx (by rw [e])
        rw [b3, if_neg hne, oa.2 3 (by decide)]
        exact hT.2 s2 hs2
      have hOff : Off [3, 4, 5, 6, 7] [2, 3, 4, 5, 6, 7, 8] τ τb := (off_mono oa (by decide) (by decide)).tr (off_mono ob (by decide) (by decide))
      rw [eC, eM]
      rcases p_frame hdb hfb hmb hob hs hln hr hTb (fun σ2 τ2 h2 e3 => hbeg σ2 τ2 h2 (by rw [e3, ob.2 0 (by decide), oa.2 0 (by decide)])) v (by rw [ob.1 3 (by decide), a3, hT.1]) (by rw [b3, if_pos rfl, ob.1 3 (by decide)]) with ⟨rs1, σ1, τ1, w1, w2, w3, w4, w5, w6, w7, w8⟩ | ⟨rs1, σ1, τ1, w1, w2, w3, w4, w5, w6, w7, wa, wb, w8, w9⟩
      · exact Or.inl ⟨rs1, σ1, τ1, off_mono w1 (by decide) (by decide), ((off_mono oa (by decide) (by decide)).tr (off_mono ob (by decide) (by decide))).tr (off_mono w2 (by decide) (by decide)), w3, w4, w5, w6, w7, w8⟩
      · exact Or.inr ⟨s, ln, rs1, σ1, τ1, off_mono w1 (by decide) (by decide), hOff.tr (off_mono w2 (by decide) (by decide)), w3, w4, w5, w6, w7, ⟨_, wa, fun j => by rw [wb, ob.2 5 (by decide), oa.2 5 (by decide)]⟩, w8, w9⟩
    · -- it is brought in
      have hr' : rs s = false := by simpa using hr
      have hns := (hd s hs).1
      have hTa : TmX (nI s) σ τa := fun s2 hs2 _ => by rw [oa.2 3 (by decide)]; exact hT.2 s2 hs2
      obtain ⟨rs1, σ1, τ1, o1, o2, hd1, hf1, hm1, ho1, hk, hrm⟩ := p_room hda hfa hma hoa (b := n s) (by omega) (nI s) hTa
      have hr1 : rs1 s = false := by rw [hk s hs (Or.inr rfl)]; exact hr'
      have eb : bI (rs s) = 0 := by rw [hr']; rfl
      have eC0 : f_X3_enter (nI s) y v σ = ((f_X2_hold (nI (n s)) (nI s) σ).bind fun u9 => if u9.1 = 0 then (some (0, u9.2) : Option (Int32 × St)) else if inB (nI s) 5 = true then some (1, sI (sA u9.2 2 (nI s) (nI (n s))) 7 ((gI u9.2 7) + 1)) else none).bind fun u6 => if u6.1 = 0 then b_X3_enter_63 (nI s) y v (nI ln) u6.2 else (f_X3_frameBytes (nI ln) u6.2).bind fun u14 => (f_X2_addFrame (nI s) u14 u6.2).bind fun u16 => if u16.1 = 0 then b_X3_enter_63 (nI s) y v (nI ln) u16.2 else b_X3_enter_64 (nI s) y v (nI ln) 1 u16.2 := by
        unfold f_X3_enter
        rw [e1, Option.bind_some, if_neg (i_m7 ln (by omega)), p_len hd hs, Option.bind_some]
        unfold f_X2_bringIn
        rw [p_isC hs, Option.bind_some, if_neg i10, hres, hr', Option.bind_some, if_neg (by decide : ¬ (false = true)), if_pos rfl]
      have eM0 : f_X5_call (nI s) y v τ = (f_X5_room (nI (n s)) (nI s) τa).bind fun u24 => if u24.1 = 0 then some (0, u24.2) else if inB (nI s) 5 = true then (f_X5_grown (sI (sA u24.2 2 (nI s) (vp_nar .boolean 1)) 5 ((gI u24.2 5) + 1))).bind fun u28 => if inB (nI s) 5 = true then (f_X5_room (8 + (4 * nI ln)) (nI s) (sA u28.2 3 (nI s) (gI u28.2 3))).bind fun u31 => if u31.1 = 0 then some (0, u31.2) else if inB (gI u31.2 7) 520 = true then if inB (gI u31.2 7) 520 = true then if inB (gI u31.2 7) 520 = true then if inB (gI u31.2 7) 520 = true then b_X5_call_208 7 v (nI ln) 0 (sA (sA (sA (sA u31.2 4 (gI u31.2 7) (nI s)) 5 (gI u31.2 7) (nI g + 1)) 6 (gI u31.2 7) (nI ln)) 8 (gI u31.2 7) (gI u31.2 8)) else none else none else none else none else none else none := by
        rw [e2]
        unfold b_X5_call_57
        rw [if_neg k1, if_pos k2, if_pos p5, p_gA (by omega), z1, eb, if_pos rfl, if_pos p5, p_gA (by omega), (hd s hs).2.2.1, p_gI, ← eτa]
      rcases hrm with ⟨r1, r2⟩ | ⟨hle, r1, r2⟩
      · refine Or.inl ⟨rs1, σ1, τ1, off_mono o1 (by decide) (by decide), (off_mono oa (by decide) (by decide)).tr (off_mono o2 (by decide) (by decide)), hd1, hf1, hm1, ho1, ?_, ?_⟩
        · rw [eC0, r1, Option.bind_some, if_pos rfl, Option.bind_some, if_pos rfl]
          unfold b_X3_enter_63 b_X3_enter_64
          rw [if_pos rfl]
        · rw [eM0, r2, Option.bind_some, if_pos rfl]
      · obtain ⟨d1, d2, d3, d4, d5, d6⟩ := id hm1
        obtain ⟨F5, W1⟩ := FrR.F_le hm1
        have hy := hld_y (n := n) (F := F) (L := L) (be := be) hs hr1
        obtain ⟨σ2, eσ2⟩ : ∃ z, z = sI (sA (sI (sI σ1 5 (nI (hld n F L be rs1 + n s))) 6 (mxI (σ1.1 6) (nI (hld n F L be rs1 + n s)))) 2 (nI s) (nI (n s))) 7 (σ1.1 7 + 1) := ⟨_, rfl⟩
        have q2 : Off [5, 6, 7] [2] σ1 σ2 := by rw [eσ2]; exact off_sI (off_sA (off_sI (off_sI Off.rf (by decide)) (by decide)) (by decide)) (by decide)
        have s5 : σ2.1 5 = nI (hld n F L be rs1 + n s) := by rw [eσ2]; rfl
        have s6 : σ2.1 6 = mxI (σ1.1 6) (nI (hld n F L be rs1 + n s)) := by rw [eσ2]; rfl
        have s7 : σ2.1 7 = σ1.1 7 + 1 := by rw [eσ2]; rfl
        have s22 : ∀ j, σ2.2 2 j = if j = s then nI (n s) else σ1.2 2 j := fun j => by
          rw [eσ2, p_sI2, p_sA2 (by omega)]
          simp only [true_and]
          rfl
        obtain ⟨τ2, eτ2⟩ : ∃ z, z = sI (sA τ1 2 (nI s) (vp_nar .boolean 1)) 5 (τ1.1 5 + 1) := ⟨_, rfl⟩
        have t2 : Off [5] [2] τ1 τ2 := by rw [eτ2]; exact off_sI (off_sA Off.rf (by decide)) (by decide)
        have t5 : τ2.1 5 = τ1.1 5 + 1 := by rw [eτ2]; rfl
        have t22 : ∀ j, τ2.2 2 j = if j = s then 1 else τ1.2 2 j := fun j => by
          rw [eτ2, p_sI2, p_sA2 (by omega)]
          simp only [true_and]
          rfl
        have hb2 : ∀ s2, s2 < 5 → τ2.2 2 s2 = bI (rsy rs1 s s2) := fun s2 hs2 => by
          rw [t22]
          by_cases hj : s2 = s
          · rw [if_pos hj]
            simp [rsy, hj, bI]
          · rw [if_neg hj]
            simp only [rsy, if_neg hj]
            exact (d1 s2 hs2).1
        have hheld : f_X5_held τ2 = some (nI (hld n F L be rs1 + n s)) := by
          rw [← hy]
          exact p_held F5 (by rw [t2.1 7 (by decide)]; exact hf1.2.1) (by rw [t2.1 8 (by decide)]; exact hf1.2.2.2.1) (fun f q => by rw [t2.2 6 (by decide)]; exact (hf1.2.2.2.2.1 f q).2.2.2.2.2.2.2.1) (fun s2 hs2 => by rw [t2.2 1 (by decide)]; exact (hd1 s2 hs2).2.2.1) hb2
        obtain ⟨τ3, eτ3⟩ : ∃ z, z = sI τ2 4 (mxI (τ2.1 4) (nI (hld n F L be rs1 + n s))) := ⟨_, rfl⟩
        have t3 : Off [4] [] τ2 τ3 := by rw [eτ3]; exact off_sI Off.rf (by decide)
        have t4 : τ3.1 4 = mxI (τ1.1 4) (nI (hld n F L be rs1 + n s)) := by
          rw [eτ3]
          show mxI (τ2.1 4) _ = _
          rw [t2.1 4 (by decide)]
        obtain ⟨τb, eτb⟩ : ∃ z, z = sA τ3 3 (nI s) (τ3.1 3) := ⟨_, rfl⟩
        have ob : Off [] [3] τ3 τb := by rw [eτb]; exact off_sA Off.rf (by decide)
        have b3 : ∀ j, τb.2 3 j = if j = s then τ3.1 3 else τ3.2 3 j := fun j => by
          rw [eτb, p_sA2 (by omega)]
          simp only [true_and]
        have eC : f_X3_enter (nI s) y v σ = (f_X3_frameBytes (nI ln) σ2).bind fun u14 => (f_X2_addFrame (nI s) u14 σ2).bind fun u16 => if u16.1 = 0 then b_X3_enter_63 (nI s) y v (nI ln) u16.2 else b_X3_enter_64 (nI s) y v (nI ln) 1 u16.2 := by
          rw [eC0, r1, Option.bind_some, if_neg i10, if_pos p5, Option.bind_some, if_neg i10]
          have e7 : gI (sI (sI σ1 5 (nI (hld n F L be rs1 + n s))) 6 (mxI (σ1.1 6) (nI (hld n F L be rs1 + n s)))) 7 = σ1.1 7 := rfl
          simp only [e7]
          rw [← eσ2]
        have eM : f_X5_call (nI s) y v τ = (f_X5_room (8 + (4 * nI ln)) (nI s) τb).bind fun u8 => if u8.1 = 0 then some (0, u8.2) else if inB (gI u8.2 7) 520 = true then if inB (gI u8.2 7) 520 = true then if inB (gI u8.2 7) 520 = true then if inB (gI u8.2 7) 520 = true then b_X5_call_208 7 v (nI ln) 0 (sA (sA (sA (sA u8.2 4 (gI u8.2 7) (nI s)) 5 (gI u8.2 7) (nI g + 1)) 6 (gI u8.2 7) (nI ln)) 8 (gI u8.2 7) (gI u8.2 8)) else none else none else none else none := by
          rw [eM0, r2, Option.bind_some, if_neg i10, if_pos p5]
          have e5 : gI τ1 5 = τ1.1 5 := rfl
          simp only [e5]
          rw [← eτ2, p_grown hheld, Option.bind_some, if_pos p5]
          simp only [p_gI]
          rw [← eτ3, ← eτb]
        have hdb : DiskR n σ2 τb := hd1.off (fun a ha => q2.2 a (by simp; omega)) (fun a ha => by rw [ob.2 a (by simp; omega), t3.2 a (by simp), t2.2 a (by simp; omega)])
        have hfb : FrR F sg L be σ2 τb := hf1.off (q2.1 9 (by decide)) (q2.1 10 (by decide)) (fun a ha => q2.2 a (by simp; omega)) (by rw [ob.1 7 (by decide), t3.1 7 (by decide), t2.1 7 (by decide)]) (by rw [ob.1 8 (by decide), t3.1 8 (by decide), t2.1 8 (by decide)]) (fun a ha => by rw [ob.2 a (by simp; omega), t3.2 a (by simp), t2.2 a (by simp; omega)])
        have hmb : MeR n F sg L be (rsy rs1 s) lim σ2 τb := by
          refine ⟨fun s2 hs2 => ?_, by rw [hy]; exact s5, by rw [hy]; exact hle, d4, by rw [q2.1 4 (by decide)]; exact d5, by rw [ob.1 2 (by decide), t3.1 2 (by decide), t2.1 2 (by decide)]; exact d6⟩
          refine ⟨by rw [ob.2 2 (by decide), t3.2 2 (by decide)]; exact hb2 s2 hs2, ?_, fun q => ?_, by rw [q2.2 3 (by decide)]; exact (d1 s2 hs2).2.2.2⟩
          · rw [s22]
            by_cases hj : s2 = s
            · rw [if_pos hj]
              simp [rsz, rsy, hj]
            · rw [if_neg hj]
              simp only [rsz, rsy, if_neg hj]
              exact (d1 s2 hs2).2.1
          · by_cases hj : s2 = s
            · rw [hj]; omega
            · exact (d1 s2 hs2).2.2.1 (by simpa only [rsy, if_neg hj] using q)
        have hob : OtR σ2 τb := by
          obtain ⟨y1, y2, y3, y4, P, hP, p1, p2, p3⟩ := ho1
          refine ⟨?_, ?_, ?_, ?_, P, hP, ?_, ?_, fun i hi => ?_⟩
          · rw [s6, ob.1 4 (by decide), t4, y1]
          · rw [s7, ob.1 5 (by decide), t3.1 5 (by decide), t5, y2]
          · rw [q2.1 8 (by decide), ob.1 6 (by decide), t3.1 6 (by decide), t2.1 6 (by decide)]; exact y3
          · rw [q2.1 1 (by decide), ob.1 9 (by decide), t3.1 9 (by decide), t2.1 9 (by decide)]; exact y4
          · rw [q2.1 0 (by decide)]; exact p1
          · rw [ob.1 10 (by decide), t3.1 10 (by decide), t2.1 10 (by decide)]; exact p2
          · rw [q2.2 1 (by decide), ob.2 10 (by decide), t3.2 10 (by decide), t2.2 10 (by decide)]; exact p3 i hi
        have e33 : τ3.1 3 = τ.1 3 + 1 := by rw [t3.1 3 (by decide), t2.1 3 (by decide), o2.1 3 (by decide)]; exact a3
        have hTb : TmX (nI s) σ2 τb := fun s2 hs2 hx => by
          have hne : ¬ s2 = s := fun e => hx (by rw [e])
          rw [b3, if_neg hne, t3.2 3 (by decide), t2.2 3 (by decide), o2.2 3 (by decide), oa.2 3 (by decide), q2.2 4 (by decide), o1.2 4 (by decide)]
          exact hT.2 s2 hs2
        have oσ : Off [5, 6, 7, 8] [2] σ σ2 := (off_mono o1 (by decide) (by decide)).tr (off_mono q2 (by decide) (by decide))
        have oτ : Off [3, 4, 5, 6] [2, 3] τ τb := ((((off_mono oa (by decide) (by decide)).tr (off_mono o2 (by decide) (by decide))).tr (off_mono t2 (by decide) (by decide))).tr (off_mono t3 (by decide) (by decide))).tr (off_mono ob (by decide) (by decide))
        rw [eC, eM]
        rcases p_frame hdb hfb hmb hob hs hln (by simp [rsy]) hTb (fun σ3 τ4 h2 e3 => hbeg σ3 τ4 h2 (by rw [e3]; exact oτ.2 0 (by decide))) v (by rw [q2.1 3 (by decide), o1.1 3 (by decide), ob.1 3 (by decide), e33, hT.1]) (by rw [b3, if_pos rfl, ob.1 3 (by decide)]) with ⟨rs3, σ4, τ5, w1, w2, w3, w4, w5, w6, w7, w8⟩ | ⟨rs3, σ4, τ5, w1, w2, w3, w4, w5, w6, w7, wa, wb, w8, w9⟩
        · exact Or.inl ⟨rs3, σ4, τ5, oσ.tr (off_mono w1 (by decide) (by decide)), oτ.tr (off_mono w2 (by decide) (by decide)), w3, w4, w5, w6, w7, w8⟩
        · exact Or.inr ⟨s, ln, rs3, σ4, τ5, (off_mono oσ (by decide) (by decide)).tr (off_mono w1 (by decide) (by decide)), (off_mono oτ (by decide) (by decide)).tr (off_mono w2 (by decide) (by decide)), w3, w4, w5, w6, w7, ⟨_, fun j => by rw [wa, oσ.2 6 (by decide)], fun j => by rw [wb, oτ.2 5 (by decide)]⟩, w8, w9⟩
end Ca
