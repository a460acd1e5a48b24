/-! numbers, reads and writes of a state -/
theorem p_cl {i : Nat} (h : i < 2 ^ 31) : (nI i).toNatClampNeg = i := nI_clamp h
theorem p_gA {σ : St} {a i : Nat} (h : i < 2 ^ 31) : gA σ a (nI i) = σ.2 a i := by
  unfold gA
  rw [p_cl h]
theorem i10 : ¬ (1 : Int32) = 0 := by decide
theorem p_lit {n : Nat} : (OfNat.ofNat n : Int32) = nI n := rfl
theorem p_n0 {i : Nat} (h : i < 2 ^ 31) : ¬ nI i < 0 := nI_pos h
theorem p_in {i n : Nat} (h : i < n) (hn : n < 2 ^ 31) : inB (nI i) n = true := in_inB (vp_in_nI h hn)
theorem p_sI1 {σ : St} {k j : Nat} {v : Int32} : (sI σ k v).1 j = if j = k then v else σ.1 j := rfl
theorem p_sI2 {σ : St} {k : Nat} {v : Int32} : (sI σ k v).2 = σ.2 := rfl
theorem p_sA1 {σ : St} {a : Nat} {i v : Int32} : (sA σ a i v).1 = σ.1 := rfl
theorem p_sA2 {σ : St} {a b i j : Nat} {v : Int32} (h : i < 2 ^ 31) : (sA σ a (nI i) v).2 b j = if b = a ∧ j = i then v else σ.2 b j := by
  unfold sA
  rw [p_cl h]
  by_cases hb : b = a
  · subst hb
    simp only [upd, true_and, if_true]
  · simp only [hb, false_and, if_false]
theorem p_gI {σ : St} {k : Nat} : gI σ k = σ.1 k := rfl
/-- a segment's number -/
theorem p_seg (x : Int32) : (f_X4_isSegment x ((fun _ => 0), fun _ _ => 0) = some 0 ∧ (x < 0 ∨ 5 ≤ x)) ∨ ∃ s : Nat, s < 5 ∧ x = nI s := by
  rcases pk_ix x (n := 5) (by decide) with h | h | h
  · exact Or.inl ⟨by unfold f_X4_isSegment; rw [if_pos h], Or.inl h⟩
  · refine Or.inl ⟨?_, Or.inr h⟩
    unfold f_X4_isSegment
    have h' : (5 : Int32) ≤ x := h
    by_cases g : x < 0
    · rw [if_pos g]
    · rw [if_neg g, if_pos h']
  · exact Or.inr h
theorem p_s5 {s : Nat} (h : s < 5) : ¬ nI s < 0 ∧ ¬ (5 : Int32) ≤ nI s ∧ inB (nI s) 5 = true := ⟨nI_pos (by omega), nI_ge (b := 5) h (by decide), p_in h (by decide)⟩
theorem p_isC {s : Nat} (h : s < 5) (σ : St) : f_X4_isSegment (nI s) σ = some 1 := by
  unfold f_X4_isSegment
  rw [if_neg (p_s5 h).1, if_neg (p_s5 h).2.1]
theorem p_isM {s : Nat} (h : s < 5) (σ : St) : f_X5_isSegment (nI s) σ = some 1 := by
  unfold f_X5_isSegment
  rw [if_neg (p_s5 h).1, if_neg (p_s5 h).2.1]
theorem p_noC {x : Int32} (h : x < 0 ∨ 5 ≤ x) (σ : St) : f_X4_isSegment x σ = some 0 := by
  unfold f_X4_isSegment
  by_cases g : x < 0
  · rw [if_pos g]
  · rw [if_neg g, if_pos (h.resolve_left g)]
theorem p_noM {x : Int32} (h : x < 0 ∨ 5 ≤ x) (σ : St) : f_X5_isSegment x σ = some 0 := by
  unfold f_X5_isSegment
  by_cases g : x < 0
  · rw [if_pos g]
  · rw [if_neg g, if_pos (h.resolve_left g)]
/-- the disk of both, the segments' lengths n -/
def DiskR (n : Nat → Nat) (σ τ : St) : Prop := ∀ s, s < 5 → n s ≤ 80 ∧ σ.2 0 s = nI (n s) ∧ τ.2 1 s = nI (n s) ∧ ∀ i, i < n s → σ.2 (10 + s) i = τ.2 0 (80 * s + i)
section Dk
variable {n : Nat → Nat} {σ τ : St}
theorem p_len (h : DiskR n σ τ) {s : Nat} (hs : s < 5) : f_X0_lengthOf (nI s) σ = some (nI (n s)) := by
  unfold f_X0_lengthOf
  rw [if_neg (p_s5 hs).1, if_neg (p_s5 hs).2.1, if_pos (p_s5 hs).2.2, p_gA (by omega), (h s hs).2.1]
theorem p_lenN {x : Int32} (h : x < 0 ∨ 5 ≤ x) : f_X0_lengthOf x σ = some 0 := by
  unfold f_X0_lengthOf
  by_cases g : x < 0
  · rw [if_pos g]
  · rw [if_neg g, if_pos (h.resolve_left g)]
theorem p_byN {x y : Int32} (h : x < 0 ∨ 5 ≤ x) : f_X0_byteAt x y σ = some 0 := by
  unfold f_X0_byteAt
  by_cases g : x < 0
  · rw [if_pos g]
  · rw [if_neg g, if_pos (h.resolve_left g)]
theorem p_by (h : DiskR n σ τ) {s i : Nat} (hs : s < 5) (hi : i < n s) : f_X0_byteAt (nI s) (nI i) σ = some (τ.2 0 (80 * s + i)) := by
  obtain ⟨h1, h2, h3, h4⟩ := h s hs
  unfold f_X0_byteAt
  rw [if_neg (p_s5 hs).1, if_neg (p_s5 hs).2.1, if_neg (p_n0 (by omega)), if_pos (p_s5 hs).2.2, p_gA (by omega), h2, if_neg (nI_ge hi (by omega)), if_pos (p_s5 hs).2.2, if_pos (p_in (n := 80) (by omega) (by decide)), p_gA (by omega), p_cl (by omega), h4 i hi]
theorem p_byO (h : DiskR n σ τ) {s : Nat} (hs : s < 5) {y : Int32} (hy : y < 0 ∨ nI (n s) ≤ y) : f_X0_byteAt (nI s) y σ = some 0 := by
  obtain ⟨h1, h2, h3, h4⟩ := h s hs
  unfold f_X0_byteAt
  rw [if_neg (p_s5 hs).1, if_neg (p_s5 hs).2.1]
  by_cases g : y < 0
  · rw [if_pos g]
  · rw [if_neg g, if_pos (p_s5 hs).2.2, p_gA (by omega), h2, if_pos (hy.resolve_left g)]
/-- an index against a length -/
theorem p_ix (y : Int32) {k : Nat} (hk : k < 2 ^ 31) : (y < 0 ∨ nI k ≤ y) ∨ ∃ i : Nat, i < k ∧ y = nI i := by
  rcases pk_ix y hk with h | h | h
  · exact Or.inl (Or.inl h)
  · exact Or.inl (Or.inr h)
  · exact Or.inr h
/-- the procedures' begins, k of them from j on, in a segment of P procedures -/
theorem p_prC (h : DiskR n σ τ) {s P : Nat} (hs : s < 5) (hP : P ≤ 4) (hPn : P < n s) : ∀ (k j f1 f2 : Nat), j + k = P + 1 → 1 ≤ j → k < f1 → k < f2 →
    (b_X0_proceduresOf_21 f1 (nI s) (nI P) (nI j) σ = some (nI P) ∧ b_X5_procedures_57 f2 (nI s) (nI P) 1 (nI j) τ = some (nI P) ∧ ∀ i, j ≤ i → i ≤ P → ∃ g, P < g ∧ g < n s ∧ τ.2 0 (80 * s + i) &&& 255 = nI g) ∨
    (b_X0_proceduresOf_21 f1 (nI s) (nI P) (nI j) σ = some 0 ∧ b_X5_procedures_57 f2 (nI s) (nI P) 1 (nI j) τ = some 0) := by
  intro k
  induction k with
  | zero =>
    intro j f1 f2 hj h1 hf1 hf2
    obtain ⟨f1, rfl⟩ : ∃ f, f1 = f + 1 := ⟨f1 - 1, by omega⟩
    obtain ⟨f2, rfl⟩ : ∃ f, f2 = f + 1 := ⟨f2 - 1, by omega⟩
    refine Or.inl ⟨?_, ?_, fun i h2 h3 => absurd h2 (by omega)⟩
    · rw [b_X0_proceduresOf_21, if_pos (nI_lt (by omega) (by omega))]
    · rw [b_X5_procedures_57, if_pos (nI_lt (by omega) (by omega)), if_neg i10]
  | succ k ih =>
    intro j f1 f2 hj h1 hf1 hf2
    obtain ⟨f1, rfl⟩ : ∃ f, f1 = f + 1 := ⟨f1 - 1, by omega⟩
    obtain ⟨f2, rfl⟩ : ∃ f, f2 = f + 1 := ⟨f2 - 1, by omega⟩
    obtain ⟨h1n, h2n, h3n, h4n⟩ := h s hs
    have e1 : nI j + 1 = nI (j + 1) := nI_1 j
    have e2 : (80 : Int32) * nI s + nI j = nI (80 * s + j) := by
      rw [show (80 : Int32) = nI 80 from rfl, pk_mul, nI_add]
    have hj1 : ¬ nI P < nI j := nI_nlt (by omega) (by omega)
    have hz : b_X5_procedures_57 f2 (nI s) (nI P) 0 (nI j + 1) τ = some 0 := by
      obtain ⟨f2, rfl⟩ : ∃ f, f2 = f + 1 := ⟨f2 - 1, by omega⟩
      rw [b_X5_procedures_57]
      by_cases c2 : nI P < nI j + 1
      · rw [if_pos c2, if_pos rfl]
      · rw [if_neg c2, if_pos rfl, if_pos rfl]
    rw [b_X0_proceduresOf_21, if_neg hj1, p_by h hs (show j < n s by omega), Option.bind_some]
    rw [b_X5_procedures_57, if_neg hj1, if_neg i10]
    rw [e2, if_pos (p_in (n := 400) (by omega) (by decide)), p_gA (by omega), hz]
    generalize hv : τ.2 0 (80 * s + j) = v
    obtain ⟨g, hg, hge⟩ := pk_andE v (m := 255) 8 (by decide)
    rw [hge]
    by_cases c1 : nI g ≤ nI P
    · exact Or.inr ⟨by rw [if_pos c1], by rw [if_pos c1]⟩
    · simp only [if_neg c1]
      rw [p_len h hs, Option.bind_some, if_pos (p_s5 hs).2.2, p_gA (by omega), h3n]
      have gP : P < g := by
        rcases Nat.lt_or_ge P g with q | q
        · exact q
        · exact absurd (nI_le q (by omega)) c1
      by_cases c2 : g < n s
      · simp only [if_pos (nI_lt c2 (show n s < 2 ^ 31 by omega)), if_neg (nI_ge c2 (show n s < 2 ^ 31 by omega)), e1]
        rcases ih (j + 1) f1 f2 (by omega) (by omega) (by omega) (by omega) with ⟨a1, a2, a3⟩ | a
        · refine Or.inl ⟨a1, a2, fun i h2 h3 => ?_⟩
          by_cases hij : i = j
          · subst hij
            exact ⟨g, gP, c2, by rw [hv, hge]⟩
          · exact a3 i (by omega) h3
        · exact Or.inr a
      · refine Or.inr ⟨by rw [if_neg (nI_nlt (by omega) (by omega))], ?_⟩
        rw [if_pos (nI_le (by omega) (by omega))]
/-- a segment too short for its table -/
theorem p_prX (h : DiskR n σ τ) {s P : Nat} (hs : s < 5) (hP1 : 1 ≤ P) (hP : P ≤ 4) (hn : n s ≤ P) : b_X0_proceduresOf_21 6 (nI s) (nI P) 1 σ = some 0 := by
  have key : ∀ (k j f1 : Nat), j + k = P + 1 → 1 ≤ j → k < f1 → 1 ≤ k → b_X0_proceduresOf_21 f1 (nI s) (nI P) (nI j) σ = some 0 := by
    intro k
    induction k with
    | zero => intro j f1 _ _ _ h9; omega
    | succ k ih =>
      intro j f1 hj h1 hf1 _
      obtain ⟨f1, rfl⟩ : ∃ f, f1 = f + 1 := ⟨f1 - 1, by omega⟩
      have hj1 : ¬ nI P < nI j := nI_nlt (by omega) (by omega)
      rw [b_X0_proceduresOf_21, if_neg hj1]
      by_cases hjn : j < n s
      · rw [p_by h hs hjn, Option.bind_some]
        obtain ⟨g, hg, hge⟩ := pk_andE (τ.2 0 (80 * s + j)) (m := 255) 8 (by decide)
        rw [hge]
        by_cases c1 : nI g ≤ nI P
        · rw [if_pos c1]
        · rw [if_neg c1, p_len h hs, Option.bind_some]
          have gP : P < g := by
            rcases Nat.lt_or_ge P g with q | q
            · exact q
            · exact absurd (nI_le q (by omega)) c1
          rw [if_neg (nI_nlt (by omega) (by omega))]
      · rw [p_byO h hs (Or.inr (nI_le (by omega) (by omega))), Option.bind_some, if_pos]
        have e0 : (0 : Int32) &&& 255 = nI 0 := by decide
        rw [e0]
        exact nI_le (by omega) (by omega)
  exact key P 1 6 (by omega) (by omega) (by omega) hP1
/-- what both say of a segment's procedures -/
def Prs (n : Nat → Nat) (τ : St) (x : Int32) (P : Nat) : Prop := P = 0 ∨ ∃ s, s < 5 ∧ x = nI s ∧ P ≤ 4 ∧ P < n s ∧ ∀ i, i < P → ∃ g, P < g ∧ g < n s ∧ τ.2 0 (80 * s + (i + 1)) &&& 255 = nI g
theorem p_prs (h : DiskR n σ τ) (x : Int32) : ∃ P : Nat, P ≤ 4 ∧ f_X0_proceduresOf x σ = some (nI P) ∧ f_X5_procedures x τ = some (nI P) ∧ Prs n τ x P := by
  rcases p_seg x with ⟨-, hx⟩ | ⟨s, hs, rfl⟩
  · refine ⟨0, by omega, ?_, ?_, Or.inl rfl⟩
    · unfold f_X0_proceduresOf
      rw [p_byN hx, Option.bind_some, if_pos (by decide)]
      rfl
    · unfold f_X5_procedures
      rw [p_noM hx, Option.bind_some, if_pos rfl]
      rfl
  · obtain ⟨h1n, h2n, h3n, h4n⟩ := h s hs
    by_cases hn0 : n s = 0
    · refine ⟨0, by omega, ?_, ?_, Or.inl rfl⟩
      · unfold f_X0_proceduresOf
        rw [p_byO h hs (Or.inr (by rw [hn0]; decide)), Option.bind_some, if_pos (by decide)]
        rfl
      · unfold f_X5_procedures
        rw [p_isM hs, Option.bind_some, if_neg i10, if_pos (p_s5 hs).2.2, p_gA (by omega), h3n, hn0, if_pos nI_0]
        rfl
    · have e80 : (80 : Int32) * nI s = nI (80 * s) := by rw [show (80 : Int32) = nI 80 from rfl, pk_mul]
      have hb0 := p_by h hs (i := 0) (by omega)
      rw [show nI 0 = 0 from rfl, Nat.add_zero] at hb0
      unfold f_X0_proceduresOf f_X5_procedures
      rw [hb0, Option.bind_some, p_isM hs, Option.bind_some, if_neg (by decide : ¬ (1 : Int32) = 0), if_pos (p_s5 hs).2.2, p_gA (by omega), h3n, if_neg (nI_ne0 (by omega) (by omega)), e80, if_pos (p_in (n := 400) (by omega) (by decide)), p_gA (by omega)]
      generalize hv : τ.2 0 (80 * s) = v
      unfold b_X5_procedures_52 b_X5_procedures_53
      have z0 : b_X5_procedures_57 6 (nI s) v 0 1 τ = some 0 := by
        rw [b_X5_procedures_57]
        by_cases c : v < 1
        · rw [if_pos c, if_pos rfl]
        · rw [if_neg c, if_pos rfl, if_pos rfl]
      rw [z0]
      by_cases c1 : v < 1
      · exact ⟨0, by omega, by rw [if_pos c1]; rfl, by rw [if_pos c1]; rfl, Or.inl rfl⟩
      · rw [if_neg c1, if_neg c1]
        by_cases c2 : v ≤ 4
        · obtain ⟨P, hP, rfl⟩ := nI_of2 (M := 4) (n := 4) (by decide) (fun q => c1 (by rw [Int32.lt_iff_toInt_lt] at q ⊢; simp at q ⊢; omega)) c2
          have hP1 : 1 ≤ P := by
            rcases Nat.eq_zero_or_pos P with q | q
            · subst q; exact absurd (by decide) c1
            · exact q
          have c3 : ¬ (4 : Int32) < nI P := nI_nlt (a := 4) hP (by decide)
          rw [if_pos c2, if_neg c3, if_pos (p_s5 hs).2.2]
          by_cases c4 : P < n s
          · rw [if_neg (nI_ge c4 (by omega))]
            rcases p_prC h hs hP c4 P 1 6 6 (by omega) (by omega) (by omega) (by omega) with ⟨a1, a2, a3⟩ | ⟨a1, a2⟩
            · exact ⟨P, hP, a1, a2, Or.inr ⟨s, hs, rfl, hP, c4, fun i hi => a3 (i + 1) (by omega) (by omega)⟩⟩
            · exact ⟨0, by omega, a1, a2, Or.inl rfl⟩
          · rw [if_pos (nI_le (by omega) (by omega))]
            refine ⟨0, by omega, ?_, rfl, Or.inl rfl⟩
            exact p_prX h hs hP1 hP (by omega)
        · refine ⟨0, by omega, by rw [if_neg c2]; rfl, ?_, Or.inl rfl⟩
          rw [if_pos (by rw [Int32.lt_iff_toInt_lt]; rw [Int32.le_iff_toInt_le] at c2; omega)]
          rfl
end Dk
