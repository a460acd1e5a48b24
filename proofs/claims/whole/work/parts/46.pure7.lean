section Cl
variable {n : Nat → Nat} {F lim : Nat} {sg L be : Nat → Nat} {rs : Nat → Bool} {σ τ σ1 τ1 : St}
theorem p_ix0 (y : Int32) : y < 0 ∨ ∃ i : Nat, i < 2 ^ 31 ∧ y = nI i := by
  by_cases h : y < 0
  · exact Or.inl h
  · exact Or.inr (nI_of h)
/-- what a call finds: nothing to be called, or a procedure's begin and its locals -/
theorem p_pre (h : DiskR n σ τ) (x y : Int32) :
    (f_X0_localsOf x y σ = some (-1) ∧ ∀ z, f_X5_call x y z τ = some (0, sI τ 1 3)) ∨
    (∃ s g ln, s < 5 ∧ x = nI s ∧ ln ≤ 6 ∧ 0 < g ∧ g < n s ∧ f_X0_localsOf x y σ = some (nI ln) ∧ (∀ σ2 τ2, DiskR n σ2 τ2 → τ2.2 0 = τ.2 0 → f_X0_beginOf x y σ2 = some (nI g)) ∧ ∀ z, f_X5_call x y z τ = b_X5_call_57 (nI s) z (nI g) (nI ln) τ) := by
  have bad0 : ∀ z, b_X5_call_33 x z τ = some (0, sI τ 1 3) := fun z => by
    unfold b_X5_call_33 b_X5_call_34
    rw [if_pos (by decide)]
    unfold b_X5_call_57
    rw [if_pos (by decide)]
  obtain ⟨P, hP, pC, pM, hprs⟩ := p_prs h x
  rcases p_ix0 y with hy | ⟨i, hi, rfl⟩
  · refine Or.inl ⟨?_, fun z => ?_⟩
    · unfold f_X0_localsOf
      rw [if_pos hy]
    · unfold f_X5_call
      rw [if_pos hy, bad0]
  · have hy0 : ¬ nI i < 0 := nI_pos hi
    by_cases hiP : i < P
    · rcases hprs with rfl | ⟨s, hs, rfl, -, hPn, hbg⟩
      · omega
      · obtain ⟨g, g1, g2, g3⟩ := hbg i hiP
        obtain ⟨h1n, h2n, h3n, h4n⟩ := h s hs
        have hbegin : ∀ σ2 τ2, DiskR n σ2 τ2 → τ2.2 0 = τ.2 0 → f_X0_beginOf (nI s) (nI i) σ2 = some (nI g) := fun σ2 τ2 h2 e2 => by
          unfold f_X0_beginOf
          rw [nI_1, p_by h2 hs (show i + 1 < n s by omega), Option.bind_some, e2, g3]
        have eM : ∀ z, f_X5_call (nI s) (nI i) z τ = b_X5_call_57 (nI s) z (nI g) (τ.2 0 (80 * s + g)) τ := fun z => by
          unfold f_X5_call
          have e1 : ((80 : Int32) * nI s + 1) + nI i = nI (80 * s + (i + 1)) := by
            rw [show (80 : Int32) = nI 80 from rfl, pk_mul, nI_1, nI_add]
            congr 1
            omega
          have e2 : (80 : Int32) * nI s + nI g = nI (80 * s + g) := by rw [show (80 : Int32) = nI 80 from rfl, pk_mul, nI_add]
          rw [if_neg hy0, pM, Option.bind_some, if_neg (nI_ge hiP (by omega)), e1, if_pos (p_in (n := 400) (by omega) (by decide)), p_gA (by omega), g3]
          unfold b_X5_call_34
          rw [if_neg (nI_nle (by omega) (by omega)), e2, if_pos (p_in (n := 400) (by omega) (by decide)), p_gA (by omega)]
        have eC : f_X0_localsOf (nI s) (nI i) σ = if τ.2 0 (80 * s + g) < 0 then some (-1) else if 6 < τ.2 0 (80 * s + g) then some (-1) else some (τ.2 0 (80 * s + g)) := by
          unfold f_X0_localsOf
          rw [if_neg hy0, pC, Option.bind_some, if_pos (nI_lt hiP (by omega)), hbegin σ τ h rfl, Option.bind_some, p_by h hs g2, Option.bind_some]
        generalize hv : τ.2 0 (80 * s + g) = v at eM eC
        by_cases c1 : v < 0
        · refine Or.inl ⟨by rw [eC, if_pos c1], fun z => ?_⟩
          rw [eM]
          unfold b_X5_call_57
          rw [if_pos c1]
        · by_cases c2 : 6 < v
          · refine Or.inl ⟨by rw [eC, if_neg c1, if_pos c2], fun z => ?_⟩
            rw [eM]
            unfold b_X5_call_57
            rw [if_neg c1, if_neg (fun q => i_lt_le.mpr q c2)]
          · obtain ⟨ln, hln, rfl⟩ := nI_of2 (M := 6) (n := 6) (by decide) c1 (i_lt_le.mp c2)
            exact Or.inr ⟨s, g, ln, hs, rfl, hln, by omega, g2, by rw [eC, if_neg c1, if_neg c2], hbegin, eM⟩
    · refine Or.inl ⟨?_, fun z => ?_⟩
      · unfold f_X0_localsOf
        rw [if_neg hy0, pC, Option.bind_some, if_neg (nI_nlt (by omega) (by omega))]
      · unfold f_X5_call
        rw [if_neg hy0, pM, Option.bind_some, if_pos (nI_le (by omega) (by omega)), bad0]
/-- the class lays a frame's locals -/
theorem p_lay {U ln : Nat} (hU : U + ln ≤ 1000) (v : Int32) : ∀ (m k fu : Nat) (σ : St), k + m = ln → m < fu → σ.1 10 = nI U → σ.1 9 = nI F →
    ∃ σ1, b_X1_open_73 fu (nI ln) v (nI k) σ = some (0, σ1) ∧ Off [9, 10] [9] σ σ1 ∧ σ1.1 10 = nI (U + ln) ∧ σ1.1 9 = nI (F + 1) ∧ ∀ j, σ1.2 9 j = if U + k ≤ j ∧ j < U + ln then (if j = U then v else 0) else σ.2 9 j := by
  intro m
  induction m with
  | zero =>
    intro k fu σ hk hfu h10 h9
    obtain ⟨fu, rfl⟩ : ∃ f, fu = f + 1 := ⟨fu - 1, by omega⟩
    have : k = ln := by omega
    subst this
    refine ⟨sI (sI σ 10 (nI (U + k))) 9 (nI (F + 1)), ?_, off_sI (off_sI Off.rf (by decide)) (by decide), rfl, rfl, fun j => ?_⟩
    · rw [b_X1_open_73, if_pos (nI_le (Nat.le_refl _) (by omega)), p_gI, p_gI, h10, h9, nI_add, nI_1]
    · rw [if_neg (by omega)]
      rfl
  | succ m ih =>
    intro k fu σ hk hfu h10 h9
    obtain ⟨fu, rfl⟩ : ∃ f, fu = f + 1 := ⟨fu - 1, by omega⟩
    have step : ∀ w, b_X1_open_73 (fu + 1) (nI ln) v (nI k) σ = b_X1_open_73 fu (nI ln) v (nI (k + 1)) (sA σ 9 (nI (U + k)) w) → (w = if k = 0 then v else 0) → ∃ σ1, b_X1_open_73 (fu + 1) (nI ln) v (nI k) σ = some (0, σ1) ∧ Off [9, 10] [9] σ σ1 ∧ σ1.1 10 = nI (U + ln) ∧ σ1.1 9 = nI (F + 1) ∧ ∀ j, σ1.2 9 j = if U + k ≤ j ∧ j < U + ln then (if j = U then v else 0) else σ.2 9 j := by
      intro w e hw
      obtain ⟨σ1, r1, r2, r3, r4, r5⟩ := ih (k + 1) fu (sA σ 9 (nI (U + k)) w) (by omega) (by omega) h10 h9
      refine ⟨σ1, e.trans r1, (off_sA Off.rf (by decide)).tr r2, r3, r4, fun j => ?_⟩
      rw [r5, p_sA2 (by omega)]
      by_cases c1 : U + (k + 1) ≤ j ∧ j < U + ln
      · rw [if_pos c1, if_pos (show U + k ≤ j ∧ j < U + ln by omega)]
      · rw [if_neg c1]
        by_cases c2 : j = U + k
        · subst c2
          rw [if_pos ⟨rfl, rfl⟩, if_pos (show U + k ≤ U + k ∧ U + k < U + ln by omega), hw]
          by_cases hk0 : k = 0
          · rw [if_pos hk0, if_pos (show U + k = U by omega)]
          · rw [if_neg hk0, if_neg (show ¬ U + k = U by omega)]
        · rw [if_neg (show ¬ (9 = 9 ∧ j = U + k) by omega), if_neg (show ¬ (U + k ≤ j ∧ j < U + ln) by omega)]
    by_cases hk0 : k = 0
    · subst hk0
      refine step v ?_ (by rw [if_pos rfl])
      rw [b_X1_open_73, if_neg (nI_ge (by omega) (by omega)), if_pos nI_0, p_gI, h10, nI_add, if_pos (p_in (n := 1000) (by omega) (by decide)), nI_1]
    · refine step 0 ?_ (by rw [if_neg hk0])
      rw [b_X1_open_73, if_neg (nI_ge (by omega) (by omega)), if_neg (nI_ne0 (by omega) (by omega)), p_gI, h10, nI_add, if_pos (p_in (n := 1000) (by omega) (by decide)), nI_1]
/-- the reference lays a frame's locals -/
theorem p_layM {ln : Nat} (hF : F ≤ 500) (hln : ln ≤ 6) (v : Int32) : ∀ (m k fu : Nat) (τ : St), k + m = 6 → m < fu → τ.1 7 = nI F →
    ∃ τ1, b_X5_call_208 fu v (nI ln) (nI k) τ = (f_X5_grown (sI τ1 7 (nI (F + 1)))).bind (fun u => some (0, u.2)) ∧ Off [] [7] τ τ1 ∧ ∀ j, τ1.2 7 j = if 6 * F + k ≤ j ∧ j < 6 * F + 6 then (if j = 6 * F ∧ 0 < ln then v else 0) else τ.2 7 j := by
  intro m
  induction m with
  | zero =>
    intro k fu τ hk hfu h7
    obtain ⟨fu, rfl⟩ : ∃ f, fu = f + 1 := ⟨fu - 1, by omega⟩
    have : k = 6 := by omega
    subst this
    refine ⟨τ, ?_, Off.rf, fun j => by rw [if_neg (by omega)]⟩
    rw [b_X5_call_208, if_pos (by decide), p_gI, h7, nI_1]
  | succ m ih =>
    intro k fu τ hk hfu h7
    obtain ⟨fu, rfl⟩ : ∃ f, fu = f + 1 := ⟨fu - 1, by omega⟩
    have h6 : ¬ (6 : Int32) ≤ nI k := nI_ge (b := 6) (by omega) (by decide)
    have e6 : (6 : Int32) * nI F + nI k = nI (6 * F + k) := by rw [show (6 : Int32) = nI 6 from rfl, pk_mul, nI_add]
    have step : ∀ w, b_X5_call_208 (fu + 1) v (nI ln) (nI k) τ = b_X5_call_208 fu v (nI ln) (nI (k + 1)) (sA τ 7 (nI (6 * F + k)) w) → (w = if k = 0 ∧ 0 < ln then v else 0) → ∃ τ1, b_X5_call_208 (fu + 1) v (nI ln) (nI k) τ = (f_X5_grown (sI τ1 7 (nI (F + 1)))).bind (fun u => some (0, u.2)) ∧ Off [] [7] τ τ1 ∧ ∀ j, τ1.2 7 j = if 6 * F + k ≤ j ∧ j < 6 * F + 6 then (if j = 6 * F ∧ 0 < ln then v else 0) else τ.2 7 j := by
      intro w e hw
      obtain ⟨τ1, r1, r2, r3⟩ := ih (k + 1) fu (sA τ 7 (nI (6 * F + k)) w) (by omega) (by omega) h7
      refine ⟨τ1, e.trans r1, (off_sA Off.rf (by decide)).tr r2, fun j => ?_⟩
      rw [r3, p_sA2 (by omega)]
      by_cases c1 : 6 * F + (k + 1) ≤ j ∧ j < 6 * F + 6
      · rw [if_pos c1, if_pos (show 6 * F + k ≤ j ∧ j < 6 * F + 6 by omega)]
      · rw [if_neg c1]
        by_cases c2 : j = 6 * F + k
        · subst c2
          rw [if_pos ⟨rfl, rfl⟩, if_pos (show 6 * F + k ≤ 6 * F + k ∧ 6 * F + k < 6 * F + 6 by omega), hw]
          by_cases hk0 : k = 0 ∧ 0 < ln
          · rw [if_pos hk0, if_pos (show 6 * F + k = 6 * F ∧ 0 < ln by omega)]
          · rw [if_neg hk0, if_neg (show ¬ (6 * F + k = 6 * F ∧ 0 < ln) by omega)]
        · rw [if_neg (show ¬ (7 = 7 ∧ j = 6 * F + k) by omega), if_neg (show ¬ (6 * F + k ≤ j ∧ j < 6 * F + 6) by omega)]
    by_cases hk0 : k = 0
    · subst hk0
      by_cases hl0 : ln = 0
      · subst hl0
        refine step 0 ?_ (by rw [if_neg (by omega)])
        rw [b_X5_call_208, if_neg h6, if_pos nI_0, if_pos (by decide), p_gI, h7, e6, if_pos (p_in (n := 3120) (by omega) (by decide)), nI_1]
      · refine step v ?_ (by rw [if_pos (by omega)])
        rw [b_X5_call_208, if_neg h6, if_pos nI_0, if_neg (nI_nle (by omega) (by omega)), p_gI, h7, e6, if_pos (p_in (n := 3120) (by omega) (by decide)), nI_1]
    · refine step 0 ?_ (by rw [if_neg (by omega)])
      rw [b_X5_call_208, if_neg h6, if_neg (nI_ne0 (by omega) (by omega)), p_gI, h7, e6, if_pos (p_in (n := 3120) (by omega) (by decide)), nI_1]
end Cl
