/-! one instruction in both: what the operations share -/
def GoR (n : Nat → Nat) (F : Nat) (sg L be : Nat → Nat) (rs : Nat → Bool) (lim : Nat) (σ τ : St) : Prop :=
  DiskR n σ τ ∧ FrR F sg L be σ τ ∧ MeR n F sg L be rs lim σ τ ∧ OtR σ τ ∧ TmR σ τ ∧ σ.1 2 = 1 ∧ τ.1 1 = 1 ∧ 1 ≤ F
section Oa
variable {n : Nat → Nat} {F lim : Nat} {sg L be : Nat → Nat} {rs : Nat → Bool} {σ τ σ1 τ1 : St}
theorem PlR.put (hp : PlR F σ τ) {f : Nat} {p : Int32} (h1 : ∀ j, σ1.2 6 j = if j = f then p else σ.2 6 j) (h2 : ∀ j, τ1.2 5 j = if j = f then p else τ.2 5 j) : PlR F σ1 τ1 := fun j q => by
  rw [h1, h2]
  by_cases c : j = f
  · rw [if_pos c, if_pos c]
  · rw [if_neg c, if_neg c]
    exact hp j q
theorem GoR.off (hg : GoR n F sg L be rs lim σ τ) (o1 : Off [] [6] σ σ1) (o2 : Off [] [5] τ τ1) : GoR n F sg L be rs lim σ1 τ1 := by
  obtain ⟨hd, hf, hm, ho, hT, s2, t1, hF⟩ := hg
  refine ⟨hd.off (fun a ha => o1.2 a (by simp; omega)) (fun a ha => o2.2 a (by simp; omega)), hf.off (o1.1 9 (by simp)) (o1.1 10 (by simp)) (fun a ha => o1.2 a (by simp; omega)) (o2.1 7 (by simp)) (o2.1 8 (by simp)) (fun a ha => o2.2 a (by simp; omega)), hm.off (rs2 := rs) rfl (o1.1 5 (by simp)) (o1.1 4 (by simp)) (o1.2 2 (by simp)) (o1.2 3 (by simp)) (o2.2 2 (by simp)) (o2.1 2 (by simp)), ?_, ?_, ?_, ?_, hF⟩
  · exact ho.off (o1.1 6 (by simp)) (o1.1 7 (by simp)) (o1.1 8 (by simp)) (o1.1 1 (by simp)) (o1.1 0 (by simp)) (o1.2 1 (by simp)) (o2.1 4 (by simp)) (o2.1 5 (by simp)) (o2.1 6 (by simp)) (o2.1 9 (by simp)) (o2.1 10 (by simp)) (o2.2 10 (by simp))
  · exact ⟨by rw [o1.1 3 (by simp), o2.1 3 (by simp)]; exact hT.1, fun s hs => by rw [o1.2 4 (by simp), o2.2 3 (by simp)]; exact hT.2 s hs⟩
  · rw [o1.1 2 (by simp)]; exact s2
  · rw [o2.1 1 (by simp)]; exact t1
theorem GoR.fin (hg : GoR n F sg L be rs lim σ τ) (hp : PlR F σ τ) : Fin σ τ := by
  obtain ⟨hd, hf, hm, ho, hT, s2, t1, hF⟩ := hg
  exact ⟨n, F, sg, L, be, rs, lim, hd, hf, hp, hm, ho, by rw [s2, t1], by rw [s2]; decide, fun _ => ⟨hF, hT⟩⟩
/-- a run that ends, with places set back -/
theorem fin_stop (hd : DiskR n σ τ) (hf : FrR F sg L be σ τ) (hm : MeR n F sg L be rs lim σ τ) (ho : OtR σ τ) {k : Int32} (hk0 : ¬ k = 0) (hk1 : ¬ k = 1) (o2 : Off [1] [5] τ τ1) (h1 : τ1.1 1 = k) (hp : PlR F σ τ1) : Fin (sI σ 2 k) τ1 := by
  refine ⟨n, F, sg, L, be, rs, lim, hd.off (fun _ _ => rfl) (fun a ha => o2.2 a (by simp; omega)), hf.off rfl rfl (fun _ _ => rfl) (o2.1 7 (by simp)) (o2.1 8 (by simp)) (fun a ha => o2.2 a (by simp; omega)), hp, hm.off (rs2 := rs) rfl rfl rfl rfl rfl (o2.2 2 (by simp)) (o2.1 2 (by simp)), ?_, ?_, hk0, fun q => absurd q hk1⟩
  · exact ho.off rfl rfl rfl rfl rfl rfl (o2.1 4 (by simp)) (o2.1 5 (by simp)) (o2.1 6 (by simp)) (o2.1 9 (by simp)) (o2.1 10 (by simp)) (o2.2 10 (by simp))
  · exact h1.symm
theorem p_sA5 {f j : Nat} {p : Int32} {a : Nat} (hf : f < 2 ^ 31) : (sA τ a (nI f) p).2 a j = if j = f then p else τ.2 a j := by
  rw [p_sA2 hf]
  simp only [true_and]
theorem off_5 {i p : Int32} : Off [] [5] τ (sA τ 5 i p) := off_sA Off.rf (by simp)
theorem off_6 {i p : Int32} : Off [] [6] σ (sA σ 6 i p) := off_sA Off.rf (by simp)
/-- both push and move -/
theorem p_pam (hg : GoR n F sg L be rs lim σ τ) (hp : PlR F σ τ) (v p : Int32) {pl : Int32} (ha : τ.2 5 (F - 1) = pl) :
    ∃ σ', f_X3_pushAndMove v p σ = some (0, σ') ∧ (∃ τ', b_X5_one_567 (nI (F - 1)) pl v (sA τ 5 (nI (F - 1)) p) = some (0, τ') ∧ Fin σ' τ' ∧ τ'.1 0 = τ.1 0) ∧ (∃ τ', b_X5_one_384 (nI (F - 1)) pl v (sA τ 5 (nI (F - 1)) p) = some (0, τ') ∧ Fin σ' τ' ∧ τ'.1 0 = τ.1 0) := by
  have hgm := hg.off (Off.rf (σ := σ)) (off_5 (τ := τ) (i := nI (F - 1)) (p := p))
  have om := off_5 (τ := τ) (i := nI (F - 1)) (p := p)
  have em : ∀ j, (sA τ 5 (nI (F - 1)) p).2 5 j = if j = F - 1 then p else τ.2 5 j := fun j => p_sA5 (by have := FrR.F_le hg.2.2.1; omega)
  generalize sA τ 5 (nI (F - 1)) p = τm at hgm om em ⊢
  obtain ⟨hd, hf, hm, ho, hT, s2, t1, hF⟩ := id hgm
  obtain ⟨F5, W1⟩ := FrR.F_le hm
  have hin : inB (nI (F - 1)) 520 = true := p_in (by omega) (by decide)
  rcases p_push hd hF hf hm ho hT v with ⟨rs1, σ1, τ1, o1, o2, hf1, hm1, ho1, e1, e2⟩ | ⟨rs1, σ1, τ1, o1, o2, hf1, hm1, ho1, e1, e2⟩
  · have eC : f_X3_pushAndMove v p σ = some (0, sI σ1 2 4) := by
      unfold f_X3_pushAndMove
      rw [e1, Option.bind_some, if_pos rfl]
    have h7 : gI (sI τ1 1 4) 7 = nI F := hf1.2.1
    have h1 : gI (sI τ1 1 4) 1 = 4 := rfl
    have c1 : ¬ (4 : Int32) ≤ 1 := by decide
    have c2 : ¬ nI F ≤ nI (F - 1) := nI_ge (by omega) (by omega)
    have hd1 : DiskR n σ1 τ1 := hd.off (fun a ha => o1.2 a (by simp; omega)) (fun a ha => o2.2 a (by simp; omega))
    have key : ∀ τ2, Off [1] [5] τ1 τ2 → τ2.1 1 = 4 → (∀ j, τ2.2 5 j = if j = F - 1 then pl else τ1.2 5 j) → Fin (sI σ1 2 4) τ2 ∧ τ2.1 0 = τ.1 0 := fun τ2 q1 q2 q3 => by
      refine ⟨fin_stop hd1 hf1 hm1 ho1 (by decide) (by decide) q1 q2 (fun j hj => ?_), by rw [q1.1 0 (by decide), o2.1 0 (by decide), om.1 0 (by simp)]⟩
      rw [q3, o1.2 6 (by decide), o2.2 5 (by decide), em, hp j hj]
      by_cases c : j = F - 1
      · rw [if_pos c, c, ha]
      · rw [if_neg c, if_neg c]
    refine ⟨_, eC, ⟨sA (sI τ1 1 4) 5 (nI (F - 1)) pl, ?_, ?_⟩, ⟨sA (sA (sI τ1 1 4) 5 (nI (F - 1)) pl) 5 (nI (F - 1)) pl, ?_, ?_⟩⟩
    · unfold b_X5_one_567
      rw [e2, Option.bind_some, h1, h7, if_neg c1, if_neg c2, if_pos hin]
    · exact key _ (off_sA (off_sI Off.rf (by decide)) (by decide)) rfl (fun j => p_sA5 (by omega))
    · unfold b_X5_one_384
      rw [e2, Option.bind_some, if_pos rfl, h1, h7, if_neg c1, if_neg c2, if_pos hin, if_pos hin]
    · refine key _ (off_sA (off_sA (off_sI Off.rf (by decide)) (by decide)) (by decide)) rfl (fun j => ?_)
      rw [p_sA5 (by omega), p_sA5 (by omega)]
      by_cases c : j = F - 1
      · rw [if_pos c, if_pos c]
      · rw [if_neg c, if_neg c, if_neg c]
        rfl
  · have hd1 : DiskR n σ1 τ1 := hd.off (fun a ha => o1.2 a (by simp; omega)) (fun a ha => o2.2 a (by simp; omega))
    have eC : f_X3_pushAndMove v p σ = some (0, sA σ1 6 (nI (F - 1)) p) := by
      unfold f_X3_pushAndMove
      rw [e1, Option.bind_some, if_neg i10, p_move hF hm1 hf1 p, Option.bind_some]
    have h1 : gI τ1 1 = 1 := by rw [p_gI, o2.1 1 (by decide)]; exact t1
    have c1 : (1 : Int32) ≤ 1 := by decide
    have hg1 : GoR n F sg L (upF be F (be F + 1)) rs1 lim σ1 τ1 := ⟨hd1, hf1, hm1, ho1, ⟨by rw [o1.1 3 (by decide), o2.1 3 (by decide)]; exact hT.1, fun s hs => by rw [o1.2 4 (by decide), o2.2 3 (by decide)]; exact hT.2 s hs⟩, by rw [o1.1 2 (by decide)]; exact s2, h1, hF⟩
    have hfin : Fin (sA σ1 6 (nI (F - 1)) p) τ1 := by
      refine (hg1.off off_6 Off.rf).fin (hp.put (f := F - 1) (p := p) (fun j => ?_) (fun j => ?_))
      · rw [p_sA5 (by omega), o1.2 6 (by decide)]
      · rw [o2.2 5 (by decide), em]
    have h0 : τ1.1 0 = τ.1 0 := by rw [o2.1 0 (by decide), om.1 0 (by simp)]
    refine ⟨_, eC, ⟨τ1, ?_, hfin, h0⟩, ⟨τ1, ?_, hfin, h0⟩⟩
    · unfold b_X5_one_567
      rw [e2, Option.bind_some, h1, if_pos c1]
    · unfold b_X5_one_384
      rw [e2, Option.bind_some, if_neg i10, h1, if_pos c1]
/-- both take a number -/
theorem g_take (hg : GoR n F sg L be rs lim σ τ) (hb : be (F - 1) < be F) : ∃ v σ1 τ1, Off [5, 10] [] σ σ1 ∧ Off [8] [] τ τ1 ∧ GoR n F sg L (upF be F (be F - 1)) rs lim σ1 τ1 ∧ f_X3_take σ = some (v, σ1) ∧ f_X5_pop τ = some (v, τ1) := by
  obtain ⟨hd, hf, hm, ho, hT, s2, t1, hF⟩ := hg
  obtain ⟨v, σ1, τ1, o1, o2, hf1, hm1, ho1, hT1, e1, e2⟩ := p_take hF hf hm ho hT hb
  exact ⟨v, σ1, τ1, o1, o2, ⟨hd.off (fun a ha => o1.2 a (by simp)) (fun a ha => o2.2 a (by simp)), hf1, hm1, ho1, hT1, by rw [o1.1 2 (by decide)]; exact s2, by rw [o2.1 1 (by decide)]; exact t1, hF⟩, e1, e2⟩
theorem PlR.offs (hp : PlR F σ τ) {ks as ks2 as2 : List Nat} (o1 : Off ks as σ σ1) (o2 : Off ks2 as2 τ τ1) (h1 : 6 ∉ as) (h2 : 5 ∉ as2) : PlR F σ1 τ1 := hp.off (o1.2 6 h1) (o2.2 5 h2)
/-- a frame's locals -/
theorem p_hasN (hf : FrR F sg L be σ τ) (F5 : F ≤ 500) {f : Nat} (hF : f < F) {K : Int32} (hK : K < 0 ∨ nI (L f) ≤ K) : f_X1_hasLocal (nI f) K σ = some 0 := by
  obtain ⟨-, g2, -, -, -, -, g7, -⟩ := hf.2.2.2.2.1 f hF
  unfold f_X1_hasLocal
  rw [p_gI, hf.1, if_neg (p_n0 (by omega)), if_neg (nI_ge hF (by omega))]
  by_cases c : K < 0
  · rw [if_pos c]
  · rw [if_neg c, if_pos (p_in (n := 500) (by omega) (by decide)), p_gA (by omega), g7, if_pos (hK.resolve_left c)]
theorem p_hasY (hf : FrR F sg L be σ τ) (F5 : F ≤ 500) {f k : Nat} (hF : f < F) (hk : k < L f) : f_X1_hasLocal (nI f) (nI k) σ = some 1 := by
  obtain ⟨-, g2, -, -, -, -, g7, -⟩ := hf.2.2.2.2.1 f hF
  unfold f_X1_hasLocal
  rw [p_gI, hf.1, if_neg (p_n0 (by omega)), if_neg (nI_ge hF (by omega)), if_neg (p_n0 (by omega)), if_pos (p_in (n := 500) (by omega) (by decide)), p_gA (by omega), g7, if_neg (nI_ge hk (by omega))]
theorem p_adr (hf : FrR F sg L be σ τ) {f g : Nat} (h : f < g) (hg : g ≤ F) : be (f + 1) + sm L (f + 1) ≤ be g + sm L g := by
  have h1 : sm L (f + 1) ≤ sm L g := sm_mono (by omega)
  have h2 : be (f + 1) ≤ be g := be_mono (F := g) (fun j hj => (hf.2.2.2.2.1 j (by omega)).2.2.1) (by omega)
  omega
theorem p_locA (hf : FrR F sg L be σ τ) (hm : MeR n F sg L be rs lim σ τ) {f k : Nat} (hF : f < F) (hk : k < L f) : be f + sm L f + k < 1000 := by
  obtain ⟨F5, W1⟩ := FrR.F_le hm
  have h1 := p_adr hf hF (Nat.le_refl _)
  have h2 := (hf.2.2.2.2.1 f hF).2.2.1
  rw [sm] at h1
  omega
theorem p_locR (hf : FrR F sg L be σ τ) (hm : MeR n F sg L be rs lim σ τ) {f k : Nat} (hF : f < F) (hk : k < L f) : f_X1_localAt (nI f) (nI k) σ = some (τ.2 7 (6 * f + k)) := by
  obtain ⟨F5, W1⟩ := FrR.F_le hm
  have hA := p_locA hf hm hF hk
  unfold f_X1_localAt
  rw [p_hasY hf F5 hF hk, Option.bind_some, if_neg i10, if_pos (p_in (n := 500) (by omega) (by decide)), p_gA (by omega), (hf.2.2.2.2.1 f hF).2.2.2.2.2.2.2.2.1, nI_add, if_pos (p_in (n := 1000) hA (by decide)), p_gA (by omega), hf.2.2.2.2.2.1 f k hF hk]
theorem p_locW (hf : FrR F sg L be σ τ) (hm : MeR n F sg L be rs lim σ τ) {f k : Nat} (hF : f < F) (hk : k < L f) (v : Int32) : f_X1_setLocal (nI f) (nI k) v σ = some (0, sA σ 9 (nI (be f + sm L f + k)) v) ∧ FrR F sg L be (sA σ 9 (nI (be f + sm L f + k)) v) (sA τ 7 (nI (6 * f + k)) v) := by
  obtain ⟨F5, W1⟩ := FrR.F_le hm
  have hA := p_locA hf hm hF hk
  have hL := (hf.2.2.2.2.1 f hF).2.1
  constructor
  · unfold f_X1_setLocal
    rw [p_hasY hf F5 hF hk, Option.bind_some, if_neg i10, if_pos (p_in (n := 500) (by omega) (by decide)), p_gA (by omega), (hf.2.2.2.2.1 f hF).2.2.2.2.2.2.2.2.1, nI_add, if_pos (p_in (n := 1000) hA (by decide))]
  · obtain ⟨b1, b2, b3, b4, b5, b6, b7⟩ := id hf
    refine ⟨b1, b2, b3, b4, fun g hg => ?_, fun g j hg hj => ?_, fun g j hg hj1 hj2 => ?_⟩
    · simp only [p_sA2 (show be f + sm L f + k < 2 ^ 31 by omega), p_sA2 (show 6 * f + k < 2 ^ 31 by omega)]
      exact b5 g hg
    · have hLg := (b5 g hg).2.1
      rw [p_sA5 (by omega), p_sA5 (by omega)]
      by_cases c : g = f ∧ j = k
      · obtain ⟨rfl, rfl⟩ := c
        rw [if_pos rfl, if_pos rfl]
      · have n1 : ¬ be g + sm L g + j = be f + sm L f + k := fun e => by
          rcases Nat.lt_trichotomy g f with q | q | q
          · have h1 := p_adr hf q (Nat.le_of_lt hF)
            have h2 := (b5 g hg).2.2.1
            rw [sm] at h1
            omega
          · subst q
            exact c ⟨rfl, by omega⟩
          · have h1 := p_adr hf q (Nat.le_of_lt hg)
            have h2 := (b5 f hF).2.2.1
            rw [sm] at h1
            omega
        have n2 : ¬ 6 * g + j = 6 * f + k := fun e => c (by omega)
        rw [if_neg n1, if_neg n2]
        exact b6 g j hg hj
    · have n1 : ¬ j + sm L (g + 1) = be f + sm L f + k := fun e => by
        rcases Nat.lt_trichotomy g f with q | q | q
        · have h1 := p_adr hf q (Nat.le_of_lt hF)
          omega
        · subst q
          rw [sm] at e
          omega
        · have h1 := p_adr hf q (Nat.le_of_lt hg)
          have h2 := (b5 f hF).2.2.1
          rw [sm] at e h1
          omega
      rw [p_sA5 (by omega), if_neg n1]
      simp only [p_sA2 (show 6 * f + k < 2 ^ 31 by omega)]
      exact b7 g j hg hj1 hj2
end Oa
