/-! sums, and what memory holds -/
def sm (f : Nat → Nat) : Nat → Nat
  | 0 => 0
  | k + 1 => sm f k + f k
def cnt (sg : Nat → Nat) (s : Nat) : Nat → Nat
  | 0 => 0
  | k + 1 => cnt sg s k + (if sg k = s then 1 else 0)
theorem sm_congr {f g : Nat → Nat} : ∀ k, (∀ i, i < k → f i = g i) → sm f k = sm g k
  | 0, _ => rfl
  | k + 1, h => by rw [sm, sm, sm_congr k (fun i hi => h i (by omega)), h k (by omega)]
theorem cnt_congr {f g : Nat → Nat} {s : Nat} : ∀ k, (∀ i, i < k → f i = g i) → cnt f s k = cnt g s k
  | 0, _ => rfl
  | k + 1, h => by rw [cnt, cnt, cnt_congr k (fun i hi => h i (by omega)), h k (by omega)]
theorem sm_le {f g : Nat → Nat} : ∀ k, (∀ i, i < k → f i ≤ g i) → sm f k ≤ sm g k
  | 0, _ => Nat.le_refl _
  | k + 1, h => by
    have h1 := sm_le k (fun i hi => h i (by omega))
    have h2 := h k (by omega)
    rw [sm, sm]
    omega
theorem sm_mono {f : Nat → Nat} {a b : Nat} (h : a ≤ b) : sm f a ≤ sm f b := by
  induction b with
  | zero => have : a = 0 := by omega
            subst this; exact Nat.le_refl _
  | succ b ih =>
    by_cases hab : a = b + 1
    · subst hab; exact Nat.le_refl _
    · have := ih (by omega)
      rw [sm]
      omega
theorem sm_84 (L : Nat → Nat) : ∀ k, sm (fun f => 8 + 4 * L f) k = 8 * k + 4 * sm L k
  | 0 => rfl
  | k + 1 => by rw [sm, sm, sm_84 L k]; omega
theorem cnt_le (sg : Nat → Nat) (s : Nat) : ∀ k, cnt sg s k ≤ k
  | 0 => Nat.le_refl _
  | k + 1 => by
    have := cnt_le sg s k
    rw [cnt]
    split <;> omega
def bI (b : Bool) : Int32 := if b then 1 else 0
def rsz (n : Nat → Nat) (rs : Nat → Bool) (s : Nat) : Nat := if rs s then n s else 0
/-- bytes held -/
def hld (n : Nat → Nat) (F : Nat) (L be : Nat → Nat) (rs : Nat → Bool) : Nat := 4 * be F + sm (fun f => 8 + 4 * L f) F + sm (rsz n rs) 5
section Hl
variable {n : Nat → Nat} {F : Nat} {sg L be : Nat → Nat} {rs : Nat → Bool} {τ : St}
theorem p_h39 (h1 : ∀ s, s < 5 → τ.2 1 s = nI (n s)) (h2 : ∀ s, s < 5 → τ.2 2 s = bI (rs s)) : ∀ (k s fu a : Nat), s + k = 5 → k < fu → b_X5_held_39 fu (nI (a + sm (rsz n rs) s)) (nI s) τ = some (nI (a + sm (rsz n rs) 5)) := by
  intro k
  induction k with
  | zero =>
    intro s fu a hs hf
    obtain ⟨fu, rfl⟩ : ∃ f, fu = f + 1 := ⟨fu - 1, by omega⟩
    have : s = 5 := by omega
    subst this
    rw [b_X5_held_39, if_pos (by decide)]
  | succ k ih =>
    intro s fu a hs hf
    obtain ⟨fu, rfl⟩ : ∃ f, fu = f + 1 := ⟨fu - 1, by omega⟩
    have hs5 : s < 5 := by omega
    rw [b_X5_held_39, if_neg (p_s5 hs5).2.1, if_pos (p_s5 hs5).2.2, p_gA (by omega), h2 s hs5, nI_1]
    have ih1 := ih (s + 1) fu a (by omega) (by omega)
    rw [sm] at ih1
    by_cases hr : rs s = true
    · have e1 : bI (rs s) = 1 := by rw [hr]; rfl
      rw [e1, if_neg i10, if_pos (p_s5 hs5).2.2, p_gA (by omega), h1 s hs5, nI_add]
      have e2 : rsz n rs s = n s := by unfold rsz; rw [if_pos hr]
      rw [e2, ← Nat.add_assoc] at ih1
      exact ih1
    · have hr' : rs s = false := by simpa using hr
      have e1 : bI (rs s) = 0 := by rw [hr']; rfl
      rw [e1, if_pos rfl]
      have e2 : rsz n rs s = 0 := by unfold rsz; rw [hr']; rfl
      rw [e2, Nat.add_zero] at ih1
      have e3 : nI (a + sm (rsz n rs) s) + 0 = nI (a + sm (rsz n rs) s) := by rw [show (0 : Int32) = nI 0 from rfl, nI_add, Nat.add_zero]
      rw [e3]
      exact ih1
theorem p_h9 (hF : F ≤ 500) (h7 : τ.1 7 = nI F) (h6 : ∀ f, f < F → τ.2 6 f = nI (L f)) (h1 : ∀ s, s < 5 → τ.2 1 s = nI (n s)) (h2 : ∀ s, s < 5 → τ.2 2 s = bI (rs s)) : ∀ (k f fu a : Nat), f + k = F → k < fu → b_X5_held_9 fu (nI (a + sm (fun f => 8 + 4 * L f) f)) (nI f) τ = some (nI (a + sm (fun f => 8 + 4 * L f) F + sm (rsz n rs) 5)) := by
  intro k
  induction k with
  | zero =>
    intro f fu a hf hfu
    obtain ⟨fu, rfl⟩ : ∃ f, fu = f + 1 := ⟨fu - 1, by omega⟩
    have : f = F := by omega
    subst this
    rw [b_X5_held_9, p_gI, h7, if_pos (nI_le (Nat.le_refl _) (by omega))]
    have := p_h39 h1 h2 5 0 600 (a + sm (fun f => 8 + 4 * L f) f) (by omega) (by omega)
    exact this
  | succ k ih =>
    intro f fu a hf hfu
    obtain ⟨fu, rfl⟩ : ∃ f, fu = f + 1 := ⟨fu - 1, by omega⟩
    rw [b_X5_held_9, p_gI, h7, if_neg (nI_ge (by omega) (by omega)), if_pos (p_in (n := 520) (by omega) (by decide)), p_gA (by omega), h6 f (by omega), nI_1]
    have e : nI (a + sm (fun f => 8 + 4 * L f) f) + (8 + 4 * nI (L f)) = nI (a + sm (fun f => 8 + 4 * L f) (f + 1)) := by
      rw [show (8 : Int32) = nI 8 from rfl, show (4 : Int32) = nI 4 from rfl, pk_mul, nI_add, nI_add, sm, Nat.add_assoc]
    rw [e]
    exact ih (f + 1) fu a (by omega) (by omega)
theorem p_held (hF : F ≤ 500) (h7 : τ.1 7 = nI F) (h8 : τ.1 8 = nI (be F)) (h6 : ∀ f, f < F → τ.2 6 f = nI (L f)) (h1 : ∀ s, s < 5 → τ.2 1 s = nI (n s)) (h2 : ∀ s, s < 5 → τ.2 2 s = bI (rs s)) : f_X5_held τ = some (nI (hld n F L be rs)) := by
  unfold f_X5_held hld
  rw [p_gI, h8, show (4 : Int32) = nI 4 from rfl, pk_mul]
  exact p_h9 hF h7 h6 h1 h2 F 0 600 (4 * be F) (by omega) (by omega)
theorem nI_inj {a b : Nat} (ha : a < 2 ^ 31) (hb : b < 2 ^ 31) : nI a = nI b ↔ a = b := nI_eq ha hb
theorem p_ia (hF : F ≤ 500) (h7 : τ.1 7 = nI F) (h4 : ∀ f, f < F → sg f < 5 ∧ τ.2 4 f = nI (sg f)) {s : Nat} (hs : s < 5) : ∀ (k f fu : Nat), f + k = F → k < fu → b_X5_isActive_4 fu (nI s) (if 0 < cnt sg s f then 1 else 0) (nI f) τ = some (if 0 < cnt sg s F then 1 else 0) := by
  intro k
  induction k with
  | zero =>
    intro f fu hf hfu
    obtain ⟨fu, rfl⟩ : ∃ f, fu = f + 1 := ⟨fu - 1, by omega⟩
    have : f = F := by omega
    subst this
    rw [b_X5_isActive_4, p_gI, h7, if_pos (nI_le (Nat.le_refl _) (by omega))]
    split <;> rfl
  | succ k ih =>
    intro f fu hf hfu
    obtain ⟨fu, rfl⟩ : ∃ f, fu = f + 1 := ⟨fu - 1, by omega⟩
    have ih1 := ih (f + 1) fu (by omega) (by omega)
    rw [cnt] at ih1
    rw [b_X5_isActive_4, p_gI, h7, if_neg (nI_ge (by omega) (by omega)), nI_1]
    by_cases hc : 0 < cnt sg s f
    · rw [if_pos hc, if_neg i10]
      rw [if_pos (by omega)] at ih1
      exact ih1
    · rw [if_neg hc, if_pos rfl, if_pos (p_in (n := 520) (by omega) (by decide)), p_gA (by omega), (h4 f (by omega)).2]
      by_cases he : sg f = s
      · rw [if_pos (by rw [he])]
        rw [if_pos he, if_pos (by omega)] at ih1
        exact ih1
      · rw [if_neg (fun q => he ((nI_inj (by have := (h4 f (by omega)).1; omega) (by omega)).mp q))]
        rw [if_neg he, if_neg (by omega)] at ih1
        exact ih1
theorem p_act (hF : F ≤ 500) (h7 : τ.1 7 = nI F) (h4 : ∀ f, f < F → sg f < 5 ∧ τ.2 4 f = nI (sg f)) {s : Nat} (hs : s < 5) : f_X5_isActive (nI s) τ = some (if 0 < cnt sg s F then 1 else 0) := by
  unfold f_X5_isActive
  exact p_ia hF h7 h4 hs F 0 600 (by omega) (by omega)
end Hl
/-! the relation of a run -/
def FrR (F : Nat) (sg L be : Nat → Nat) (σ τ : St) : Prop :=
  σ.1 9 = nI F ∧ τ.1 7 = nI F ∧ σ.1 10 = nI (be F + sm L F) ∧ τ.1 8 = nI (be F) ∧
  (∀ f, f < F → sg f < 5 ∧ L f ≤ 6 ∧ be f ≤ be (f + 1) ∧ σ.2 5 f = nI (sg f) ∧ τ.2 4 f = nI (sg f) ∧ True ∧ σ.2 7 f = nI (L f) ∧ τ.2 6 f = nI (L f) ∧ σ.2 8 f = nI (be f + sm L f) ∧ τ.2 8 f = nI (be f)) ∧
  (∀ f k, f < F → k < L f → σ.2 9 (be f + sm L f + k) = τ.2 7 (6 * f + k)) ∧
  (∀ f j, f < F → be f ≤ j → j < be (f + 1) → σ.2 9 (j + sm L (f + 1)) = τ.2 9 j)
/-- where the frames are -/
def PlR (F : Nat) (σ τ : St) : Prop := ∀ f, f < F → σ.2 6 f = τ.2 5 f
def MeR (n : Nat → Nat) (F : Nat) (sg L be : Nat → Nat) (rs : Nat → Bool) (lim : Nat) (σ τ : St) : Prop :=
  (∀ s, s < 5 → τ.2 2 s = bI (rs s) ∧ σ.2 2 s = nI (rsz n rs s) ∧ (rs s = true → 0 < n s) ∧ σ.2 3 s = nI (cnt sg s F)) ∧
  σ.1 5 = nI (hld n F L be rs) ∧ hld n F L be rs ≤ lim ∧ lim ≤ 4000 ∧ σ.1 4 = nI lim ∧ τ.1 2 = nI lim
def OtR (σ τ : St) : Prop := σ.1 6 = τ.1 4 ∧ σ.1 7 = τ.1 5 ∧ σ.1 8 = τ.1 6 ∧ σ.1 1 = τ.1 9 ∧ ∃ P, P ≤ 40 ∧ σ.1 0 = nI P ∧ τ.1 10 = nI P ∧ ∀ i, i < P → σ.2 1 i = τ.2 10 i
def TmR (σ τ : St) : Prop := σ.1 3 = τ.1 3 ∧ ∀ s, s < 5 → σ.2 4 s = τ.2 3 s
/-- the latest calls of all but one -/
def TmX (x : Int32) (σ τ : St) : Prop := ∀ s, s < 5 → ¬ nI s = x → σ.2 4 s = τ.2 3 s
theorem TmR.x {σ τ : St} (h : TmR σ τ) (x : Int32) : TmX x σ τ := fun s hs _ => h.2 s hs
theorem p_bnd {n : Nat → Nat} {F lim : Nat} {L be : Nat → Nat} {rs : Nat → Bool} (h : hld n F L be rs ≤ lim) (hl : lim ≤ 4000) : 8 * F + 4 * (be F + sm L F) ≤ 4000 := by
  unfold hld at h
  rw [sm_84] at h
  omega
/-- nothing else has changed -/
def Off (ks as : List Nat) (σ σ1 : St) : Prop := (∀ k, k ∉ ks → σ1.1 k = σ.1 k) ∧ ∀ a, a ∉ as → σ1.2 a = σ.2 a
theorem Off.rf {ks as : List Nat} {σ : St} : Off ks as σ σ := ⟨fun _ _ => rfl, fun _ _ => rfl⟩
theorem Off.tr {ks as : List Nat} {σ σ1 σ2 : St} (h : Off ks as σ σ1) (h2 : Off ks as σ1 σ2) : Off ks as σ σ2 := ⟨fun k hk => (h2.1 k hk).trans (h.1 k hk), fun a ha => (h2.2 a ha).trans (h.2 a ha)⟩
theorem off_sI {ks as : List Nat} {σ σ1 : St} {k : Nat} {v : Int32} (h : Off ks as σ σ1) (hk : k ∈ ks) : Off ks as σ (sI σ1 k v) := ⟨fun j hj => by
  have e : ¬ j = k := fun e => hj (by rw [e]; exact hk)
  rw [p_sI1, if_neg e]
  exact h.1 j hj, h.2⟩
theorem off_sA {ks as : List Nat} {σ σ1 : St} {a : Nat} {i v : Int32} (h : Off ks as σ σ1) (ha : a ∈ as) : Off ks as σ (sA σ1 a i v) := ⟨h.1, fun b hb => by
  have e : ¬ b = a := fun e => hb (by rw [e]; exact ha)
  have e2 : (sA σ1 a i v).2 b = σ1.2 b := by
    unfold sA
    simp only [if_neg e]
  rw [e2]
  exact h.2 b hb⟩
theorem off_mono {ks as ks2 as2 : List Nat} {σ σ1 : St} (h : Off ks as σ σ1) (h1 : ∀ k ∈ ks, k ∈ ks2) (h2 : ∀ a ∈ as, a ∈ as2) : Off ks2 as2 σ σ1 := ⟨fun k hk => h.1 k (fun q => hk (h1 k q)), fun a ha => h.2 a (fun q => ha (h2 a q))⟩
theorem sm_upd {f g : Nat → Nat} {j : Nat} : ∀ k, j < k → (∀ i, i ≠ j → f i = g i) → sm f k + g j = sm g k + f j
  | 0, h, _ => by omega
  | k + 1, h, he => by
    by_cases hj : j = k
    · subst hj
      rw [sm, sm, sm_congr j (fun i hi => he i (by omega))]
      omega
    · have h1 := sm_upd k (by omega) he
      have h2 := he k (by omega)
      rw [sm, sm]
      omega
