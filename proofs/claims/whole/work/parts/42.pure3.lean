/-! which segment gives way; room -/
theorem i_m1 : ∀ g, g < 5 → ¬ nI g = (-1) := by decide
theorem i_m1l : (-1 : Int32) < 0 := by decide
def cand (F : Nat) (sg : Nat → Nat) (rs : Nat → Bool) (x : Int32) (r : Int32) : Prop := r = -1 ∨ ∃ g, g < 5 ∧ r = nI g ∧ rs g = true ∧ cnt sg g F = 0 ∧ ¬ nI g = x
section Ev
variable {n : Nat → Nat} {F lim : Nat} {sg L be : Nat → Nat}
theorem p_ll {rs : Nat → Bool} {σ τ : St} (hn : ∀ s, s < 5 → n s ≤ 80) (hF : F ≤ 500) (h7 : τ.1 7 = nI F) (h4 : ∀ f, f < F → sg f < 5 ∧ τ.2 4 f = nI (sg f)) (hM : ∀ s, s < 5 → τ.2 2 s = bI (rs s) ∧ σ.2 2 s = nI (rsz n rs s) ∧ (rs s = true → 0 < n s) ∧ σ.2 3 s = nI (cnt sg s F)) (x : Int32) (hT : TmX x σ τ) :
    ∀ (k s f1 f2 : Nat) (fd : Int32), s + k = 5 → k < f1 → k < f2 → cand F sg rs x fd → ∃ r, cand F sg rs x r ∧ b_X2_leastLatelyCalled_4 f1 x fd (nI s) σ = some r ∧ (∀ kk y1, b_X5_room_18 kk f2 y1 x fd (nI s) τ = kk y1 x r τ) ∧ (r = -1 → fd = -1 ∧ ∀ g, s ≤ g → g < 5 → rs g = true → cnt sg g F = 0 → nI g = x) := by
  intro k
  induction k with
  | zero =>
    intro s f1 f2 fd hs hf1 hf2 hfd
    obtain ⟨f1, rfl⟩ : ∃ f, f1 = f + 1 := ⟨f1 - 1, by omega⟩
    obtain ⟨f2, rfl⟩ : ∃ f, f2 = f + 1 := ⟨f2 - 1, by omega⟩
    have : s = 5 := by omega
    subst this
    exact ⟨fd, hfd, by rw [b_X2_leastLatelyCalled_4, if_pos (by decide)], fun kk y1 => by rw [b_X5_room_18, if_pos (by decide)], fun h => ⟨h, fun g h1 h2 => by omega⟩⟩
  | succ k ih =>
    intro s f1 f2 fd hs hf1 hf2 hfd
    obtain ⟨f1, rfl⟩ : ∃ f, f1 = f + 1 := ⟨f1 - 1, by omega⟩
    obtain ⟨f2, rfl⟩ : ∃ f, f2 = f + 1 := ⟨f2 - 1, by omega⟩
    have hs5 : s < 5 := by omega
    obtain ⟨m1, m2, m3, m4⟩ := hM s hs5
    have ihs := fun fd => ih (s + 1) f1 f2 fd (by omega) (by omega) (by omega)
    have skip : (rs s = true → cnt sg s F = 0 → nI s = x) → (b_X2_leastLatelyCalled_4 (f1 + 1) x fd (nI s) σ = b_X2_leastLatelyCalled_4 f1 x fd (nI (s + 1)) σ) → (∀ kk y1, b_X5_room_18 kk (f2 + 1) y1 x fd (nI s) τ = b_X5_room_18 kk f2 y1 x fd (nI (s + 1)) τ) → ∃ r, cand F sg rs x r ∧ b_X2_leastLatelyCalled_4 (f1 + 1) x fd (nI s) σ = some r ∧ (∀ kk y1, b_X5_room_18 kk (f2 + 1) y1 x fd (nI s) τ = kk y1 x r τ) ∧ (r = -1 → fd = -1 ∧ ∀ g, s ≤ g → g < 5 → rs g = true → cnt sg g F = 0 → nI g = x) := by
      intro hno e1 e2
      obtain ⟨r, r1, r2, r3, r4⟩ := ihs fd hfd
      refine ⟨r, r1, e1.trans r2, fun kk y1 => (e2 kk y1).trans (r3 kk y1), fun h => ⟨(r4 h).1, fun g h1 h2 h3 h4 => ?_⟩⟩
      by_cases hg : g = s
      · subst hg; exact hno h3 h4
      · exact (r4 h).2 g (by omega) h2 h3 h4
    have take : (fd = -1 ∨ True) → ∀ fd1, cand F sg rs x fd1 → (fd1 = -1 → False) → (b_X2_leastLatelyCalled_4 (f1 + 1) x fd (nI s) σ = b_X2_leastLatelyCalled_4 f1 x fd1 (nI (s + 1)) σ) → (∀ kk y1, b_X5_room_18 kk (f2 + 1) y1 x fd (nI s) τ = b_X5_room_18 kk f2 y1 x fd1 (nI (s + 1)) τ) → ∃ r, cand F sg rs x r ∧ b_X2_leastLatelyCalled_4 (f1 + 1) x fd (nI s) σ = some r ∧ (∀ kk y1, b_X5_room_18 kk (f2 + 1) y1 x fd (nI s) τ = kk y1 x r τ) ∧ (r = -1 → fd = -1 ∧ ∀ g, s ≤ g → g < 5 → rs g = true → cnt sg g F = 0 → nI g = x) := by
      intro _ fd1 hc hne e1 e2
      obtain ⟨r, r1, r2, r3, r4⟩ := ihs fd1 hc
      exact ⟨r, r1, e1.trans r2, fun kk y1 => (e2 kk y1).trans (r3 kk y1), fun h => absurd (r4 h).1 hne⟩
    by_cases hr : rs s = true
    · have eb : bI (rs s) = 1 := by rw [hr]; rfl
      have ez : rsz n rs s = n s := by unfold rsz; rw [if_pos hr]
      have hpos := m3 hr
      have hn80 := hn s hs5
      have c2 : ¬ nI (n s) ≤ 0 := nI_nle hpos (by omega)
      by_cases hx : nI s = x
      · refine skip (fun _ _ => hx) ?_ (fun kk y1 => ?_)
        · rw [b_X2_leastLatelyCalled_4, if_neg (p_s5 hs5).2.1, if_pos hx, nI_1]
        · rw [b_X5_room_18, if_neg (p_s5 hs5).2.1, if_pos (p_s5 hs5).2.2, p_gA (by omega), m1, eb, if_neg i10, if_pos hx, nI_1]
      · have hact := p_act hF h7 h4 hs5
        by_cases hc : cnt sg s F = 0
        · have ha0 : f_X5_isActive (nI s) τ = some 0 := by rw [hact, if_neg (by omega)]
          have ec : (nI (cnt sg s F) : Int32) = 0 := by rw [hc]; rfl
          have hcs : cand F sg rs x (nI s) := Or.inr ⟨s, hs5, rfl, hr, hc, hx⟩
          rcases hfd with hfd1 | ⟨g, g5, hfd1, gr, gc, gx⟩
          · subst hfd1
            refine take (Or.inl rfl) (nI s) hcs (fun q => i_m1 s hs5 q) ?_ (fun kk y1 => ?_)
            · rw [b_X2_leastLatelyCalled_4, if_neg (p_s5 hs5).2.1, if_neg hx, if_pos (p_s5 hs5).2.2, p_gA (by omega), m2, ez, if_neg c2, if_pos (p_s5 hs5).2.2, p_gA (by omega), m4, if_pos ec, if_pos rfl, nI_1]
            · rw [b_X5_room_18, if_neg (p_s5 hs5).2.1, if_pos (p_s5 hs5).2.2, p_gA (by omega), m1, eb, if_neg i10, if_neg hx, ha0, Option.bind_some, if_pos rfl, if_pos i_m1l, nI_1]
          · subst hfd1
            have g1 : ¬ nI g = (-1) := i_m1 g g5
            have g2 : ¬ nI g < 0 := (p_s5 g5).1
            have eC : b_X2_leastLatelyCalled_4 (f1 + 1) x (nI g) (nI s) σ = if σ.2 4 g ≤ σ.2 4 s then b_X2_leastLatelyCalled_4 f1 x (nI g) (nI (s + 1)) σ else b_X2_leastLatelyCalled_4 f1 x (nI s) (nI (s + 1)) σ := by
              rw [b_X2_leastLatelyCalled_4, if_neg (p_s5 hs5).2.1, if_neg hx, if_pos (p_s5 hs5).2.2, p_gA (by omega), m2, ez, if_neg c2, if_pos (p_s5 hs5).2.2, p_gA (by omega), m4, if_pos ec, if_neg g1, if_pos (p_s5 hs5).2.2, if_pos (p_s5 g5).2.2, p_gA (by omega), p_gA (by omega), nI_1]
            have eM : ∀ kk y1, b_X5_room_18 kk (f2 + 1) y1 x (nI g) (nI s) τ = if σ.2 4 g ≤ σ.2 4 s then b_X5_room_18 kk f2 y1 x (nI g) (nI (s + 1)) τ else b_X5_room_18 kk f2 y1 x (nI s) (nI (s + 1)) τ := fun kk y1 => by
              rw [b_X5_room_18, if_neg (p_s5 hs5).2.1, if_pos (p_s5 hs5).2.2, p_gA (by omega), m1, eb, if_neg i10, if_neg hx, ha0, Option.bind_some, if_pos rfl, if_neg g2, if_pos (p_s5 hs5).2.2, if_pos (p_s5 g5).2.2, p_gA (by omega), p_gA (by omega), ← hT g g5 gx, ← hT s hs5 hx, nI_1]
            by_cases hle : σ.2 4 g ≤ σ.2 4 s
            · refine take (Or.inr trivial) (nI g) (Or.inr ⟨g, g5, rfl, gr, gc, gx⟩) g1 ?_ (fun kk y1 => ?_)
              · rw [eC, if_pos hle]
              · rw [eM, if_pos hle]
            · refine take (Or.inr trivial) (nI s) hcs (i_m1 s hs5) ?_ (fun kk y1 => ?_)
              · rw [eC, if_neg hle]
              · rw [eM, if_neg hle]
        · have ha1 : f_X5_isActive (nI s) τ = some 1 := by rw [hact, if_pos (by omega)]
          have hcl := cnt_le sg s F
          have ec : ¬ (nI (cnt sg s F) : Int32) = 0 := nI_ne0 (by omega) (by omega)
          refine skip (fun _ q => absurd q hc) ?_ (fun kk y1 => ?_)
          · rw [b_X2_leastLatelyCalled_4, if_neg (p_s5 hs5).2.1, if_neg hx, if_pos (p_s5 hs5).2.2, p_gA (by omega), m2, ez, if_neg c2, if_pos (p_s5 hs5).2.2, p_gA (by omega), m4, if_neg ec, nI_1]
          · rw [b_X5_room_18, if_neg (p_s5 hs5).2.1, if_pos (p_s5 hs5).2.2, p_gA (by omega), m1, eb, if_neg i10, if_neg hx, ha1, Option.bind_some, if_neg i10, nI_1]
    · have hr' : rs s = false := by simpa using hr
      have eb : bI (rs s) = 0 := by rw [hr']; rfl
      have ez : rsz n rs s = 0 := by unfold rsz; rw [hr']; rfl
      refine skip (fun q => absurd q hr) ?_ (fun kk y1 => ?_)
      · by_cases hx : nI s = x
        · rw [b_X2_leastLatelyCalled_4, if_neg (p_s5 hs5).2.1, if_pos hx, nI_1]
        · rw [b_X2_leastLatelyCalled_4, if_neg (p_s5 hs5).2.1, if_neg hx, if_pos (p_s5 hs5).2.2, p_gA (by omega), m2, ez, if_pos (by decide), nI_1]
      · rw [b_X5_room_18, if_neg (p_s5 hs5).2.1, if_pos (p_s5 hs5).2.2, p_gA (by omega), m1, eb, if_pos rfl, nI_1]
/-- how many are resident -/
def nres (rs : Nat → Bool) : Nat := sm (fun s => if rs s then 1 else 0) 5
def rsx (rs : Nat → Bool) (g : Nat) (s : Nat) : Bool := if s = g then false else rs s
theorem nres_x {rs : Nat → Bool} {g : Nat} (hg : g < 5) (hr : rs g = true) : nres (rsx rs g) + 1 = nres rs := by
  have h := sm_upd (f := fun s => if rsx rs g s then 1 else 0) (g := fun s => if rs s then 1 else 0) (j := g) 5 hg (fun i hi => by simp only [rsx, if_neg hi])
  simp only [hr, rsx, if_true, if_pos rfl] at h
  unfold nres
  simp at h
  simp only [rsx]
  simp
  omega
theorem hld_x {rs : Nat → Bool} {g : Nat} (hg : g < 5) (hr : rs g = true) : hld n F L be (rsx rs g) + n g = hld n F L be rs := by
  have h := sm_upd (f := rsz n (rsx rs g)) (g := rsz n rs) (j := g) 5 hg (fun i hi => by simp only [rsz, rsx, if_neg hi])
  have e1 : rsz n rs g = n g := by unfold rsz; rw [if_pos hr]
  have e2 : rsz n (rsx rs g) g = 0 := by simp [rsz, rsx]
  rw [e1, e2] at h
  unfold hld
  omega
end Ev
