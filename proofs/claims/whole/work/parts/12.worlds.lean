/-! the two worlds: the cells by their addresses q, the numbers and rows by σ -/
def wC (ty : Nat → ClassId) (q : Nat → Nat) (σ : St) : va_W := [
  (q 0, .inr (4, [.ref (q 1), .ref (q 2)])),
  (q 1, .inr (0, [.ref (q 5), .ref (q 6)])),
  (q 2, .inr (3, [.ref (q 1), .ref (q 3), .ref (q 4), .ref (q 7), .int (σ.1 0), .int (σ.1 1), .int (σ.1 2)])),
  (q 3, .inr (2, [.ref (q 8), .ref (q 9), .ref (q 10), .int (σ.1 3), .int (σ.1 4), .int (σ.1 5), .int (σ.1 6), .int (σ.1 7), .int (σ.1 8)])),
  (q 4, .inr (1, [.ref (q 11), .ref (q 12), .ref (q 13), .ref (q 14), .ref (q 15), .int (σ.1 9), .int (σ.1 10)])),
  (q 5, .inl (ty 2, 5, .inr (.inr (.inr (.inr (fun i => if i < 5 then some (q (16 + i)) else none)))))),
  (q 6, .inl (ty 0, 5, .inl (σ.2 0))),
  (q 7, .inl (ty 0, 40, .inl (σ.2 1))),
  (q 8, .inl (ty 0, 5, .inl (σ.2 2))),
  (q 9, .inl (ty 0, 5, .inl (σ.2 3))),
  (q 10, .inl (ty 0, 5, .inl (σ.2 4))),
  (q 11, .inl (ty 0, 500, .inl (σ.2 5))),
  (q 12, .inl (ty 0, 500, .inl (σ.2 6))),
  (q 13, .inl (ty 0, 500, .inl (σ.2 7))),
  (q 14, .inl (ty 0, 500, .inl (σ.2 8))),
  (q 15, .inl (ty 0, 1000, .inl (σ.2 9))),
  (q 16, .inl (ty 1, 80, .inl (σ.2 10))),
  (q 17, .inl (ty 1, 80, .inl (σ.2 11))),
  (q 18, .inl (ty 1, 80, .inl (σ.2 12))),
  (q 19, .inl (ty 1, 80, .inl (σ.2 13))),
  (q 20, .inl (ty 1, 80, .inl (σ.2 14)))]
def wM (ty : Nat → ClassId) (q : Nat → Nat) (σ : St) : va_W := [
  (q 0, .inr (5, [.int (σ.1 0), .ref (q 1), .ref (q 2), .int (σ.1 1), .int (σ.1 2), .ref (q 3), .ref (q 4), .int (σ.1 3), .int (σ.1 4), .int (σ.1 5), .int (σ.1 6), .int (σ.1 7), .ref (q 5), .ref (q 6), .ref (q 7), .ref (q 8), .ref (q 9), .int (σ.1 8), .ref (q 10), .int (σ.1 9), .int (σ.1 10), .ref (q 11)])),
  (q 1, .inl (ty 0, 400, .inl (σ.2 0))),
  (q 2, .inl (ty 0, 5, .inl (σ.2 1))),
  (q 3, .inl (ty 3, 5, .inl (σ.2 2))),
  (q 4, .inl (ty 0, 5, .inl (σ.2 3))),
  (q 5, .inl (ty 0, 520, .inl (σ.2 4))),
  (q 6, .inl (ty 0, 520, .inl (σ.2 5))),
  (q 7, .inl (ty 0, 520, .inl (σ.2 6))),
  (q 8, .inl (ty 0, 3120, .inl (σ.2 7))),
  (q 9, .inl (ty 0, 520, .inl (σ.2 8))),
  (q 10, .inl (ty 0, 1010, .inl (σ.2 9))),
  (q 11, .inl (ty 0, 40, .inl (σ.2 10)))]
def tLen (j : Nat) : Int32 := ([1, 2, 2, 2, 1, 1, 1, 1, 2, 2, 3, 1, 1] : List Int32).getD j 0
def tTak (j : Nat) : Int32 := ([0, 0, 0, 1, 2, 2, 2, 2, 1, 0, 1, 1, 1] : List Int32).getD j 0
def FxC (q : Nat → Nat) (A : Nat → Prop) (U : State) (H : Heap) : Prop := va_Z RX3 "LENGTHS" "[I" (.ref (q 21)) A U H ∧ va_T .int (q 21) 13 (fun j => .int (tLen j)) A U H ∧ va_Z RX3 "TAKES" "[I" (.ref (q 22)) A U H ∧ va_T .int (q 22) 13 (fun j => .int (tTak j)) A U H ∧ va_Nw (.methodLinkNest RX0 24 yX4_isSegment RX4) U ∧ va_Nw (.methodLinkNest RX2 40 yX4_isSegment RX4) U
theorem fxC (q : Nat → Nat) : FxOk (FxC q) := by
  intro A B u U H H1 hW h hq hAB
  obtain ⟨h1, h2, h3, h4, h5, h6⟩ := h
  exact ⟨((h1.moved hW.alike).kept hq).narrow hAB, ((h2.moved hW.alike).kept hq).narrow hAB, ((h3.moved hW.alike).kept hq).narrow hAB, ((h4.moved hW.alike).kept hq).narrow hAB, h5.warmM hW, h6.warmM hW⟩
def FxM (_ : Nat → Prop) (_ : State) (_ : Heap) : Prop := True
theorem fxM : FxOk FxM := fun _ _ _ _ _ _ _ _ _ _ => trivial
theorem utX0 : ∀ w ∈ u_ws RX0 TX0 2, w ∈ tb := fun w h => by
  have h1 : ∀ w ∈ u_ws RX0 TX0 2, w ∈ lw_tbl ∧ goodWord w = true := by decide +kernel
  exact tb_in (h1 w h).1 (h1 w h).2
theorem utX1 : ∀ w ∈ u_ws RX1 TX1 7, w ∈ tb := fun w h => by
  have h1 : ∀ w ∈ u_ws RX1 TX1 7, w ∈ lw_tbl ∧ goodWord w = true := by decide +kernel
  exact tb_in (h1 w h).1 (h1 w h).2
theorem utX2 : ∀ w ∈ u_ws RX2 TX2 9, w ∈ tb := fun w h => by
  have h1 : ∀ w ∈ u_ws RX2 TX2 9, w ∈ lw_tbl ∧ goodWord w = true := by decide +kernel
  exact tb_in (h1 w h).1 (h1 w h).2
theorem utX3 : ∀ w ∈ u_ws RX3 TX3 7, w ∈ tb := fun w h => by
  have h1 : ∀ w ∈ u_ws RX3 TX3 7, w ∈ lw_tbl ∧ goodWord w = true := by decide +kernel
  exact tb_in (h1 w h).1 (h1 w h).2
theorem utX4 : ∀ w ∈ u_ws RX4 TX4 2, w ∈ tb := fun w h => by
  have h1 : ∀ w ∈ u_ws RX4 TX4 2, w ∈ lw_tbl ∧ goodWord w = true := by decide +kernel
  exact tb_in (h1 w h).1 (h1 w h).2
theorem utX5 : ∀ w ∈ u_ws RX5 TX5 22, w ∈ tb := fun w h => by
  have h1 : ∀ w ∈ u_ws RX5 TX5 22, w ∈ lw_tbl ∧ goodWord w = true := by decide +kernel
  exact tb_in (h1 w h).1 (h1 w h).2
