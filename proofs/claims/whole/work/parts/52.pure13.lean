/-! an operation at a time -/
def dI (x1 x3 x5 : Int32) (σ : St) : Option (Int32 × St) :=
        (f_X0_byteAt x1 (x3 + 1) σ).bind fun u12 =>
        if inB x5 13 = true then
          if x5 = 0 then
            some (0, sI σ 2 2)
          else
          if x5 = 1 then
            (f_X3_pushAndMove u12 (x3 + (tLen x5.toNatClampNeg)) σ).bind fun u17 =>
            some (0, u17.2)
          else
          if x5 = 2 then
            (f_X3_getLocal u12 (x3 + (tLen x5.toNatClampNeg)) σ).bind fun u20 =>
            some (0, u20.2)
          else
          if x5 = 3 then
            (f_X3_setLocal u12 (x3 + (tLen x5.toNatClampNeg)) σ).bind fun u23 =>
            some (0, u23.2)
          else
          if x5 = 8 then
            (f_X3_take σ).bind fun u26 =>
            if u26.1 = 0 then
              (f_X1_moveTo ((x3 + (tLen x5.toNatClampNeg)) + u12) u26.2).bind fun u31 =>
              some (0, u31.2)
            else
              (f_X1_moveTo (x3 + (tLen x5.toNatClampNeg)) u26.2).bind fun u29 =>
              some (0, u29.2)
          else
          if x5 = 9 then
            (f_X1_moveTo ((x3 + (tLen x5.toNatClampNeg)) + u12) σ).bind fun u34 =>
            some (0, u34.2)
          else
          if x5 = 10 then
            (f_X0_byteAt x1 (x3 + 2) σ).bind fun u37 =>
            (f_X3_callFrom (x3 + (tLen x5.toNatClampNeg)) u12 u37 σ).bind fun u39 =>
            some (0, u39.2)
          else
          if x5 = 11 then
            (f_X3_giveBack σ).bind fun u42 =>
            some (0, u42.2)
          else
          if x5 = 12 then
            (f_X3_putOut (x3 + (tLen x5.toNatClampNeg)) σ).bind fun u45 =>
            some (0, u45.2)
          else
          (f_X3_calculate x5 (x3 + (tLen x5.toNatClampNeg)) σ).bind fun u47 =>
          some (0, u47.2)
        else none
def lenN (o : Nat) : Nat := ([1, 2, 2, 2, 1, 1, 1, 1, 2, 2, 3, 1, 1] : List Nat).getD o 0
def takN (o : Nat) : Nat := ([0, 0, 0, 1, 2, 2, 2, 2, 1, 0, 1, 1, 1] : List Nat).getD o 0
theorem lenN_e : ∀ o, o < 13 → tLen o = nI (lenN o) ∧ tTak o = nI (takN o) ∧ 1 ≤ lenN o ∧ lenN o ≤ 3 ∧ takN o ≤ 2 := by decide
theorem o13 {o : Nat} (h : o < 13) : o = 0 ∨ o = 1 ∨ o = 2 ∨ o = 3 ∨ o = 4 ∨ o = 5 ∨ o = 6 ∨ o = 7 ∨ o = 8 ∨ o = 9 ∨ o = 10 ∨ o = 11 ∨ o = 12 := by omega
theorem sz_o {o : Nat} (h : o < 13) (τ : St) : f_X5_size (nI o) τ = some (nI (lenN o)) := by
  rcases o13 h with rfl | rfl | rfl | rfl | rfl | rfl | rfl | rfl | rfl | rfl | rfl | rfl | rfl <;> simp (decide := true) only [f_X5_size, if_true, if_false]
theorem tk_o {o : Nat} (h : o < 13) (τ : St) : f_X5_takes (nI o) τ = some (nI (takN o)) := by
  rcases o13 h with rfl | rfl | rfl | rfl | rfl | rfl | rfl | rfl | rfl | rfl | rfl | rfl | rfl <;> simp (decide := true) only [f_X5_takes, if_true, if_false]
section Ob
variable {x1 x3 : Int32} {σ : St}
theorem d_m0 : dI x1 x3 0 σ = (f_X0_byteAt x1 (x3 + 1) σ).bind fun u12 => some (0, sI σ 2 2) := by
  have e : tLen (0 : Int32).toNatClampNeg = 1 := by decide
  simp (decide := true) only [dI, e, if_true, if_false]
theorem d_m1 : dI x1 x3 1 σ = (f_X0_byteAt x1 (x3 + 1) σ).bind fun u12 => (f_X3_pushAndMove u12 (x3 + 2) σ).bind fun u17 => some (0, u17.2) := by
  have e : tLen (1 : Int32).toNatClampNeg = 2 := by decide
  simp (decide := true) only [dI, e, if_true, if_false]
theorem d_m2 : dI x1 x3 2 σ = (f_X0_byteAt x1 (x3 + 1) σ).bind fun u12 => (f_X3_getLocal u12 (x3 + 2) σ).bind fun u17 => some (0, u17.2) := by
  have e : tLen (2 : Int32).toNatClampNeg = 2 := by decide
  simp (decide := true) only [dI, e, if_true, if_false]
theorem d_m3 : dI x1 x3 3 σ = (f_X0_byteAt x1 (x3 + 1) σ).bind fun u12 => (f_X3_setLocal u12 (x3 + 2) σ).bind fun u17 => some (0, u17.2) := by
  have e : tLen (3 : Int32).toNatClampNeg = 2 := by decide
  simp (decide := true) only [dI, e, if_true, if_false]
theorem d_m4 : dI x1 x3 4 σ = (f_X0_byteAt x1 (x3 + 1) σ).bind fun u12 => (f_X3_calculate 4 (x3 + 1) σ).bind fun u47 => some (0, u47.2) := by
  have e : tLen (4 : Int32).toNatClampNeg = 1 := by decide
  simp (decide := true) only [dI, e, if_true, if_false]
theorem d_m5 : dI x1 x3 5 σ = (f_X0_byteAt x1 (x3 + 1) σ).bind fun u12 => (f_X3_calculate 5 (x3 + 1) σ).bind fun u47 => some (0, u47.2) := by
  have e : tLen (5 : Int32).toNatClampNeg = 1 := by decide
  simp (decide := true) only [dI, e, if_true, if_false]
theorem d_m6 : dI x1 x3 6 σ = (f_X0_byteAt x1 (x3 + 1) σ).bind fun u12 => (f_X3_calculate 6 (x3 + 1) σ).bind fun u47 => some (0, u47.2) := by
  have e : tLen (6 : Int32).toNatClampNeg = 1 := by decide
  simp (decide := true) only [dI, e, if_true, if_false]
theorem d_m7 : dI x1 x3 7 σ = (f_X0_byteAt x1 (x3 + 1) σ).bind fun u12 => (f_X3_calculate 7 (x3 + 1) σ).bind fun u47 => some (0, u47.2) := by
  have e : tLen (7 : Int32).toNatClampNeg = 1 := by decide
  simp (decide := true) only [dI, e, if_true, if_false]
theorem d_m8 : dI x1 x3 8 σ = (f_X0_byteAt x1 (x3 + 1) σ).bind fun u12 => (f_X3_take σ).bind fun u26 => if u26.1 = 0 then (f_X1_moveTo ((x3 + 2) + u12) u26.2).bind fun u31 => some (0, u31.2) else (f_X1_moveTo (x3 + 2) u26.2).bind fun u29 => some (0, u29.2) := by
  have e : tLen (8 : Int32).toNatClampNeg = 2 := by decide
  simp (decide := true) only [dI, e, if_true, if_false]
theorem d_m9 : dI x1 x3 9 σ = (f_X0_byteAt x1 (x3 + 1) σ).bind fun u12 => (f_X1_moveTo ((x3 + 2) + u12) σ).bind fun u34 => some (0, u34.2) := by
  have e : tLen (9 : Int32).toNatClampNeg = 2 := by decide
  simp (decide := true) only [dI, e, if_true, if_false]
theorem d_m10 : dI x1 x3 10 σ = (f_X0_byteAt x1 (x3 + 1) σ).bind fun u12 => (f_X0_byteAt x1 (x3 + 2) σ).bind fun u37 => (f_X3_callFrom (x3 + 3) u12 u37 σ).bind fun u39 => some (0, u39.2) := by
  have e : tLen (10 : Int32).toNatClampNeg = 3 := by decide
  simp (decide := true) only [dI, e, if_true, if_false]
theorem d_m11 : dI x1 x3 11 σ = (f_X0_byteAt x1 (x3 + 1) σ).bind fun u12 => (f_X3_giveBack σ).bind fun u42 => some (0, u42.2) := by
  have e : tLen (11 : Int32).toNatClampNeg = 1 := by decide
  simp (decide := true) only [dI, e, if_true, if_false]
theorem d_m12 : dI x1 x3 12 σ = (f_X0_byteAt x1 (x3 + 1) σ).bind fun u12 => (f_X3_putOut (x3 + 1) σ).bind fun u45 => some (0, u45.2) := by
  have e : tLen (12 : Int32).toNatClampNeg = 1 := by decide
  simp (decide := true) only [dI, e, if_true, if_false]
end Ob
