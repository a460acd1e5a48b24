/-! the reference's step, an operation at a time -/
section On
variable {x1 x2 x3 : Int32} {τ : St}
theorem p_120 (x5 : Int32) : b_X5_one_120 x1 x2 x3 x5 τ = some (0, sI τ 1 3) := by
  unfold b_X5_one_120 b_X5_one_121
  rw [if_pos rfl]
  unfold b_X5_one_153 b_X5_one_154 b_X5_one_168 b_X5_one_193 b_X5_one_194 b_X5_one_196 b_X5_one_221 b_X5_one_222 b_X5_one_224
  simp only [if_true]
  by_cases c2 : x5 = 2
  · rw [if_pos c2]
    by_cases c12 : x5 = 12
    · rw [if_pos c12]
    · rw [if_neg c12]
  · rw [if_neg c2]
    by_cases c3 : x5 = 3
    · rw [if_pos c3]
      by_cases c12 : x5 = 12
      · rw [if_pos c12]
      · rw [if_neg c12]
    · rw [if_neg c3]
      by_cases c12 : x5 = 12
      · rw [if_pos c12]
      · rw [if_neg c12]
theorem p_m0 (h1 : inB x1 520 = true) : b_X5_one_121 x1 x2 x3 0 1 τ = if (gI τ 7) ≤ x1 then some (0, sI (sA τ 5 x1 (x3 + 1)) 1 2) else some (0, sA (sI (sA τ 5 x1 (x3 + 1)) 1 2) 5 x1 x3) := by
  simp (decide := true) only [b_X5_one_121, b_X5_one_153, b_X5_one_154, b_X5_one_196, b_X5_one_224, b_X5_one_251, b_X5_one_270, f_X5_size, f_X5_takes, Option.bind_some, h1, if_true, if_false]
theorem p_m1 (h1 : inB x1 520 = true) (hk : inB (((80 * x2) + x3) + 1) 400 = true) : b_X5_one_121 x1 x2 x3 1 1 τ = b_X5_one_384 x1 x3 (gA τ 0 (((80 * x2) + x3) + 1)) (sA τ 5 x1 (x3 + 2)) := by
  simp (decide := true) only [b_X5_one_121, b_X5_one_153, b_X5_one_154, b_X5_one_196, b_X5_one_224, b_X5_one_251, b_X5_one_270, f_X5_size, f_X5_takes, Option.bind_some, h1, hk, if_true, if_false]
theorem p_m2 (h1 : inB x1 520 = true) (hk : inB (((80 * x2) + x3) + 1) 400 = true) {K : Int32} (eK : gA τ 0 (((80 * x2) + x3) + 1) = K) : b_X5_one_121 x1 x2 x3 2 1 τ = if K < 0 then some (0, sI τ 1 3) else if (gA τ 6 x1) ≤ K then some (0, sI τ 1 3) else if inB ((6 * x1) + K) 3120 = true then b_X5_one_384 x1 x3 (gA τ 7 ((6 * x1) + K)) (sA τ 5 x1 (x3 + 2)) else none := by
  simp (decide := true) only [b_X5_one_121, b_X5_one_153, b_X5_one_154, b_X5_one_168, b_X5_one_193, b_X5_one_194, b_X5_one_196, b_X5_one_224, b_X5_one_251, b_X5_one_270, f_X5_size, f_X5_takes, Option.bind_some, h1, hk, eK, if_true, if_false, b_X5_one_384]
theorem p_m3 (h1 : inB x1 520 = true) (hk : inB (((80 * x2) + x3) + 1) 400 = true) {K : Int32} (eK : gA τ 0 (((80 * x2) + x3) + 1) = K) : b_X5_one_121 x1 x2 x3 3 1 τ = if K < 0 then some (0, sI τ 1 3) else if (gA τ 6 x1) ≤ K then some (0, sI τ 1 3) else (f_X5_pop τ).bind fun u => if inB ((6 * x1) + K) 3120 = true then if (gI u.2 1) ≤ 1 then some (0, sA (sA u.2 5 x1 (x3 + 2)) 7 ((6 * x1) + K) u.1) else if (gI u.2 7) ≤ x1 then some (0, sA (sA u.2 5 x1 (x3 + 2)) 7 ((6 * x1) + K) u.1) else some (0, sA (sA (sA u.2 5 x1 (x3 + 2)) 7 ((6 * x1) + K) u.1) 5 x1 x3) else none := by
  simp (decide := true) only [b_X5_one_121, b_X5_one_153, b_X5_one_154, b_X5_one_168, b_X5_one_193, b_X5_one_194, b_X5_one_196, b_X5_one_224, b_X5_one_251, b_X5_one_270, f_X5_size, f_X5_takes, Option.bind_some, h1, hk, eK, if_true, if_false]
theorem p_m4 (h1 : inB x1 520 = true) : b_X5_one_121 x1 x2 x3 4 1 τ = (f_X5_pop τ).bind fun u => (f_X5_pop u.2).bind fun w => b_X5_one_567 x1 x3 (w.1 + u.1) (sA w.2 5 x1 (x3 + 1)) := by
  simp (decide := true) only [b_X5_one_121, b_X5_one_153, b_X5_one_154, b_X5_one_196, b_X5_one_224, b_X5_one_251, b_X5_one_270, f_X5_size, f_X5_takes, Option.bind_some, h1, if_true, if_false]
theorem p_m5 (h1 : inB x1 520 = true) : b_X5_one_121 x1 x2 x3 5 1 τ = (f_X5_pop τ).bind fun u => (f_X5_pop u.2).bind fun w => b_X5_one_567 x1 x3 (w.1 - u.1) (sA w.2 5 x1 (x3 + 1)) := by
  simp (decide := true) only [b_X5_one_121, b_X5_one_153, b_X5_one_154, b_X5_one_196, b_X5_one_224, b_X5_one_251, b_X5_one_270, f_X5_size, f_X5_takes, Option.bind_some, h1, if_true, if_false]
theorem p_m6 (h1 : inB x1 520 = true) : b_X5_one_121 x1 x2 x3 6 1 τ = (f_X5_pop τ).bind fun u => (f_X5_pop u.2).bind fun w => if u.1 ≤ w.1 then b_X5_one_567 x1 x3 0 (sA w.2 5 x1 (x3 + 1)) else b_X5_one_567 x1 x3 1 (sA w.2 5 x1 (x3 + 1)) := by
  simp (decide := true) only [b_X5_one_121, b_X5_one_153, b_X5_one_154, b_X5_one_196, b_X5_one_224, b_X5_one_251, b_X5_one_270, f_X5_size, f_X5_takes, Option.bind_some, h1, if_true, if_false]
theorem p_m7 (h1 : inB x1 520 = true) : b_X5_one_121 x1 x2 x3 7 1 τ = (f_X5_pop τ).bind fun u => (f_X5_pop u.2).bind fun w => b_X5_one_567 x1 x3 (w.1 * u.1) (sA w.2 5 x1 (x3 + 1)) := by
  simp (decide := true) only [b_X5_one_121, b_X5_one_153, b_X5_one_154, b_X5_one_196, b_X5_one_224, b_X5_one_251, b_X5_one_270, f_X5_size, f_X5_takes, Option.bind_some, h1, if_true, if_false]
theorem p_m8 (h1 : inB x1 520 = true) (hk : inB (((80 * x2) + x3) + 1) 400 = true) {K : Int32} (eK : gA τ 0 (((80 * x2) + x3) + 1) = K) : b_X5_one_121 x1 x2 x3 8 1 τ = (f_X5_pop τ).bind fun u => if u.1 = 0 then b_X5_one_435 x1 x3 K (gA (sA u.2 5 x1 (x3 + 2)) 5 x1) x1 (sA u.2 5 x1 (x3 + 2)) else b_X5_one_435 x1 x3 0 (gA (sA u.2 5 x1 (x3 + 2)) 5 x1) x1 (sA u.2 5 x1 (x3 + 2)) := by
  simp (decide := true) only [b_X5_one_121, b_X5_one_153, b_X5_one_154, b_X5_one_196, b_X5_one_224, b_X5_one_251, b_X5_one_270, f_X5_size, f_X5_takes, Option.bind_some, h1, hk, eK, if_true, if_false]
theorem p_m9 (h1 : inB x1 520 = true) (hk : inB (((80 * x2) + x3) + 1) 400 = true) {K : Int32} (eK : gA τ 0 (((80 * x2) + x3) + 1) = K) : b_X5_one_121 x1 x2 x3 9 1 τ = b_X5_one_435 x1 x3 K (gA (sA τ 5 x1 (x3 + 2)) 5 x1) x1 (sA τ 5 x1 (x3 + 2)) := by
  have e1 : gI (sA τ 5 x1 (x3 + 2)) 1 = gI τ 1 := rfl
  have e7 : gI (sA τ 5 x1 (x3 + 2)) 7 = gI τ 7 := rfl
  simp (decide := true) only [b_X5_one_121, b_X5_one_153, b_X5_one_154, b_X5_one_196, b_X5_one_224, b_X5_one_251, b_X5_one_270, b_X5_one_435, f_X5_size, f_X5_takes, Option.bind_some, h1, hk, eK, e1, e7, if_true, if_false]
theorem p_m10 (h1 : inB x1 520 = true) (hk : inB (((80 * x2) + x3) + 1) 400 = true) (hk2 : inB (((80 * x2) + x3) + 2) 400 = true) {K : Int32} (eK : gA τ 0 (((80 * x2) + x3) + 1) = K) : b_X5_one_121 x1 x2 x3 10 1 τ = (f_X5_pop τ).bind fun u => (f_X5_call K (gA u.2 0 (((80 * x2) + x3) + 2)) u.1 (sA u.2 5 x1 (x3 + 3))).bind fun w => if (gI w.2 1) ≤ 1 then some (0, w.2) else if (gI w.2 7) ≤ x1 then some (0, w.2) else some (0, sA w.2 5 x1 x3) := by
  simp (decide := true) only [b_X5_one_121, b_X5_one_153, b_X5_one_154, b_X5_one_196, b_X5_one_224, b_X5_one_251, b_X5_one_270, f_X5_size, f_X5_takes, Option.bind_some, h1, hk, hk2, eK, if_true, if_false]
theorem p_m11 (h1 : inB x1 520 = true) : b_X5_one_121 x1 x2 x3 11 1 τ = (f_X5_pop τ).bind fun u => (f_X5_back u.1 (sA u.2 5 x1 (x3 + 1))).bind fun w => if (gI w.2 1) ≤ 1 then some (0, w.2) else if (gI w.2 7) ≤ x1 then some (0, w.2) else some (0, sA w.2 5 x1 x3) := by
  simp (decide := true) only [b_X5_one_121, b_X5_one_153, b_X5_one_154, b_X5_one_196, b_X5_one_224, b_X5_one_251, b_X5_one_270, f_X5_size, f_X5_takes, Option.bind_some, h1, if_true, if_false]
theorem p_m12 (h1 : inB x1 520 = true) : b_X5_one_121 x1 x2 x3 12 1 τ = if 40 ≤ (gI τ 10) then some (0, sI τ 1 3) else (f_X5_pop τ).bind fun u => if inB (gI u.2 10) 40 = true then if (gI u.2 1) ≤ 1 then some (0, sI (sA (sA u.2 5 x1 (x3 + 1)) 10 (gI u.2 10) u.1) 10 ((gI u.2 10) + 1)) else if (gI u.2 7) ≤ x1 then some (0, sI (sA (sA u.2 5 x1 (x3 + 1)) 10 (gI u.2 10) u.1) 10 ((gI u.2 10) + 1)) else some (0, sA (sI (sA (sA u.2 5 x1 (x3 + 1)) 10 (gI u.2 10) u.1) 10 ((gI u.2 10) + 1)) 5 x1 x3) else none := by
  simp (decide := true) only [b_X5_one_121, b_X5_one_153, b_X5_one_154, b_X5_one_196, b_X5_one_221, b_X5_one_222, b_X5_one_224, b_X5_one_251, b_X5_one_270, f_X5_size, f_X5_takes, Option.bind_some, h1, if_true, if_false]
end On
