section Fr
variable {p : Program} {l : Launch} {e : Env} {R : Room} {s : State} {m : MethodId} {args : Array Value} {below : List Frame} {meth : Method} {c : Code} {H : Heap} {locs : List Loc} {cells slots : Nat} {Q : State → Prop}
variable {cc : ByteArray} {pc nL : Nat} {ls : Array Slot} {rest : List Value} {D : va_G} {ty : Nat → ClassId} {q : Nat → Nat} {Fx : (Nat → Prop) → State → Heap → Prop} {A : Nat → Prop} {own : String} {σ : St}
theorem lk_X4_disk : Cond.fieldLink RX4 10 RX4 (TX4 0).2.1 (TX4 0).2.2.1 ∈ tb := tb_in (List.mem_of_getElem? (i := 153) (by decide +kernel)) (by decide +kernel)
theorem g_X4_disk (X : CallFix p m c cc nL s args tb RX4) (hI : Inw D ty Fx (wC ty q σ) A s H locs) (hd : decode cc pc = .ok (.getfield 10, 3)) (kk : W p l e R s m args below meth c H locs cells slots Q (F0 m (pc + 3) ls (.ref (q 1) :: rest))) : W p l e R s m args below meth c H locs cells slots Q (F0 m pc ls (.ref (q 0) :: rest)) :=
  gt_f X hI 0 rfl rfl utX4 0 (by decide) lk_X4_disk rfl rfl hd kk
theorem lk_X4_run : Cond.fieldLink RX4 21 RX4 (TX4 1).2.1 (TX4 1).2.2.1 ∈ tb := tb_in (List.mem_of_getElem? (i := 154) (by decide +kernel)) (by decide +kernel)
theorem g_X4_run (X : CallFix p m c cc nL s args tb RX4) (hI : Inw D ty Fx (wC ty q σ) A s H locs) (hd : decode cc pc = .ok (.getfield 21, 3)) (kk : W p l e R s m args below meth c H locs cells slots Q (F0 m (pc + 3) ls (.ref (q 2) :: rest))) : W p l e R s m args below meth c H locs cells slots Q (F0 m pc ls (.ref (q 0) :: rest)) :=
  gt_f X hI 0 rfl rfl utX4 1 (by decide) lk_X4_run rfl rfl hd kk
theorem lk_X0_bytes : Cond.fieldLink RX0 11 RX0 (TX0 0).2.1 (TX0 0).2.2.1 ∈ tb := tb_in (List.mem_of_getElem? (i := 54) (by decide +kernel)) (by decide +kernel)
theorem g_X0_bytes (X : CallFix p m c cc nL s args tb RX0) (hI : Inw D ty Fx (wC ty q σ) A s H locs) (hd : decode cc pc = .ok (.getfield 11, 3)) (kk : W p l e R s m args below meth c H locs cells slots Q (F0 m (pc + 3) ls (.ref (q 5) :: rest))) : W p l e R s m args below meth c H locs cells slots Q (F0 m pc ls (.ref (q 1) :: rest)) :=
  gt_f X hI 1 rfl rfl utX0 0 (by decide) lk_X0_bytes rfl rfl hd kk
theorem lk_X0_lengths : Cond.fieldLink RX0 16 RX0 (TX0 1).2.1 (TX0 1).2.2.1 ∈ tb := tb_in (List.mem_of_getElem? (i := 55) (by decide +kernel)) (by decide +kernel)
theorem g_X0_lengths (X : CallFix p m c cc nL s args tb RX0) (hI : Inw D ty Fx (wC ty q σ) A s H locs) (hd : decode cc pc = .ok (.getfield 16, 3)) (kk : W p l e R s m args below meth c H locs cells slots Q (F0 m (pc + 3) ls (.ref (q 6) :: rest))) : W p l e R s m args below meth c H locs cells slots Q (F0 m pc ls (.ref (q 1) :: rest)) :=
  gt_f X hI 1 rfl rfl utX0 1 (by decide) lk_X0_lengths rfl rfl hd kk
theorem lk_X3_disk : Cond.fieldLink RX3 29 RX3 (TX3 0).2.1 (TX3 0).2.2.1 ∈ tb := tb_in (List.mem_of_getElem? (i := 131) (by decide +kernel)) (by decide +kernel)
theorem g_X3_disk (X : CallFix p m c cc nL s args tb RX3) (hI : Inw D ty Fx (wC ty q σ) A s H locs) (hd : decode cc pc = .ok (.getfield 29, 3)) (kk : W p l e R s m args below meth c H locs cells slots Q (F0 m (pc + 3) ls (.ref (q 1) :: rest))) : W p l e R s m args below meth c H locs cells slots Q (F0 m pc ls (.ref (q 2) :: rest)) :=
  gt_f X hI 2 rfl rfl utX3 0 (by decide) lk_X3_disk rfl rfl hd kk
theorem lk_X3_memory : Cond.fieldLink RX3 12 RX3 (TX3 1).2.1 (TX3 1).2.2.1 ∈ tb := tb_in (List.mem_of_getElem? (i := 132) (by decide +kernel)) (by decide +kernel)
theorem g_X3_memory (X : CallFix p m c cc nL s args tb RX3) (hI : Inw D ty Fx (wC ty q σ) A s H locs) (hd : decode cc pc = .ok (.getfield 12, 3)) (kk : W p l e R s m args below meth c H locs cells slots Q (F0 m (pc + 3) ls (.ref (q 3) :: rest))) : W p l e R s m args below meth c H locs cells slots Q (F0 m pc ls (.ref (q 2) :: rest)) :=
  gt_f X hI 2 rfl rfl utX3 1 (by decide) lk_X3_memory rfl rfl hd kk
theorem lk_X3_frames : Cond.fieldLink RX3 21 RX3 (TX3 2).2.1 (TX3 2).2.2.1 ∈ tb := tb_in (List.mem_of_getElem? (i := 133) (by decide +kernel)) (by decide +kernel)
theorem g_X3_frames (X : CallFix p m c cc nL s args tb RX3) (hI : Inw D ty Fx (wC ty q σ) A s H locs) (hd : decode cc pc = .ok (.getfield 21, 3)) (kk : W p l e R s m args below meth c H locs cells slots Q (F0 m (pc + 3) ls (.ref (q 4) :: rest))) : W p l e R s m args below meth c H locs cells slots Q (F0 m pc ls (.ref (q 2) :: rest)) :=
  gt_f X hI 2 rfl rfl utX3 2 (by decide) lk_X3_frames rfl rfl hd kk
theorem lk_X3_outs : Cond.fieldLink RX3 25 RX3 (TX3 3).2.1 (TX3 3).2.2.1 ∈ tb := tb_in (List.mem_of_getElem? (i := 134) (by decide +kernel)) (by decide +kernel)
theorem g_X3_outs (X : CallFix p m c cc nL s args tb RX3) (hI : Inw D ty Fx (wC ty q σ) A s H locs) (hd : decode cc pc = .ok (.getfield 25, 3)) (kk : W p l e R s m args below meth c H locs cells slots Q (F0 m (pc + 3) ls (.ref (q 7) :: rest))) : W p l e R s m args below meth c H locs cells slots Q (F0 m pc ls (.ref (q 2) :: rest)) :=
  gt_f X hI 2 rfl rfl utX3 3 (by decide) lk_X3_outs rfl rfl hd kk
theorem lk_X3_outCount : Cond.fieldLink RX3 47 RX3 (TX3 4).2.1 (TX3 4).2.2.1 ∈ tb := tb_in (List.mem_of_getElem? (i := 135) (by decide +kernel)) (by decide +kernel)
theorem g_X3_outCount (X : CallFix p m c cc nL s args tb RX3) (hI : Inw D ty Fx (wC ty q σ) A s H locs) {v : Int32} (hv : gI σ 0 = v) (hd : decode cc pc = .ok (.getfield 47, 3)) (kk : W p l e R s m args below meth c H locs cells slots Q (F0 m (pc + 3) ls (.int v :: rest))) : W p l e R s m args below meth c H locs cells slots Q (F0 m pc ls (.ref (q 2) :: rest)) := by
  subst hv
  exact gt_f X hI 2 rfl rfl utX3 4 (by decide) lk_X3_outCount rfl rfl hd kk
theorem p_X3_outCount (X : CallFix p m c cc nL s args tb RX3) (hI : Inw D ty Fx (wC ty q σ) A s H locs) {v : Int32} (hd : decode cc pc = .ok (.putfield 47, 3)) (kk : ∀ (H : Heap) (locs : List Loc), Inw D ty Fx (wC ty q (sI σ 0 v)) A s H locs → W p l e R s m args below meth c H locs cells slots Q (F0 m (pc + 3) ls rest)) : W p l e R s m args below meth c H locs cells slots Q (F0 m pc ls (.int v :: .ref (q 2) :: rest)) :=
  pt_f X hI 2 rfl rfl utX3 tyX3 tyX3_ok nmX3 4 (by decide) lk_X3_outCount rfl rfl rfl (Nat.le_of_ble_eq_true rfl) rfl hd kk
theorem lk_X3_result : Cond.fieldLink RX3 51 RX3 (TX3 5).2.1 (TX3 5).2.2.1 ∈ tb := tb_in (List.mem_of_getElem? (i := 136) (by decide +kernel)) (by decide +kernel)
theorem g_X3_result (X : CallFix p m c cc nL s args tb RX3) (hI : Inw D ty Fx (wC ty q σ) A s H locs) {v : Int32} (hv : gI σ 1 = v) (hd : decode cc pc = .ok (.getfield 51, 3)) (kk : W p l e R s m args below meth c H locs cells slots Q (F0 m (pc + 3) ls (.int v :: rest))) : W p l e R s m args below meth c H locs cells slots Q (F0 m pc ls (.ref (q 2) :: rest)) := by
  subst hv
  exact gt_f X hI 2 rfl rfl utX3 5 (by decide) lk_X3_result rfl rfl hd kk
theorem p_X3_result (X : CallFix p m c cc nL s args tb RX3) (hI : Inw D ty Fx (wC ty q σ) A s H locs) {v : Int32} (hd : decode cc pc = .ok (.putfield 51, 3)) (kk : ∀ (H : Heap) (locs : List Loc), Inw D ty Fx (wC ty q (sI σ 1 v)) A s H locs → W p l e R s m args below meth c H locs cells slots Q (F0 m (pc + 3) ls rest)) : W p l e R s m args below meth c H locs cells slots Q (F0 m pc ls (.int v :: .ref (q 2) :: rest)) :=
  pt_f X hI 2 rfl rfl utX3 tyX3 tyX3_ok nmX3 5 (by decide) lk_X3_result rfl rfl rfl (Nat.le_of_ble_eq_true rfl) rfl hd kk
theorem lk_X3_status : Cond.fieldLink RX3 54 RX3 (TX3 6).2.1 (TX3 6).2.2.1 ∈ tb := tb_in (List.mem_of_getElem? (i := 137) (by decide +kernel)) (by decide +kernel)
theorem g_X3_status (X : CallFix p m c cc nL s args tb RX3) (hI : Inw D ty Fx (wC ty q σ) A s H locs) {v : Int32} (hv : gI σ 2 = v) (hd : decode cc pc = .ok (.getfield 54, 3)) (kk : W p l e R s m args below meth c H locs cells slots Q (F0 m (pc + 3) ls (.int v :: rest))) : W p l e R s m args below meth c H locs cells slots Q (F0 m pc ls (.ref (q 2) :: rest)) := by
  subst hv
  exact gt_f X hI 2 rfl rfl utX3 6 (by decide) lk_X3_status rfl rfl hd kk
theorem p_X3_status (X : CallFix p m c cc nL s args tb RX3) (hI : Inw D ty Fx (wC ty q σ) A s H locs) {v : Int32} (hd : decode cc pc = .ok (.putfield 54, 3)) (kk : ∀ (H : Heap) (locs : List Loc), Inw D ty Fx (wC ty q (sI σ 2 v)) A s H locs → W p l e R s m args below meth c H locs cells slots Q (F0 m (pc + 3) ls rest)) : W p l e R s m args below meth c H locs cells slots Q (F0 m pc ls (.int v :: .ref (q 2) :: rest)) :=
  pt_f X hI 2 rfl rfl utX3 tyX3 tyX3_ok nmX3 6 (by decide) lk_X3_status rfl rfl rfl (Nat.le_of_ble_eq_true rfl) rfl hd kk
theorem lk_X2_residentBytes : Cond.fieldLink RX2 9 RX2 (TX2 0).2.1 (TX2 0).2.2.1 ∈ tb := tb_in (List.mem_of_getElem? (i := 75) (by decide +kernel)) (by decide +kernel)
theorem g_X2_residentBytes (X : CallFix p m c cc nL s args tb RX2) (hI : Inw D ty Fx (wC ty q σ) A s H locs) (hd : decode cc pc = .ok (.getfield 9, 3)) (kk : W p l e R s m args below meth c H locs cells slots Q (F0 m (pc + 3) ls (.ref (q 8) :: rest))) : W p l e R s m args below meth c H locs cells slots Q (F0 m pc ls (.ref (q 3) :: rest)) :=
  gt_f X hI 3 rfl rfl utX2 0 (by decide) lk_X2_residentBytes rfl rfl hd kk
theorem lk_X2_frameCounts : Cond.fieldLink RX2 15 RX2 (TX2 1).2.1 (TX2 1).2.2.1 ∈ tb := tb_in (List.mem_of_getElem? (i := 76) (by decide +kernel)) (by decide +kernel)
theorem g_X2_frameCounts (X : CallFix p m c cc nL s args tb RX2) (hI : Inw D ty Fx (wC ty q σ) A s H locs) (hd : decode cc pc = .ok (.getfield 15, 3)) (kk : W p l e R s m args below meth c H locs cells slots Q (F0 m (pc + 3) ls (.ref (q 9) :: rest))) : W p l e R s m args below meth c H locs cells slots Q (F0 m pc ls (.ref (q 3) :: rest)) :=
  gt_f X hI 3 rfl rfl utX2 1 (by decide) lk_X2_frameCounts rfl rfl hd kk
theorem lk_X2_latestCalls : Cond.fieldLink RX2 18 RX2 (TX2 2).2.1 (TX2 2).2.2.1 ∈ tb := tb_in (List.mem_of_getElem? (i := 77) (by decide +kernel)) (by decide +kernel)
theorem g_X2_latestCalls (X : CallFix p m c cc nL s args tb RX2) (hI : Inw D ty Fx (wC ty q σ) A s H locs) (hd : decode cc pc = .ok (.getfield 18, 3)) (kk : W p l e R s m args below meth c H locs cells slots Q (F0 m (pc + 3) ls (.ref (q 10) :: rest))) : W p l e R s m args below meth c H locs cells slots Q (F0 m pc ls (.ref (q 3) :: rest)) :=
  gt_f X hI 3 rfl rfl utX2 2 (by decide) lk_X2_latestCalls rfl rfl hd kk
theorem lk_X2_calls : Cond.fieldLink RX2 21 RX2 (TX2 3).2.1 (TX2 3).2.2.1 ∈ tb := tb_in (List.mem_of_getElem? (i := 78) (by decide +kernel)) (by decide +kernel)
theorem g_X2_calls (X : CallFix p m c cc nL s args tb RX2) (hI : Inw D ty Fx (wC ty q σ) A s H locs) {v : Int32} (hv : gI σ 3 = v) (hd : decode cc pc = .ok (.getfield 21, 3)) (kk : W p l e R s m args below meth c H locs cells slots Q (F0 m (pc + 3) ls (.int v :: rest))) : W p l e R s m args below meth c H locs cells slots Q (F0 m pc ls (.ref (q 3) :: rest)) := by
  subst hv
  exact gt_f X hI 3 rfl rfl utX2 3 (by decide) lk_X2_calls rfl rfl hd kk
theorem p_X2_calls (X : CallFix p m c cc nL s args tb RX2) (hI : Inw D ty Fx (wC ty q σ) A s H locs) {v : Int32} (hd : decode cc pc = .ok (.putfield 21, 3)) (kk : ∀ (H : Heap) (locs : List Loc), Inw D ty Fx (wC ty q (sI σ 3 v)) A s H locs → W p l e R s m args below meth c H locs cells slots Q (F0 m (pc + 3) ls rest)) : W p l e R s m args below meth c H locs cells slots Q (F0 m pc ls (.int v :: .ref (q 3) :: rest)) :=
  pt_f X hI 3 rfl rfl utX2 tyX2 tyX2_ok nmX2 3 (by decide) lk_X2_calls rfl rfl rfl (Nat.le_of_ble_eq_true rfl) rfl hd kk
theorem lk_X2_limit : Cond.fieldLink RX2 25 RX2 (TX2 4).2.1 (TX2 4).2.2.1 ∈ tb := tb_in (List.mem_of_getElem? (i := 79) (by decide +kernel)) (by decide +kernel)
theorem g_X2_limit (X : CallFix p m c cc nL s args tb RX2) (hI : Inw D ty Fx (wC ty q σ) A s H locs) {v : Int32} (hv : gI σ 4 = v) (hd : decode cc pc = .ok (.getfield 25, 3)) (kk : W p l e R s m args below meth c H locs cells slots Q (F0 m (pc + 3) ls (.int v :: rest))) : W p l e R s m args below meth c H locs cells slots Q (F0 m pc ls (.ref (q 3) :: rest)) := by
  subst hv
  exact gt_f X hI 3 rfl rfl utX2 4 (by decide) lk_X2_limit rfl rfl hd kk
theorem p_X2_limit (X : CallFix p m c cc nL s args tb RX2) (hI : Inw D ty Fx (wC ty q σ) A s H locs) {v : Int32} (hd : decode cc pc = .ok (.putfield 25, 3)) (kk : ∀ (H : Heap) (locs : List Loc), Inw D ty Fx (wC ty q (sI σ 4 v)) A s H locs → W p l e R s m args below meth c H locs cells slots Q (F0 m (pc + 3) ls rest)) : W p l e R s m args below meth c H locs cells slots Q (F0 m pc ls (.int v :: .ref (q 3) :: rest)) :=
  pt_f X hI 3 rfl rfl utX2 tyX2 tyX2_ok nmX2 4 (by decide) lk_X2_limit rfl rfl rfl (Nat.le_of_ble_eq_true rfl) rfl hd kk
theorem lk_X2_held : Cond.fieldLink RX2 28 RX2 (TX2 5).2.1 (TX2 5).2.2.1 ∈ tb := tb_in (List.mem_of_getElem? (i := 80) (by decide +kernel)) (by decide +kernel)
theorem g_X2_held (X : CallFix p m c cc nL s args tb RX2) (hI : Inw D ty Fx (wC ty q σ) A s H locs) {v : Int32} (hv : gI σ 5 = v) (hd : decode cc pc = .ok (.getfield 28, 3)) (kk : W p l e R s m args below meth c H locs cells slots Q (F0 m (pc + 3) ls (.int v :: rest))) : W p l e R s m args below meth c H locs cells slots Q (F0 m pc ls (.ref (q 3) :: rest)) := by
  subst hv
  exact gt_f X hI 3 rfl rfl utX2 5 (by decide) lk_X2_held rfl rfl hd kk
theorem p_X2_held (X : CallFix p m c cc nL s args tb RX2) (hI : Inw D ty Fx (wC ty q σ) A s H locs) {v : Int32} (hd : decode cc pc = .ok (.putfield 28, 3)) (kk : ∀ (H : Heap) (locs : List Loc), Inw D ty Fx (wC ty q (sI σ 5 v)) A s H locs → W p l e R s m args below meth c H locs cells slots Q (F0 m (pc + 3) ls rest)) : W p l e R s m args below meth c H locs cells slots Q (F0 m pc ls (.int v :: .ref (q 3) :: rest)) :=
  pt_f X hI 3 rfl rfl utX2 tyX2 tyX2_ok nmX2 5 (by decide) lk_X2_held rfl rfl rfl (Nat.le_of_ble_eq_true rfl) rfl hd kk
theorem lk_X2_most : Cond.fieldLink RX2 31 RX2 (TX2 6).2.1 (TX2 6).2.2.1 ∈ tb := tb_in (List.mem_of_getElem? (i := 81) (by decide +kernel)) (by decide +kernel)
theorem g_X2_most (X : CallFix p m c cc nL s args tb RX2) (hI : Inw D ty Fx (wC ty q σ) A s H locs) {v : Int32} (hv : gI σ 6 = v) (hd : decode cc pc = .ok (.getfield 31, 3)) (kk : W p l e R s m args below meth c H locs cells slots Q (F0 m (pc + 3) ls (.int v :: rest))) : W p l e R s m args below meth c H locs cells slots Q (F0 m pc ls (.ref (q 3) :: rest)) := by
  subst hv
  exact gt_f X hI 3 rfl rfl utX2 6 (by decide) lk_X2_most rfl rfl hd kk
theorem p_X2_most (X : CallFix p m c cc nL s args tb RX2) (hI : Inw D ty Fx (wC ty q σ) A s H locs) {v : Int32} (hd : decode cc pc = .ok (.putfield 31, 3)) (kk : ∀ (H : Heap) (locs : List Loc), Inw D ty Fx (wC ty q (sI σ 6 v)) A s H locs → W p l e R s m args below meth c H locs cells slots Q (F0 m (pc + 3) ls rest)) : W p l e R s m args below meth c H locs cells slots Q (F0 m pc ls (.int v :: .ref (q 3) :: rest)) :=
  pt_f X hI 3 rfl rfl utX2 tyX2 tyX2_ok nmX2 6 (by decide) lk_X2_most rfl rfl rfl (Nat.le_of_ble_eq_true rfl) rfl hd kk
theorem lk_X2_loads : Cond.fieldLink RX2 34 RX2 (TX2 7).2.1 (TX2 7).2.2.1 ∈ tb := tb_in (List.mem_of_getElem? (i := 82) (by decide +kernel)) (by decide +kernel)
theorem g_X2_loads (X : CallFix p m c cc nL s args tb RX2) (hI : Inw D ty Fx (wC ty q σ) A s H locs) {v : Int32} (hv : gI σ 7 = v) (hd : decode cc pc = .ok (.getfield 34, 3)) (kk : W p l e R s m args below meth c H locs cells slots Q (F0 m (pc + 3) ls (.int v :: rest))) : W p l e R s m args below meth c H locs cells slots Q (F0 m pc ls (.ref (q 3) :: rest)) := by
  subst hv
  exact gt_f X hI 3 rfl rfl utX2 7 (by decide) lk_X2_loads rfl rfl hd kk
theorem p_X2_loads (X : CallFix p m c cc nL s args tb RX2) (hI : Inw D ty Fx (wC ty q σ) A s H locs) {v : Int32} (hd : decode cc pc = .ok (.putfield 34, 3)) (kk : ∀ (H : Heap) (locs : List Loc), Inw D ty Fx (wC ty q (sI σ 7 v)) A s H locs → W p l e R s m args below meth c H locs cells slots Q (F0 m (pc + 3) ls rest)) : W p l e R s m args below meth c H locs cells slots Q (F0 m pc ls (.int v :: .ref (q 3) :: rest)) :=
  pt_f X hI 3 rfl rfl utX2 tyX2 tyX2_ok nmX2 7 (by decide) lk_X2_loads rfl rfl rfl (Nat.le_of_ble_eq_true rfl) rfl hd kk
theorem lk_X2_gone : Cond.fieldLink RX2 37 RX2 (TX2 8).2.1 (TX2 8).2.2.1 ∈ tb := tb_in (List.mem_of_getElem? (i := 83) (by decide +kernel)) (by decide +kernel)
theorem g_X2_gone (X : CallFix p m c cc nL s args tb RX2) (hI : Inw D ty Fx (wC ty q σ) A s H locs) {v : Int32} (hv : gI σ 8 = v) (hd : decode cc pc = .ok (.getfield 37, 3)) (kk : W p l e R s m args below meth c H locs cells slots Q (F0 m (pc + 3) ls (.int v :: rest))) : W p l e R s m args below meth c H locs cells slots Q (F0 m pc ls (.ref (q 3) :: rest)) := by
  subst hv
  exact gt_f X hI 3 rfl rfl utX2 8 (by decide) lk_X2_gone rfl rfl hd kk
theorem p_X2_gone (X : CallFix p m c cc nL s args tb RX2) (hI : Inw D ty Fx (wC ty q σ) A s H locs) {v : Int32} (hd : decode cc pc = .ok (.putfield 37, 3)) (kk : ∀ (H : Heap) (locs : List Loc), Inw D ty Fx (wC ty q (sI σ 8 v)) A s H locs → W p l e R s m args below meth c H locs cells slots Q (F0 m (pc + 3) ls rest)) : W p l e R s m args below meth c H locs cells slots Q (F0 m pc ls (.int v :: .ref (q 3) :: rest)) :=
  pt_f X hI 3 rfl rfl utX2 tyX2 tyX2_ok nmX2 8 (by decide) lk_X2_gone rfl rfl rfl (Nat.le_of_ble_eq_true rfl) rfl hd kk
theorem lk_X1_segments : Cond.fieldLink RX1 11 RX1 (TX1 0).2.1 (TX1 0).2.2.1 ∈ tb := tb_in (List.mem_of_getElem? (i := 109) (by decide +kernel)) (by decide +kernel)
theorem g_X1_segments (X : CallFix p m c cc nL s args tb RX1) (hI : Inw D ty Fx (wC ty q σ) A s H locs) (hd : decode cc pc = .ok (.getfield 11, 3)) (kk : W p l e R s m args below meth c H locs cells slots Q (F0 m (pc + 3) ls (.ref (q 11) :: rest))) : W p l e R s m args below meth c H locs cells slots Q (F0 m pc ls (.ref (q 4) :: rest)) :=
  gt_f X hI 4 rfl rfl utX1 0 (by decide) lk_X1_segments rfl rfl hd kk
theorem lk_X1_places : Cond.fieldLink RX1 15 RX1 (TX1 1).2.1 (TX1 1).2.2.1 ∈ tb := tb_in (List.mem_of_getElem? (i := 110) (by decide +kernel)) (by decide +kernel)
theorem g_X1_places (X : CallFix p m c cc nL s args tb RX1) (hI : Inw D ty Fx (wC ty q σ) A s H locs) (hd : decode cc pc = .ok (.getfield 15, 3)) (kk : W p l e R s m args below meth c H locs cells slots Q (F0 m (pc + 3) ls (.ref (q 12) :: rest))) : W p l e R s m args below meth c H locs cells slots Q (F0 m pc ls (.ref (q 4) :: rest)) :=
  gt_f X hI 4 rfl rfl utX1 1 (by decide) lk_X1_places rfl rfl hd kk
theorem lk_X1_localCounts : Cond.fieldLink RX1 18 RX1 (TX1 2).2.1 (TX1 2).2.2.1 ∈ tb := tb_in (List.mem_of_getElem? (i := 111) (by decide +kernel)) (by decide +kernel)
theorem g_X1_localCounts (X : CallFix p m c cc nL s args tb RX1) (hI : Inw D ty Fx (wC ty q σ) A s H locs) (hd : decode cc pc = .ok (.getfield 18, 3)) (kk : W p l e R s m args below meth c H locs cells slots Q (F0 m (pc + 3) ls (.ref (q 13) :: rest))) : W p l e R s m args below meth c H locs cells slots Q (F0 m pc ls (.ref (q 4) :: rest)) :=
  gt_f X hI 4 rfl rfl utX1 2 (by decide) lk_X1_localCounts rfl rfl hd kk
theorem lk_X1_firstWords : Cond.fieldLink RX1 21 RX1 (TX1 3).2.1 (TX1 3).2.2.1 ∈ tb := tb_in (List.mem_of_getElem? (i := 112) (by decide +kernel)) (by decide +kernel)
theorem g_X1_firstWords (X : CallFix p m c cc nL s args tb RX1) (hI : Inw D ty Fx (wC ty q σ) A s H locs) (hd : decode cc pc = .ok (.getfield 21, 3)) (kk : W p l e R s m args below meth c H locs cells slots Q (F0 m (pc + 3) ls (.ref (q 14) :: rest))) : W p l e R s m args below meth c H locs cells slots Q (F0 m pc ls (.ref (q 4) :: rest)) :=
  gt_f X hI 4 rfl rfl utX1 3 (by decide) lk_X1_firstWords rfl rfl hd kk
theorem lk_X1_words : Cond.fieldLink RX1 24 RX1 (TX1 4).2.1 (TX1 4).2.2.1 ∈ tb := tb_in (List.mem_of_getElem? (i := 113) (by decide +kernel)) (by decide +kernel)
theorem g_X1_words (X : CallFix p m c cc nL s args tb RX1) (hI : Inw D ty Fx (wC ty q σ) A s H locs) (hd : decode cc pc = .ok (.getfield 24, 3)) (kk : W p l e R s m args below meth c H locs cells slots Q (F0 m (pc + 3) ls (.ref (q 15) :: rest))) : W p l e R s m args below meth c H locs cells slots Q (F0 m pc ls (.ref (q 4) :: rest)) :=
  gt_f X hI 4 rfl rfl utX1 4 (by decide) lk_X1_words rfl rfl hd kk
theorem lk_X1_count : Cond.fieldLink RX1 27 RX1 (TX1 5).2.1 (TX1 5).2.2.1 ∈ tb := tb_in (List.mem_of_getElem? (i := 114) (by decide +kernel)) (by decide +kernel)
theorem g_X1_count (X : CallFix p m c cc nL s args tb RX1) (hI : Inw D ty Fx (wC ty q σ) A s H locs) {v : Int32} (hv : gI σ 9 = v) (hd : decode cc pc = .ok (.getfield 27, 3)) (kk : W p l e R s m args below meth c H locs cells slots Q (F0 m (pc + 3) ls (.int v :: rest))) : W p l e R s m args below meth c H locs cells slots Q (F0 m pc ls (.ref (q 4) :: rest)) := by
  subst hv
  exact gt_f X hI 4 rfl rfl utX1 5 (by decide) lk_X1_count rfl rfl hd kk
theorem p_X1_count (X : CallFix p m c cc nL s args tb RX1) (hI : Inw D ty Fx (wC ty q σ) A s H locs) {v : Int32} (hd : decode cc pc = .ok (.putfield 27, 3)) (kk : ∀ (H : Heap) (locs : List Loc), Inw D ty Fx (wC ty q (sI σ 9 v)) A s H locs → W p l e R s m args below meth c H locs cells slots Q (F0 m (pc + 3) ls rest)) : W p l e R s m args below meth c H locs cells slots Q (F0 m pc ls (.int v :: .ref (q 4) :: rest)) :=
  pt_f X hI 4 rfl rfl utX1 tyX1 tyX1_ok nmX1 5 (by decide) lk_X1_count rfl rfl rfl (Nat.le_of_ble_eq_true rfl) rfl hd kk
theorem lk_X1_usedWords : Cond.fieldLink RX1 31 RX1 (TX1 6).2.1 (TX1 6).2.2.1 ∈ tb := tb_in (List.mem_of_getElem? (i := 115) (by decide +kernel)) (by decide +kernel)
theorem g_X1_usedWords (X : CallFix p m c cc nL s args tb RX1) (hI : Inw D ty Fx (wC ty q σ) A s H locs) {v : Int32} (hv : gI σ 10 = v) (hd : decode cc pc = .ok (.getfield 31, 3)) (kk : W p l e R s m args below meth c H locs cells slots Q (F0 m (pc + 3) ls (.int v :: rest))) : W p l e R s m args below meth c H locs cells slots Q (F0 m pc ls (.ref (q 4) :: rest)) := by
  subst hv
  exact gt_f X hI 4 rfl rfl utX1 6 (by decide) lk_X1_usedWords rfl rfl hd kk
theorem p_X1_usedWords (X : CallFix p m c cc nL s args tb RX1) (hI : Inw D ty Fx (wC ty q σ) A s H locs) {v : Int32} (hd : decode cc pc = .ok (.putfield 31, 3)) (kk : ∀ (H : Heap) (locs : List Loc), Inw D ty Fx (wC ty q (sI σ 10 v)) A s H locs → W p l e R s m args below meth c H locs cells slots Q (F0 m (pc + 3) ls rest)) : W p l e R s m args below meth c H locs cells slots Q (F0 m pc ls (.int v :: .ref (q 4) :: rest)) :=
  pt_f X hI 4 rfl rfl utX1 tyX1 tyX1_ok nmX1 6 (by decide) lk_X1_usedWords rfl rfl rfl (Nat.le_of_ble_eq_true rfl) rfl hd kk
theorem lk_X5_code : Cond.fieldLink RX5 44 RX5 (TX5 0).2.1 (TX5 0).2.2.1 ∈ tb := tb_in (List.mem_of_getElem? (i := 588) (by decide +kernel)) (by decide +kernel)
theorem g_X5_code (X : CallFix p m c cc nL s args tb RX5) (hI : Inw D ty Fx (wM ty q σ) A s H locs) {v : Int32} (hv : gI σ 0 = v) (hd : decode cc pc = .ok (.getfield 44, 3)) (kk : W p l e R s m args below meth c H locs cells slots Q (F0 m (pc + 3) ls (.int v :: rest))) : W p l e R s m args below meth c H locs cells slots Q (F0 m pc ls (.ref (q 0) :: rest)) := by
  subst hv
  exact gt_f X hI 0 rfl rfl utX5 0 (by decide) lk_X5_code rfl rfl hd kk
theorem p_X5_code (X : CallFix p m c cc nL s args tb RX5) (hI : Inw D ty Fx (wM ty q σ) A s H locs) {v : Int32} (hd : decode cc pc = .ok (.putfield 44, 3)) (kk : ∀ (H : Heap) (locs : List Loc), Inw D ty Fx (wM ty q (sI σ 0 v)) A s H locs → W p l e R s m args below meth c H locs cells slots Q (F0 m (pc + 3) ls rest)) : W p l e R s m args below meth c H locs cells slots Q (F0 m pc ls (.int v :: .ref (q 0) :: rest)) :=
  pt_f X hI 0 rfl rfl utX5 tyX5 tyX5_ok nmX5 0 (by decide) lk_X5_code rfl rfl rfl (Nat.le_of_ble_eq_true rfl) rfl hd kk
theorem lk_X5_disk : Cond.fieldLink RX5 7 RX5 (TX5 1).2.1 (TX5 1).2.2.1 ∈ tb := tb_in (List.mem_of_getElem? (i := 589) (by decide +kernel)) (by decide +kernel)
theorem g_X5_disk (X : CallFix p m c cc nL s args tb RX5) (hI : Inw D ty Fx (wM ty q σ) A s H locs) (hd : decode cc pc = .ok (.getfield 7, 3)) (kk : W p l e R s m args below meth c H locs cells slots Q (F0 m (pc + 3) ls (.ref (q 1) :: rest))) : W p l e R s m args below meth c H locs cells slots Q (F0 m pc ls (.ref (q 0) :: rest)) :=
  gt_f X hI 0 rfl rfl utX5 1 (by decide) lk_X5_disk rfl rfl hd kk
theorem lk_X5_length : Cond.fieldLink RX5 13 RX5 (TX5 2).2.1 (TX5 2).2.2.1 ∈ tb := tb_in (List.mem_of_getElem? (i := 590) (by decide +kernel)) (by decide +kernel)
theorem g_X5_length (X : CallFix p m c cc nL s args tb RX5) (hI : Inw D ty Fx (wM ty q σ) A s H locs) (hd : decode cc pc = .ok (.getfield 13, 3)) (kk : W p l e R s m args below meth c H locs cells slots Q (F0 m (pc + 3) ls (.ref (q 2) :: rest))) : W p l e R s m args below meth c H locs cells slots Q (F0 m pc ls (.ref (q 0) :: rest)) :=
  gt_f X hI 0 rfl rfl utX5 2 (by decide) lk_X5_length rfl rfl hd kk
theorem lk_X5_state : Cond.fieldLink RX5 52 RX5 (TX5 3).2.1 (TX5 3).2.2.1 ∈ tb := tb_in (List.mem_of_getElem? (i := 591) (by decide +kernel)) (by decide +kernel)
theorem g_X5_state (X : CallFix p m c cc nL s args tb RX5) (hI : Inw D ty Fx (wM ty q σ) A s H locs) {v : Int32} (hv : gI σ 1 = v) (hd : decode cc pc = .ok (.getfield 52, 3)) (kk : W p l e R s m args below meth c H locs cells slots Q (F0 m (pc + 3) ls (.int v :: rest))) : W p l e R s m args below meth c H locs cells slots Q (F0 m pc ls (.ref (q 0) :: rest)) := by
  subst hv
  exact gt_f X hI 0 rfl rfl utX5 3 (by decide) lk_X5_state rfl rfl hd kk
theorem p_X5_state (X : CallFix p m c cc nL s args tb RX5) (hI : Inw D ty Fx (wM ty q σ) A s H locs) {v : Int32} (hd : decode cc pc = .ok (.putfield 52, 3)) (kk : ∀ (H : Heap) (locs : List Loc), Inw D ty Fx (wM ty q (sI σ 1 v)) A s H locs → W p l e R s m args below meth c H locs cells slots Q (F0 m (pc + 3) ls rest)) : W p l e R s m args below meth c H locs cells slots Q (F0 m pc ls (.int v :: .ref (q 0) :: rest)) :=
  pt_f X hI 0 rfl rfl utX5 tyX5 tyX5_ok nmX5 3 (by decide) lk_X5_state rfl rfl rfl (Nat.le_of_ble_eq_true rfl) rfl hd kk
theorem lk_X5_limit : Cond.fieldLink RX5 69 RX5 (TX5 4).2.1 (TX5 4).2.2.1 ∈ tb := tb_in (List.mem_of_getElem? (i := 592) (by decide +kernel)) (by decide +kernel)
theorem g_X5_limit (X : CallFix p m c cc nL s args tb RX5) (hI : Inw D ty Fx (wM ty q σ) A s H locs) {v : Int32} (hv : gI σ 2 = v) (hd : decode cc pc = .ok (.getfield 69, 3)) (kk : W p l e R s m args below meth c H locs cells slots Q (F0 m (pc + 3) ls (.int v :: rest))) : W p l e R s m args below meth c H locs cells slots Q (F0 m pc ls (.ref (q 0) :: rest)) := by
  subst hv
  exact gt_f X hI 0 rfl rfl utX5 4 (by decide) lk_X5_limit rfl rfl hd kk
theorem p_X5_limit (X : CallFix p m c cc nL s args tb RX5) (hI : Inw D ty Fx (wM ty q σ) A s H locs) {v : Int32} (hd : decode cc pc = .ok (.putfield 69, 3)) (kk : ∀ (H : Heap) (locs : List Loc), Inw D ty Fx (wM ty q (sI σ 2 v)) A s H locs → W p l e R s m args below meth c H locs cells slots Q (F0 m (pc + 3) ls rest)) : W p l e R s m args below meth c H locs cells slots Q (F0 m pc ls (.int v :: .ref (q 0) :: rest)) :=
  pt_f X hI 0 rfl rfl utX5 tyX5 tyX5_ok nmX5 4 (by decide) lk_X5_limit rfl rfl rfl (Nat.le_of_ble_eq_true rfl) rfl hd kk
theorem lk_X5_resident : Cond.fieldLink RX5 16 RX5 (TX5 5).2.1 (TX5 5).2.2.1 ∈ tb := tb_in (List.mem_of_getElem? (i := 593) (by decide +kernel)) (by decide +kernel)
theorem g_X5_resident (X : CallFix p m c cc nL s args tb RX5) (hI : Inw D ty Fx (wM ty q σ) A s H locs) (hd : decode cc pc = .ok (.getfield 16, 3)) (kk : W p l e R s m args below meth c H locs cells slots Q (F0 m (pc + 3) ls (.ref (q 3) :: rest))) : W p l e R s m args below meth c H locs cells slots Q (F0 m pc ls (.ref (q 0) :: rest)) :=
  gt_f X hI 0 rfl rfl utX5 5 (by decide) lk_X5_resident rfl rfl hd kk
theorem lk_X5_called : Cond.fieldLink RX5 20 RX5 (TX5 6).2.1 (TX5 6).2.2.1 ∈ tb := tb_in (List.mem_of_getElem? (i := 594) (by decide +kernel)) (by decide +kernel)
theorem g_X5_called (X : CallFix p m c cc nL s args tb RX5) (hI : Inw D ty Fx (wM ty q σ) A s H locs) (hd : decode cc pc = .ok (.getfield 20, 3)) (kk : W p l e R s m args below meth c H locs cells slots Q (F0 m (pc + 3) ls (.ref (q 4) :: rest))) : W p l e R s m args below meth c H locs cells slots Q (F0 m pc ls (.ref (q 0) :: rest)) :=
  gt_f X hI 0 rfl rfl utX5 6 (by decide) lk_X5_called rfl rfl hd kk
theorem lk_X5_time : Cond.fieldLink RX5 88 RX5 (TX5 7).2.1 (TX5 7).2.2.1 ∈ tb := tb_in (List.mem_of_getElem? (i := 595) (by decide +kernel)) (by decide +kernel)
theorem g_X5_time (X : CallFix p m c cc nL s args tb RX5) (hI : Inw D ty Fx (wM ty q σ) A s H locs) {v : Int32} (hv : gI σ 3 = v) (hd : decode cc pc = .ok (.getfield 88, 3)) (kk : W p l e R s m args below meth c H locs cells slots Q (F0 m (pc + 3) ls (.int v :: rest))) : W p l e R s m args below meth c H locs cells slots Q (F0 m pc ls (.ref (q 0) :: rest)) := by
  subst hv
  exact gt_f X hI 0 rfl rfl utX5 7 (by decide) lk_X5_time rfl rfl hd kk
theorem p_X5_time (X : CallFix p m c cc nL s args tb RX5) (hI : Inw D ty Fx (wM ty q σ) A s H locs) {v : Int32} (hd : decode cc pc = .ok (.putfield 88, 3)) (kk : ∀ (H : Heap) (locs : List Loc), Inw D ty Fx (wM ty q (sI σ 3 v)) A s H locs → W p l e R s m args below meth c H locs cells slots Q (F0 m (pc + 3) ls rest)) : W p l e R s m args below meth c H locs cells slots Q (F0 m pc ls (.int v :: .ref (q 0) :: rest)) :=
  pt_f X hI 0 rfl rfl utX5 tyX5 tyX5_ok nmX5 7 (by decide) lk_X5_time rfl rfl rfl (Nat.le_of_ble_eq_true rfl) rfl hd kk
theorem lk_X5_most : Cond.fieldLink RX5 78 RX5 (TX5 8).2.1 (TX5 8).2.2.1 ∈ tb := tb_in (List.mem_of_getElem? (i := 596) (by decide +kernel)) (by decide +kernel)
theorem g_X5_most (X : CallFix p m c cc nL s args tb RX5) (hI : Inw D ty Fx (wM ty q σ) A s H locs) {v : Int32} (hv : gI σ 4 = v) (hd : decode cc pc = .ok (.getfield 78, 3)) (kk : W p l e R s m args below meth c H locs cells slots Q (F0 m (pc + 3) ls (.int v :: rest))) : W p l e R s m args below meth c H locs cells slots Q (F0 m pc ls (.ref (q 0) :: rest)) := by
  subst hv
  exact gt_f X hI 0 rfl rfl utX5 8 (by decide) lk_X5_most rfl rfl hd kk
theorem p_X5_most (X : CallFix p m c cc nL s args tb RX5) (hI : Inw D ty Fx (wM ty q σ) A s H locs) {v : Int32} (hd : decode cc pc = .ok (.putfield 78, 3)) (kk : ∀ (H : Heap) (locs : List Loc), Inw D ty Fx (wM ty q (sI σ 4 v)) A s H locs → W p l e R s m args below meth c H locs cells slots Q (F0 m (pc + 3) ls rest)) : W p l e R s m args below meth c H locs cells slots Q (F0 m pc ls (.int v :: .ref (q 0) :: rest)) :=
  pt_f X hI 0 rfl rfl utX5 tyX5 tyX5_ok nmX5 8 (by decide) lk_X5_most rfl rfl rfl (Nat.le_of_ble_eq_true rfl) rfl hd kk
theorem lk_X5_loads : Cond.fieldLink RX5 91 RX5 (TX5 9).2.1 (TX5 9).2.2.1 ∈ tb := tb_in (List.mem_of_getElem? (i := 597) (by decide +kernel)) (by decide +kernel)
theorem g_X5_loads (X : CallFix p m c cc nL s args tb RX5) (hI : Inw D ty Fx (wM ty q σ) A s H locs) {v : Int32} (hv : gI σ 5 = v) (hd : decode cc pc = .ok (.getfield 91, 3)) (kk : W p l e R s m args below meth c H locs cells slots Q (F0 m (pc + 3) ls (.int v :: rest))) : W p l e R s m args below meth c H locs cells slots Q (F0 m pc ls (.ref (q 0) :: rest)) := by
  subst hv
  exact gt_f X hI 0 rfl rfl utX5 9 (by decide) lk_X5_loads rfl rfl hd kk
theorem p_X5_loads (X : CallFix p m c cc nL s args tb RX5) (hI : Inw D ty Fx (wM ty q σ) A s H locs) {v : Int32} (hd : decode cc pc = .ok (.putfield 91, 3)) (kk : ∀ (H : Heap) (locs : List Loc), Inw D ty Fx (wM ty q (sI σ 5 v)) A s H locs → W p l e R s m args below meth c H locs cells slots Q (F0 m (pc + 3) ls rest)) : W p l e R s m args below meth c H locs cells slots Q (F0 m pc ls (.int v :: .ref (q 0) :: rest)) :=
  pt_f X hI 0 rfl rfl utX5 tyX5 tyX5_ok nmX5 9 (by decide) lk_X5_loads rfl rfl rfl (Nat.le_of_ble_eq_true rfl) rfl hd kk
theorem lk_X5_gone : Cond.fieldLink RX5 75 RX5 (TX5 10).2.1 (TX5 10).2.2.1 ∈ tb := tb_in (List.mem_of_getElem? (i := 598) (by decide +kernel)) (by decide +kernel)
theorem g_X5_gone (X : CallFix p m c cc nL s args tb RX5) (hI : Inw D ty Fx (wM ty q σ) A s H locs) {v : Int32} (hv : gI σ 6 = v) (hd : decode cc pc = .ok (.getfield 75, 3)) (kk : W p l e R s m args below meth c H locs cells slots Q (F0 m (pc + 3) ls (.int v :: rest))) : W p l e R s m args below meth c H locs cells slots Q (F0 m pc ls (.ref (q 0) :: rest)) := by
  subst hv
  exact gt_f X hI 0 rfl rfl utX5 10 (by decide) lk_X5_gone rfl rfl hd kk
theorem p_X5_gone (X : CallFix p m c cc nL s args tb RX5) (hI : Inw D ty Fx (wM ty q σ) A s H locs) {v : Int32} (hd : decode cc pc = .ok (.putfield 75, 3)) (kk : ∀ (H : Heap) (locs : List Loc), Inw D ty Fx (wM ty q (sI σ 6 v)) A s H locs → W p l e R s m args below meth c H locs cells slots Q (F0 m (pc + 3) ls rest)) : W p l e R s m args below meth c H locs cells slots Q (F0 m pc ls (.int v :: .ref (q 0) :: rest)) :=
  pt_f X hI 0 rfl rfl utX5 tyX5 tyX5_ok nmX5 10 (by decide) lk_X5_gone rfl rfl rfl (Nat.le_of_ble_eq_true rfl) rfl hd kk
theorem lk_X5_frames : Cond.fieldLink RX5 62 RX5 (TX5 11).2.1 (TX5 11).2.2.1 ∈ tb := tb_in (List.mem_of_getElem? (i := 599) (by decide +kernel)) (by decide +kernel)
theorem g_X5_frames (X : CallFix p m c cc nL s args tb RX5) (hI : Inw D ty Fx (wM ty q σ) A s H locs) {v : Int32} (hv : gI σ 7 = v) (hd : decode cc pc = .ok (.getfield 62, 3)) (kk : W p l e R s m args below meth c H locs cells slots Q (F0 m (pc + 3) ls (.int v :: rest))) : W p l e R s m args below meth c H locs cells slots Q (F0 m pc ls (.ref (q 0) :: rest)) := by
  subst hv
  exact gt_f X hI 0 rfl rfl utX5 11 (by decide) lk_X5_frames rfl rfl hd kk
theorem p_X5_frames (X : CallFix p m c cc nL s args tb RX5) (hI : Inw D ty Fx (wM ty q σ) A s H locs) {v : Int32} (hd : decode cc pc = .ok (.putfield 62, 3)) (kk : ∀ (H : Heap) (locs : List Loc), Inw D ty Fx (wM ty q (sI σ 7 v)) A s H locs → W p l e R s m args below meth c H locs cells slots Q (F0 m (pc + 3) ls rest)) : W p l e R s m args below meth c H locs cells slots Q (F0 m pc ls (.int v :: .ref (q 0) :: rest)) :=
  pt_f X hI 0 rfl rfl utX5 tyX5 tyX5_ok nmX5 11 (by decide) lk_X5_frames rfl rfl rfl (Nat.le_of_ble_eq_true rfl) rfl hd kk
theorem lk_X5_segment : Cond.fieldLink RX5 23 RX5 (TX5 12).2.1 (TX5 12).2.2.1 ∈ tb := tb_in (List.mem_of_getElem? (i := 600) (by decide +kernel)) (by decide +kernel)
theorem g_X5_segment (X : CallFix p m c cc nL s args tb RX5) (hI : Inw D ty Fx (wM ty q σ) A s H locs) (hd : decode cc pc = .ok (.getfield 23, 3)) (kk : W p l e R s m args below meth c H locs cells slots Q (F0 m (pc + 3) ls (.ref (q 5) :: rest))) : W p l e R s m args below meth c H locs cells slots Q (F0 m pc ls (.ref (q 0) :: rest)) :=
  gt_f X hI 0 rfl rfl utX5 12 (by decide) lk_X5_segment rfl rfl hd kk
theorem lk_X5_place : Cond.fieldLink RX5 26 RX5 (TX5 13).2.1 (TX5 13).2.2.1 ∈ tb := tb_in (List.mem_of_getElem? (i := 601) (by decide +kernel)) (by decide +kernel)
theorem g_X5_place (X : CallFix p m c cc nL s args tb RX5) (hI : Inw D ty Fx (wM ty q σ) A s H locs) (hd : decode cc pc = .ok (.getfield 26, 3)) (kk : W p l e R s m args below meth c H locs cells slots Q (F0 m (pc + 3) ls (.ref (q 6) :: rest))) : W p l e R s m args below meth c H locs cells slots Q (F0 m pc ls (.ref (q 0) :: rest)) :=
  gt_f X hI 0 rfl rfl utX5 13 (by decide) lk_X5_place rfl rfl hd kk
theorem lk_X5_locals : Cond.fieldLink RX5 29 RX5 (TX5 14).2.1 (TX5 14).2.2.1 ∈ tb := tb_in (List.mem_of_getElem? (i := 602) (by decide +kernel)) (by decide +kernel)
theorem g_X5_locals (X : CallFix p m c cc nL s args tb RX5) (hI : Inw D ty Fx (wM ty q σ) A s H locs) (hd : decode cc pc = .ok (.getfield 29, 3)) (kk : W p l e R s m args below meth c H locs cells slots Q (F0 m (pc + 3) ls (.ref (q 7) :: rest))) : W p l e R s m args below meth c H locs cells slots Q (F0 m pc ls (.ref (q 0) :: rest)) :=
  gt_f X hI 0 rfl rfl utX5 14 (by decide) lk_X5_locals rfl rfl hd kk
theorem lk_X5_local : Cond.fieldLink RX5 32 RX5 (TX5 15).2.1 (TX5 15).2.2.1 ∈ tb := tb_in (List.mem_of_getElem? (i := 603) (by decide +kernel)) (by decide +kernel)
theorem g_X5_local (X : CallFix p m c cc nL s args tb RX5) (hI : Inw D ty Fx (wM ty q σ) A s H locs) (hd : decode cc pc = .ok (.getfield 32, 3)) (kk : W p l e R s m args below meth c H locs cells slots Q (F0 m (pc + 3) ls (.ref (q 8) :: rest))) : W p l e R s m args below meth c H locs cells slots Q (F0 m pc ls (.ref (q 0) :: rest)) :=
  gt_f X hI 0 rfl rfl utX5 15 (by decide) lk_X5_local rfl rfl hd kk
theorem lk_X5_below : Cond.fieldLink RX5 35 RX5 (TX5 16).2.1 (TX5 16).2.2.1 ∈ tb := tb_in (List.mem_of_getElem? (i := 604) (by decide +kernel)) (by decide +kernel)
theorem g_X5_below (X : CallFix p m c cc nL s args tb RX5) (hI : Inw D ty Fx (wM ty q σ) A s H locs) (hd : decode cc pc = .ok (.getfield 35, 3)) (kk : W p l e R s m args below meth c H locs cells slots Q (F0 m (pc + 3) ls (.ref (q 9) :: rest))) : W p l e R s m args below meth c H locs cells slots Q (F0 m pc ls (.ref (q 0) :: rest)) :=
  gt_f X hI 0 rfl rfl utX5 16 (by decide) lk_X5_below rfl rfl hd kk
theorem lk_X5_numbers : Cond.fieldLink RX5 59 RX5 (TX5 17).2.1 (TX5 17).2.2.1 ∈ tb := tb_in (List.mem_of_getElem? (i := 605) (by decide +kernel)) (by decide +kernel)
theorem g_X5_numbers (X : CallFix p m c cc nL s args tb RX5) (hI : Inw D ty Fx (wM ty q σ) A s H locs) {v : Int32} (hv : gI σ 8 = v) (hd : decode cc pc = .ok (.getfield 59, 3)) (kk : W p l e R s m args below meth c H locs cells slots Q (F0 m (pc + 3) ls (.int v :: rest))) : W p l e R s m args below meth c H locs cells slots Q (F0 m pc ls (.ref (q 0) :: rest)) := by
  subst hv
  exact gt_f X hI 0 rfl rfl utX5 17 (by decide) lk_X5_numbers rfl rfl hd kk
theorem p_X5_numbers (X : CallFix p m c cc nL s args tb RX5) (hI : Inw D ty Fx (wM ty q σ) A s H locs) {v : Int32} (hd : decode cc pc = .ok (.putfield 59, 3)) (kk : ∀ (H : Heap) (locs : List Loc), Inw D ty Fx (wM ty q (sI σ 8 v)) A s H locs → W p l e R s m args below meth c H locs cells slots Q (F0 m (pc + 3) ls rest)) : W p l e R s m args below meth c H locs cells slots Q (F0 m pc ls (.int v :: .ref (q 0) :: rest)) :=
  pt_f X hI 0 rfl rfl utX5 tyX5 tyX5_ok nmX5 17 (by decide) lk_X5_numbers rfl rfl rfl (Nat.le_of_ble_eq_true rfl) rfl hd kk
theorem lk_X5_number : Cond.fieldLink RX5 38 RX5 (TX5 18).2.1 (TX5 18).2.2.1 ∈ tb := tb_in (List.mem_of_getElem? (i := 606) (by decide +kernel)) (by decide +kernel)
theorem g_X5_number (X : CallFix p m c cc nL s args tb RX5) (hI : Inw D ty Fx (wM ty q σ) A s H locs) (hd : decode cc pc = .ok (.getfield 38, 3)) (kk : W p l e R s m args below meth c H locs cells slots Q (F0 m (pc + 3) ls (.ref (q 10) :: rest))) : W p l e R s m args below meth c H locs cells slots Q (F0 m pc ls (.ref (q 0) :: rest)) :=
  gt_f X hI 0 rfl rfl utX5 18 (by decide) lk_X5_number rfl rfl hd kk
theorem lk_X5_result : Cond.fieldLink RX5 94 RX5 (TX5 19).2.1 (TX5 19).2.2.1 ∈ tb := tb_in (List.mem_of_getElem? (i := 607) (by decide +kernel)) (by decide +kernel)
theorem g_X5_result (X : CallFix p m c cc nL s args tb RX5) (hI : Inw D ty Fx (wM ty q σ) A s H locs) {v : Int32} (hv : gI σ 9 = v) (hd : decode cc pc = .ok (.getfield 94, 3)) (kk : W p l e R s m args below meth c H locs cells slots Q (F0 m (pc + 3) ls (.int v :: rest))) : W p l e R s m args below meth c H locs cells slots Q (F0 m pc ls (.ref (q 0) :: rest)) := by
  subst hv
  exact gt_f X hI 0 rfl rfl utX5 19 (by decide) lk_X5_result rfl rfl hd kk
theorem p_X5_result (X : CallFix p m c cc nL s args tb RX5) (hI : Inw D ty Fx (wM ty q σ) A s H locs) {v : Int32} (hd : decode cc pc = .ok (.putfield 94, 3)) (kk : ∀ (H : Heap) (locs : List Loc), Inw D ty Fx (wM ty q (sI σ 9 v)) A s H locs → W p l e R s m args below meth c H locs cells slots Q (F0 m (pc + 3) ls rest)) : W p l e R s m args below meth c H locs cells slots Q (F0 m pc ls (.int v :: .ref (q 0) :: rest)) :=
  pt_f X hI 0 rfl rfl utX5 tyX5 tyX5_ok nmX5 19 (by decide) lk_X5_result rfl rfl rfl (Nat.le_of_ble_eq_true rfl) rfl hd kk
theorem lk_X5_puts : Cond.fieldLink RX5 97 RX5 (TX5 20).2.1 (TX5 20).2.2.1 ∈ tb := tb_in (List.mem_of_getElem? (i := 608) (by decide +kernel)) (by decide +kernel)
theorem g_X5_puts (X : CallFix p m c cc nL s args tb RX5) (hI : Inw D ty Fx (wM ty q σ) A s H locs) {v : Int32} (hv : gI σ 10 = v) (hd : decode cc pc = .ok (.getfield 97, 3)) (kk : W p l e R s m args below meth c H locs cells slots Q (F0 m (pc + 3) ls (.int v :: rest))) : W p l e R s m args below meth c H locs cells slots Q (F0 m pc ls (.ref (q 0) :: rest)) := by
  subst hv
  exact gt_f X hI 0 rfl rfl utX5 20 (by decide) lk_X5_puts rfl rfl hd kk
theorem p_X5_puts (X : CallFix p m c cc nL s args tb RX5) (hI : Inw D ty Fx (wM ty q σ) A s H locs) {v : Int32} (hd : decode cc pc = .ok (.putfield 97, 3)) (kk : ∀ (H : Heap) (locs : List Loc), Inw D ty Fx (wM ty q (sI σ 10 v)) A s H locs → W p l e R s m args below meth c H locs cells slots Q (F0 m (pc + 3) ls rest)) : W p l e R s m args below meth c H locs cells slots Q (F0 m pc ls (.int v :: .ref (q 0) :: rest)) :=
  pt_f X hI 0 rfl rfl utX5 tyX5 tyX5_ok nmX5 20 (by decide) lk_X5_puts rfl rfl rfl (Nat.le_of_ble_eq_true rfl) rfl hd kk
theorem lk_X5_put : Cond.fieldLink RX5 41 RX5 (TX5 21).2.1 (TX5 21).2.2.1 ∈ tb := tb_in (List.mem_of_getElem? (i := 609) (by decide +kernel)) (by decide +kernel)
theorem g_X5_put (X : CallFix p m c cc nL s args tb RX5) (hI : Inw D ty Fx (wM ty q σ) A s H locs) (hd : decode cc pc = .ok (.getfield 41, 3)) (kk : W p l e R s m args below meth c H locs cells slots Q (F0 m (pc + 3) ls (.ref (q 11) :: rest))) : W p l e R s m args below meth c H locs cells slots Q (F0 m pc ls (.ref (q 0) :: rest)) :=
  gt_f X hI 0 rfl rfl utX5 21 (by decide) lk_X5_put rfl rfl hd kk
theorem aC_0 (X : CallFix p m c cc nL s args tb own) (hI : Inw D ty Fx (wC ty q σ) A s H locs) {j v : Int32} (hv : gA σ 0 j = v) (hin : vp_in j 5) (hd : decode cc pc = .ok (.iaload, 1)) (kk : W p l e R s m args below meth c H locs cells slots Q (F0 m (pc + 1) ls (.int v :: rest))) : W p l e R s m args below meth c H locs cells slots Q (F0 m pc ls (.int j :: .ref (q 6) :: rest)) := by
  subst hv
  exact ra_i X hI 6 rfl hin hd kk
theorem sC_0 (X : CallFix p m c cc nL s args tb own) (hI : Inw D ty Fx (wC ty q σ) A s H locs) {j v : Int32} (hin : vp_in j 5) (hd : decode cc pc = .ok (.iastore, 1)) (kk : ∀ (H : Heap) (locs : List Loc), Inw D ty Fx (wC ty q (sA σ 0 j v)) A s H locs → W p l e R s m args below meth c H locs cells slots Q (F0 m (pc + 1) ls rest)) : W p l e R s m args below meth c H locs cells slots Q (F0 m pc ls (.int v :: .int j :: .ref (q 6) :: rest)) :=
  wa_i X hI 6 rfl hin rfl hd kk
theorem aC_1 (X : CallFix p m c cc nL s args tb own) (hI : Inw D ty Fx (wC ty q σ) A s H locs) {j v : Int32} (hv : gA σ 1 j = v) (hin : vp_in j 40) (hd : decode cc pc = .ok (.iaload, 1)) (kk : W p l e R s m args below meth c H locs cells slots Q (F0 m (pc + 1) ls (.int v :: rest))) : W p l e R s m args below meth c H locs cells slots Q (F0 m pc ls (.int j :: .ref (q 7) :: rest)) := by
  subst hv
  exact ra_i X hI 7 rfl hin hd kk
theorem sC_1 (X : CallFix p m c cc nL s args tb own) (hI : Inw D ty Fx (wC ty q σ) A s H locs) {j v : Int32} (hin : vp_in j 40) (hd : decode cc pc = .ok (.iastore, 1)) (kk : ∀ (H : Heap) (locs : List Loc), Inw D ty Fx (wC ty q (sA σ 1 j v)) A s H locs → W p l e R s m args below meth c H locs cells slots Q (F0 m (pc + 1) ls rest)) : W p l e R s m args below meth c H locs cells slots Q (F0 m pc ls (.int v :: .int j :: .ref (q 7) :: rest)) :=
  wa_i X hI 7 rfl hin rfl hd kk
theorem aC_2 (X : CallFix p m c cc nL s args tb own) (hI : Inw D ty Fx (wC ty q σ) A s H locs) {j v : Int32} (hv : gA σ 2 j = v) (hin : vp_in j 5) (hd : decode cc pc = .ok (.iaload, 1)) (kk : W p l e R s m args below meth c H locs cells slots Q (F0 m (pc + 1) ls (.int v :: rest))) : W p l e R s m args below meth c H locs cells slots Q (F0 m pc ls (.int j :: .ref (q 8) :: rest)) := by
  subst hv
  exact ra_i X hI 8 rfl hin hd kk
theorem sC_2 (X : CallFix p m c cc nL s args tb own) (hI : Inw D ty Fx (wC ty q σ) A s H locs) {j v : Int32} (hin : vp_in j 5) (hd : decode cc pc = .ok (.iastore, 1)) (kk : ∀ (H : Heap) (locs : List Loc), Inw D ty Fx (wC ty q (sA σ 2 j v)) A s H locs → W p l e R s m args below meth c H locs cells slots Q (F0 m (pc + 1) ls rest)) : W p l e R s m args below meth c H locs cells slots Q (F0 m pc ls (.int v :: .int j :: .ref (q 8) :: rest)) :=
  wa_i X hI 8 rfl hin rfl hd kk
theorem aC_3 (X : CallFix p m c cc nL s args tb own) (hI : Inw D ty Fx (wC ty q σ) A s H locs) {j v : Int32} (hv : gA σ 3 j = v) (hin : vp_in j 5) (hd : decode cc pc = .ok (.iaload, 1)) (kk : W p l e R s m args below meth c H locs cells slots Q (F0 m (pc + 1) ls (.int v :: rest))) : W p l e R s m args below meth c H locs cells slots Q (F0 m pc ls (.int j :: .ref (q 9) :: rest)) := by
  subst hv
  exact ra_i X hI 9 rfl hin hd kk
theorem sC_3 (X : CallFix p m c cc nL s args tb own) (hI : Inw D ty Fx (wC ty q σ) A s H locs) {j v : Int32} (hin : vp_in j 5) (hd : decode cc pc = .ok (.iastore, 1)) (kk : ∀ (H : Heap) (locs : List Loc), Inw D ty Fx (wC ty q (sA σ 3 j v)) A s H locs → W p l e R s m args below meth c H locs cells slots Q (F0 m (pc + 1) ls rest)) : W p l e R s m args below meth c H locs cells slots Q (F0 m pc ls (.int v :: .int j :: .ref (q 9) :: rest)) :=
  wa_i X hI 9 rfl hin rfl hd kk
theorem aC_4 (X : CallFix p m c cc nL s args tb own) (hI : Inw D ty Fx (wC ty q σ) A s H locs) {j v : Int32} (hv : gA σ 4 j = v) (hin : vp_in j 5) (hd : decode cc pc = .ok (.iaload, 1)) (kk : W p l e R s m args below meth c H locs cells slots Q (F0 m (pc + 1) ls (.int v :: rest))) : W p l e R s m args below meth c H locs cells slots Q (F0 m pc ls (.int j :: .ref (q 10) :: rest)) := by
  subst hv
  exact ra_i X hI 10 rfl hin hd kk
theorem sC_4 (X : CallFix p m c cc nL s args tb own) (hI : Inw D ty Fx (wC ty q σ) A s H locs) {j v : Int32} (hin : vp_in j 5) (hd : decode cc pc = .ok (.iastore, 1)) (kk : ∀ (H : Heap) (locs : List Loc), Inw D ty Fx (wC ty q (sA σ 4 j v)) A s H locs → W p l e R s m args below meth c H locs cells slots Q (F0 m (pc + 1) ls rest)) : W p l e R s m args below meth c H locs cells slots Q (F0 m pc ls (.int v :: .int j :: .ref (q 10) :: rest)) :=
  wa_i X hI 10 rfl hin rfl hd kk
theorem aC_5 (X : CallFix p m c cc nL s args tb own) (hI : Inw D ty Fx (wC ty q σ) A s H locs) {j v : Int32} (hv : gA σ 5 j = v) (hin : vp_in j 500) (hd : decode cc pc = .ok (.iaload, 1)) (kk : W p l e R s m args below meth c H locs cells slots Q (F0 m (pc + 1) ls (.int v :: rest))) : W p l e R s m args below meth c H locs cells slots Q (F0 m pc ls (.int j :: .ref (q 11) :: rest)) := by
  subst hv
  exact ra_i X hI 11 rfl hin hd kk
theorem sC_5 (X : CallFix p m c cc nL s args tb own) (hI : Inw D ty Fx (wC ty q σ) A s H locs) {j v : Int32} (hin : vp_in j 500) (hd : decode cc pc = .ok (.iastore, 1)) (kk : ∀ (H : Heap) (locs : List Loc), Inw D ty Fx (wC ty q (sA σ 5 j v)) A s H locs → W p l e R s m args below meth c H locs cells slots Q (F0 m (pc + 1) ls rest)) : W p l e R s m args below meth c H locs cells slots Q (F0 m pc ls (.int v :: .int j :: .ref (q 11) :: rest)) :=
  wa_i X hI 11 rfl hin rfl hd kk
theorem aC_6 (X : CallFix p m c cc nL s args tb own) (hI : Inw D ty Fx (wC ty q σ) A s H locs) {j v : Int32} (hv : gA σ 6 j = v) (hin : vp_in j 500) (hd : decode cc pc = .ok (.iaload, 1)) (kk : W p l e R s m args below meth c H locs cells slots Q (F0 m (pc + 1) ls (.int v :: rest))) : W p l e R s m args below meth c H locs cells slots Q (F0 m pc ls (.int j :: .ref (q 12) :: rest)) := by
  subst hv
  exact ra_i X hI 12 rfl hin hd kk
theorem sC_6 (X : CallFix p m c cc nL s args tb own) (hI : Inw D ty Fx (wC ty q σ) A s H locs) {j v : Int32} (hin : vp_in j 500) (hd : decode cc pc = .ok (.iastore, 1)) (kk : ∀ (H : Heap) (locs : List Loc), Inw D ty Fx (wC ty q (sA σ 6 j v)) A s H locs → W p l e R s m args below meth c H locs cells slots Q (F0 m (pc + 1) ls rest)) : W p l e R s m args below meth c H locs cells slots Q (F0 m pc ls (.int v :: .int j :: .ref (q 12) :: rest)) :=
  wa_i X hI 12 rfl hin rfl hd kk
theorem aC_7 (X : CallFix p m c cc nL s args tb own) (hI : Inw D ty Fx (wC ty q σ) A s H locs) {j v : Int32} (hv : gA σ 7 j = v) (hin : vp_in j 500) (hd : decode cc pc = .ok (.iaload, 1)) (kk : W p l e R s m args below meth c H locs cells slots Q (F0 m (pc + 1) ls (.int v :: rest))) : W p l e R s m args below meth c H locs cells slots Q (F0 m pc ls (.int j :: .ref (q 13) :: rest)) := by
  subst hv
  exact ra_i X hI 13 rfl hin hd kk
theorem sC_7 (X : CallFix p m c cc nL s args tb own) (hI : Inw D ty Fx (wC ty q σ) A s H locs) {j v : Int32} (hin : vp_in j 500) (hd : decode cc pc = .ok (.iastore, 1)) (kk : ∀ (H : Heap) (locs : List Loc), Inw D ty Fx (wC ty q (sA σ 7 j v)) A s H locs → W p l e R s m args below meth c H locs cells slots Q (F0 m (pc + 1) ls rest)) : W p l e R s m args below meth c H locs cells slots Q (F0 m pc ls (.int v :: .int j :: .ref (q 13) :: rest)) :=
  wa_i X hI 13 rfl hin rfl hd kk
theorem aC_8 (X : CallFix p m c cc nL s args tb own) (hI : Inw D ty Fx (wC ty q σ) A s H locs) {j v : Int32} (hv : gA σ 8 j = v) (hin : vp_in j 500) (hd : decode cc pc = .ok (.iaload, 1)) (kk : W p l e R s m args below meth c H locs cells slots Q (F0 m (pc + 1) ls (.int v :: rest))) : W p l e R s m args below meth c H locs cells slots Q (F0 m pc ls (.int j :: .ref (q 14) :: rest)) := by
  subst hv
  exact ra_i X hI 14 rfl hin hd kk
theorem sC_8 (X : CallFix p m c cc nL s args tb own) (hI : Inw D ty Fx (wC ty q σ) A s H locs) {j v : Int32} (hin : vp_in j 500) (hd : decode cc pc = .ok (.iastore, 1)) (kk : ∀ (H : Heap) (locs : List Loc), Inw D ty Fx (wC ty q (sA σ 8 j v)) A s H locs → W p l e R s m args below meth c H locs cells slots Q (F0 m (pc + 1) ls rest)) : W p l e R s m args below meth c H locs cells slots Q (F0 m pc ls (.int v :: .int j :: .ref (q 14) :: rest)) :=
  wa_i X hI 14 rfl hin rfl hd kk
theorem aC_9 (X : CallFix p m c cc nL s args tb own) (hI : Inw D ty Fx (wC ty q σ) A s H locs) {j v : Int32} (hv : gA σ 9 j = v) (hin : vp_in j 1000) (hd : decode cc pc = .ok (.iaload, 1)) (kk : W p l e R s m args below meth c H locs cells slots Q (F0 m (pc + 1) ls (.int v :: rest))) : W p l e R s m args below meth c H locs cells slots Q (F0 m pc ls (.int j :: .ref (q 15) :: rest)) := by
  subst hv
  exact ra_i X hI 15 rfl hin hd kk
theorem sC_9 (X : CallFix p m c cc nL s args tb own) (hI : Inw D ty Fx (wC ty q σ) A s H locs) {j v : Int32} (hin : vp_in j 1000) (hd : decode cc pc = .ok (.iastore, 1)) (kk : ∀ (H : Heap) (locs : List Loc), Inw D ty Fx (wC ty q (sA σ 9 j v)) A s H locs → W p l e R s m args below meth c H locs cells slots Q (F0 m (pc + 1) ls rest)) : W p l e R s m args below meth c H locs cells slots Q (F0 m pc ls (.int v :: .int j :: .ref (q 15) :: rest)) :=
  wa_i X hI 15 rfl hin rfl hd kk
theorem aM_0 (X : CallFix p m c cc nL s args tb own) (hI : Inw D ty Fx (wM ty q σ) A s H locs) {j v : Int32} (hv : gA σ 0 j = v) (hin : vp_in j 400) (hd : decode cc pc = .ok (.iaload, 1)) (kk : W p l e R s m args below meth c H locs cells slots Q (F0 m (pc + 1) ls (.int v :: rest))) : W p l e R s m args below meth c H locs cells slots Q (F0 m pc ls (.int j :: .ref (q 1) :: rest)) := by
  subst hv
  exact ra_i X hI 1 rfl hin hd kk
theorem sM_0 (X : CallFix p m c cc nL s args tb own) (hI : Inw D ty Fx (wM ty q σ) A s H locs) {j v : Int32} (hin : vp_in j 400) (hd : decode cc pc = .ok (.iastore, 1)) (kk : ∀ (H : Heap) (locs : List Loc), Inw D ty Fx (wM ty q (sA σ 0 j v)) A s H locs → W p l e R s m args below meth c H locs cells slots Q (F0 m (pc + 1) ls rest)) : W p l e R s m args below meth c H locs cells slots Q (F0 m pc ls (.int v :: .int j :: .ref (q 1) :: rest)) :=
  wa_i X hI 1 rfl hin rfl hd kk
theorem aM_1 (X : CallFix p m c cc nL s args tb own) (hI : Inw D ty Fx (wM ty q σ) A s H locs) {j v : Int32} (hv : gA σ 1 j = v) (hin : vp_in j 5) (hd : decode cc pc = .ok (.iaload, 1)) (kk : W p l e R s m args below meth c H locs cells slots Q (F0 m (pc + 1) ls (.int v :: rest))) : W p l e R s m args below meth c H locs cells slots Q (F0 m pc ls (.int j :: .ref (q 2) :: rest)) := by
  subst hv
  exact ra_i X hI 2 rfl hin hd kk
theorem sM_1 (X : CallFix p m c cc nL s args tb own) (hI : Inw D ty Fx (wM ty q σ) A s H locs) {j v : Int32} (hin : vp_in j 5) (hd : decode cc pc = .ok (.iastore, 1)) (kk : ∀ (H : Heap) (locs : List Loc), Inw D ty Fx (wM ty q (sA σ 1 j v)) A s H locs → W p l e R s m args below meth c H locs cells slots Q (F0 m (pc + 1) ls rest)) : W p l e R s m args below meth c H locs cells slots Q (F0 m pc ls (.int v :: .int j :: .ref (q 2) :: rest)) :=
  wa_i X hI 2 rfl hin rfl hd kk
theorem aM_2 (X : CallFix p m c cc nL s args tb own) (hI : Inw D ty Fx (wM ty q σ) A s H locs) {j v : Int32} (hv : gA σ 2 j = v) (hin : vp_in j 5) (hd : decode cc pc = .ok (.baload, 1)) (kk : W p l e R s m args below meth c H locs cells slots Q (F0 m (pc + 1) ls (.int v :: rest))) : W p l e R s m args below meth c H locs cells slots Q (F0 m pc ls (.int j :: .ref (q 3) :: rest)) := by
  subst hv
  exact ra_z X hI 3 rfl hin hd kk
theorem sM_2 (X : CallFix p m c cc nL s args tb own) (hI : Inw D ty Fx (wM ty q σ) A s H locs) {j v : Int32} (hin : vp_in j 5) (hd : decode cc pc = .ok (.bastore, 1)) (kk : ∀ (H : Heap) (locs : List Loc), Inw D ty Fx (wM ty q (sA σ 2 j (vp_nar .boolean v))) A s H locs → W p l e R s m args below meth c H locs cells slots Q (F0 m (pc + 1) ls rest)) : W p l e R s m args below meth c H locs cells slots Q (F0 m pc ls (.int v :: .int j :: .ref (q 3) :: rest)) :=
  wa_z X hI 3 rfl hin rfl hd kk
theorem aM_3 (X : CallFix p m c cc nL s args tb own) (hI : Inw D ty Fx (wM ty q σ) A s H locs) {j v : Int32} (hv : gA σ 3 j = v) (hin : vp_in j 5) (hd : decode cc pc = .ok (.iaload, 1)) (kk : W p l e R s m args below meth c H locs cells slots Q (F0 m (pc + 1) ls (.int v :: rest))) : W p l e R s m args below meth c H locs cells slots Q (F0 m pc ls (.int j :: .ref (q 4) :: rest)) := by
  subst hv
  exact ra_i X hI 4 rfl hin hd kk
theorem sM_3 (X : CallFix p m c cc nL s args tb own) (hI : Inw D ty Fx (wM ty q σ) A s H locs) {j v : Int32} (hin : vp_in j 5) (hd : decode cc pc = .ok (.iastore, 1)) (kk : ∀ (H : Heap) (locs : List Loc), Inw D ty Fx (wM ty q (sA σ 3 j v)) A s H locs → W p l e R s m args below meth c H locs cells slots Q (F0 m (pc + 1) ls rest)) : W p l e R s m args below meth c H locs cells slots Q (F0 m pc ls (.int v :: .int j :: .ref (q 4) :: rest)) :=
  wa_i X hI 4 rfl hin rfl hd kk
theorem aM_4 (X : CallFix p m c cc nL s args tb own) (hI : Inw D ty Fx (wM ty q σ) A s H locs) {j v : Int32} (hv : gA σ 4 j = v) (hin : vp_in j 520) (hd : decode cc pc = .ok (.iaload, 1)) (kk : W p l e R s m args below meth c H locs cells slots Q (F0 m (pc + 1) ls (.int v :: rest))) : W p l e R s m args below meth c H locs cells slots Q (F0 m pc ls (.int j :: .ref (q 5) :: rest)) := by
  subst hv
  exact ra_i X hI 5 rfl hin hd kk
theorem sM_4 (X : CallFix p m c cc nL s args tb own) (hI : Inw D ty Fx (wM ty q σ) A s H locs) {j v : Int32} (hin : vp_in j 520) (hd : decode cc pc = .ok (.iastore, 1)) (kk : ∀ (H : Heap) (locs : List Loc), Inw D ty Fx (wM ty q (sA σ 4 j v)) A s H locs → W p l e R s m args below meth c H locs cells slots Q (F0 m (pc + 1) ls rest)) : W p l e R s m args below meth c H locs cells slots Q (F0 m pc ls (.int v :: .int j :: .ref (q 5) :: rest)) :=
  wa_i X hI 5 rfl hin rfl hd kk
theorem aM_5 (X : CallFix p m c cc nL s args tb own) (hI : Inw D ty Fx (wM ty q σ) A s H locs) {j v : Int32} (hv : gA σ 5 j = v) (hin : vp_in j 520) (hd : decode cc pc = .ok (.iaload, 1)) (kk : W p l e R s m args below meth c H locs cells slots Q (F0 m (pc + 1) ls (.int v :: rest))) : W p l e R s m args below meth c H locs cells slots Q (F0 m pc ls (.int j :: .ref (q 6) :: rest)) := by
  subst hv
  exact ra_i X hI 6 rfl hin hd kk
theorem sM_5 (X : CallFix p m c cc nL s args tb own) (hI : Inw D ty Fx (wM ty q σ) A s H locs) {j v : Int32} (hin : vp_in j 520) (hd : decode cc pc = .ok (.iastore, 1)) (kk : ∀ (H : Heap) (locs : List Loc), Inw D ty Fx (wM ty q (sA σ 5 j v)) A s H locs → W p l e R s m args below meth c H locs cells slots Q (F0 m (pc + 1) ls rest)) : W p l e R s m args below meth c H locs cells slots Q (F0 m pc ls (.int v :: .int j :: .ref (q 6) :: rest)) :=
  wa_i X hI 6 rfl hin rfl hd kk
theorem aM_6 (X : CallFix p m c cc nL s args tb own) (hI : Inw D ty Fx (wM ty q σ) A s H locs) {j v : Int32} (hv : gA σ 6 j = v) (hin : vp_in j 520) (hd : decode cc pc = .ok (.iaload, 1)) (kk : W p l e R s m args below meth c H locs cells slots Q (F0 m (pc + 1) ls (.int v :: rest))) : W p l e R s m args below meth c H locs cells slots Q (F0 m pc ls (.int j :: .ref (q 7) :: rest)) := by
  subst hv
  exact ra_i X hI 7 rfl hin hd kk
theorem sM_6 (X : CallFix p m c cc nL s args tb own) (hI : Inw D ty Fx (wM ty q σ) A s H locs) {j v : Int32} (hin : vp_in j 520) (hd : decode cc pc = .ok (.iastore, 1)) (kk : ∀ (H : Heap) (locs : List Loc), Inw D ty Fx (wM ty q (sA σ 6 j v)) A s H locs → W p l e R s m args below meth c H locs cells slots Q (F0 m (pc + 1) ls rest)) : W p l e R s m args below meth c H locs cells slots Q (F0 m pc ls (.int v :: .int j :: .ref (q 7) :: rest)) :=
  wa_i X hI 7 rfl hin rfl hd kk
theorem aM_7 (X : CallFix p m c cc nL s args tb own) (hI : Inw D ty Fx (wM ty q σ) A s H locs) {j v : Int32} (hv : gA σ 7 j = v) (hin : vp_in j 3120) (hd : decode cc pc = .ok (.iaload, 1)) (kk : W p l e R s m args below meth c H locs cells slots Q (F0 m (pc + 1) ls (.int v :: rest))) : W p l e R s m args below meth c H locs cells slots Q (F0 m pc ls (.int j :: .ref (q 8) :: rest)) := by
  subst hv
  exact ra_i X hI 8 rfl hin hd kk
theorem sM_7 (X : CallFix p m c cc nL s args tb own) (hI : Inw D ty Fx (wM ty q σ) A s H locs) {j v : Int32} (hin : vp_in j 3120) (hd : decode cc pc = .ok (.iastore, 1)) (kk : ∀ (H : Heap) (locs : List Loc), Inw D ty Fx (wM ty q (sA σ 7 j v)) A s H locs → W p l e R s m args below meth c H locs cells slots Q (F0 m (pc + 1) ls rest)) : W p l e R s m args below meth c H locs cells slots Q (F0 m pc ls (.int v :: .int j :: .ref (q 8) :: rest)) :=
  wa_i X hI 8 rfl hin rfl hd kk
theorem aM_8 (X : CallFix p m c cc nL s args tb own) (hI : Inw D ty Fx (wM ty q σ) A s H locs) {j v : Int32} (hv : gA σ 8 j = v) (hin : vp_in j 520) (hd : decode cc pc = .ok (.iaload, 1)) (kk : W p l e R s m args below meth c H locs cells slots Q (F0 m (pc + 1) ls (.int v :: rest))) : W p l e R s m args below meth c H locs cells slots Q (F0 m pc ls (.int j :: .ref (q 9) :: rest)) := by
  subst hv
  exact ra_i X hI 9 rfl hin hd kk
theorem sM_8 (X : CallFix p m c cc nL s args tb own) (hI : Inw D ty Fx (wM ty q σ) A s H locs) {j v : Int32} (hin : vp_in j 520) (hd : decode cc pc = .ok (.iastore, 1)) (kk : ∀ (H : Heap) (locs : List Loc), Inw D ty Fx (wM ty q (sA σ 8 j v)) A s H locs → W p l e R s m args below meth c H locs cells slots Q (F0 m (pc + 1) ls rest)) : W p l e R s m args below meth c H locs cells slots Q (F0 m pc ls (.int v :: .int j :: .ref (q 9) :: rest)) :=
  wa_i X hI 9 rfl hin rfl hd kk
theorem aM_9 (X : CallFix p m c cc nL s args tb own) (hI : Inw D ty Fx (wM ty q σ) A s H locs) {j v : Int32} (hv : gA σ 9 j = v) (hin : vp_in j 1010) (hd : decode cc pc = .ok (.iaload, 1)) (kk : W p l e R s m args below meth c H locs cells slots Q (F0 m (pc + 1) ls (.int v :: rest))) : W p l e R s m args below meth c H locs cells slots Q (F0 m pc ls (.int j :: .ref (q 10) :: rest)) := by
  subst hv
  exact ra_i X hI 10 rfl hin hd kk
theorem sM_9 (X : CallFix p m c cc nL s args tb own) (hI : Inw D ty Fx (wM ty q σ) A s H locs) {j v : Int32} (hin : vp_in j 1010) (hd : decode cc pc = .ok (.iastore, 1)) (kk : ∀ (H : Heap) (locs : List Loc), Inw D ty Fx (wM ty q (sA σ 9 j v)) A s H locs → W p l e R s m args below meth c H locs cells slots Q (F0 m (pc + 1) ls rest)) : W p l e R s m args below meth c H locs cells slots Q (F0 m pc ls (.int v :: .int j :: .ref (q 10) :: rest)) :=
  wa_i X hI 10 rfl hin rfl hd kk
theorem aM_10 (X : CallFix p m c cc nL s args tb own) (hI : Inw D ty Fx (wM ty q σ) A s H locs) {j v : Int32} (hv : gA σ 10 j = v) (hin : vp_in j 40) (hd : decode cc pc = .ok (.iaload, 1)) (kk : W p l e R s m args below meth c H locs cells slots Q (F0 m (pc + 1) ls (.int v :: rest))) : W p l e R s m args below meth c H locs cells slots Q (F0 m pc ls (.int j :: .ref (q 11) :: rest)) := by
  subst hv
  exact ra_i X hI 11 rfl hin hd kk
theorem sM_10 (X : CallFix p m c cc nL s args tb own) (hI : Inw D ty Fx (wM ty q σ) A s H locs) {j v : Int32} (hin : vp_in j 40) (hd : decode cc pc = .ok (.iastore, 1)) (kk : ∀ (H : Heap) (locs : List Loc), Inw D ty Fx (wM ty q (sA σ 10 j v)) A s H locs → W p l e R s m args below meth c H locs cells slots Q (F0 m (pc + 1) ls rest)) : W p l e R s m args below meth c H locs cells slots Q (F0 m pc ls (.int v :: .int j :: .ref (q 11) :: rest)) :=
  wa_i X hI 11 rfl hin rfl hd kk
theorem wC_row {k : Nat} (hk : k < 5) : (wC ty q σ)[16 + k]? = some (q (16 + k), .inl (ty 1, 80, .inl (σ.2 (10 + k)))) := by
  match k, hk with
  | 0, _ => rfl
  | 1, _ => rfl
  | 2, _ => rfl
  | 3, _ => rfl
  | 4, _ => rfl
theorem wC_rowS {k : Nat} (hk : k < 5) (i : Nat) (v : Int32) (j : Int32) (hj : j.toNatClampNeg = i) : (wC ty q σ).set (16 + k) (q (16 + k), .inl (ty 1, 80, .inl (upd (σ.2 (10 + k)) i v))) = wC ty q (sA σ (10 + k) j v) := by
  subst hj
  match k, hk with
  | 0, _ => rfl
  | 1, _ => rfl
  | 2, _ => rfl
  | 3, _ => rfl
  | 4, _ => rfl
theorem aC_row (X : CallFix p m c cc nL s args tb own) (hI : Inw D ty Fx (wC ty q σ) A s H locs) {j : Int32} (hin : vp_in j 5) (hd : decode cc pc = .ok (.aaload, 1)) (kk : W p l e R s m args below meth c H locs cells slots Q (F0 m (pc + 1) ls (.ref (q (16 + j.toNatClampNeg)) :: rest))) : W p l e R s m args below meth c H locs cells slots Q (F0 m pc ls (.int j :: .ref (q 5) :: rest)) := by
  have hlt : j.toNatClampNeg < 5 := Nat.not_le.mp fun q => hin (Or.inr q)
  exact ra_q X hI 5 rfl hin (a2 := q (16 + j.toNatClampNeg)) (if_pos hlt) hd kk
theorem aC_byte (X : CallFix p m c cc nL s args tb own) (hI : Inw D ty Fx (wC ty q σ) A s H locs) {i j v : Int32} (hr : vp_in i 5) (hv : gA σ (10 + i.toNatClampNeg) j = v) (hin : vp_in j 80) (hd : decode cc pc = .ok (.baload, 1)) (kk : W p l e R s m args below meth c H locs cells slots Q (F0 m (pc + 1) ls (.int v :: rest))) : W p l e R s m args below meth c H locs cells slots Q (F0 m pc ls (.int j :: .ref (q (16 + i.toNatClampNeg)) :: rest)) := by
  subst hv
  have hlt : i.toNatClampNeg < 5 := Nat.not_le.mp fun q => hr (Or.inr q)
  exact ra_b X hI _ (wC_row hlt) hin hd kk
theorem sC_byte (X : CallFix p m c cc nL s args tb own) (hI : Inw D ty Fx (wC ty q σ) A s H locs) {i j v : Int32} (hr : vp_in i 5) (hin : vp_in j 80) (hd : decode cc pc = .ok (.bastore, 1)) (kk : ∀ (H : Heap) (locs : List Loc), Inw D ty Fx (wC ty q (sA σ (10 + i.toNatClampNeg) j (vp_nar .byte v))) A s H locs → W p l e R s m args below meth c H locs cells slots Q (F0 m (pc + 1) ls rest)) : W p l e R s m args below meth c H locs cells slots Q (F0 m pc ls (.int v :: .int j :: .ref (q (16 + i.toNatClampNeg)) :: rest)) := by
  have hlt : i.toNatClampNeg < 5 := Nat.not_le.mp fun q => hr (Or.inr q)
  exact wa_b X hI _ (wC_row hlt) hin (wC_rowS hlt _ _ j rfl) hd kk
theorem lk_X3_LENGTHS : Cond.fieldLink RX3 104 RX3 "LENGTHS" "[I" ∈ tb := tb_in (List.mem_of_getElem? (i := 431) (by decide +kernel)) (by decide +kernel)
theorem g_X3_LENGTHS (X : CallFix p m c cc nL s args tb RX3) (hI : Inw D ty (FxC q) (wC ty q σ) A s H locs) (hd : decode cc pc = .ok (.getstatic 104, 3)) (kk : W p l e R s m args below meth c H locs cells slots Q (F0 m (pc + 3) ls (.ref (q 21) :: rest))) : W p l e R s m args below meth c H locs cells slots Q (F0 m pc ls rest) :=
  va_gets X.1 X.2.1 hI.2.2.2.2.2.1 hI.2.2.2.1 X.2.2.2.1 (X.2.2.2.2 _ lk_X3_LENGTHS) (fun _ h => h) hd kk
theorem aS_21 (X : CallFix p m c cc nL s args tb own) (hI : Inw D ty (FxC q) (wC ty q σ) A s H locs) {j v : Int32} (hv : tLen j.toNatClampNeg = v) (hin : vp_in j 13) (hd : decode cc pc = .ok (.iaload, 1)) (kk : W p l e R s m args below meth c H locs cells slots Q (F0 m (pc + 1) ls (.int v :: rest))) : W p l e R s m args below meth c H locs cells slots Q (F0 m pc ls (.int j :: .ref (q 21) :: rest)) :=
  va_ti X.1 X.2.1 hI.2.2.2.2.2.2.1 hI.2.2.2.1 hin (v := .int v) (by rw [← hv]) hd kk
theorem nS_21 (X : CallFix p m c cc nL s args tb own) (hI : Inw D ty (FxC q) (wC ty q σ) A s H locs) (hd : decode cc pc = .ok (.arraylength, 1)) (kk : W p l e R s m args below meth c H locs cells slots Q (F0 m (pc + 1) ls (.int 13 :: rest))) : W p l e R s m args below meth c H locs cells slots Q (F0 m pc ls (.ref (q 21) :: rest)) :=
  va_tlen X.1 X.2.1 hI.2.2.2.2.2.2.1 hI.2.2.2.1 (v := 13) (by decide) hd kk
theorem lk_X3_TAKES : Cond.fieldLink RX3 96 RX3 "TAKES" "[I" ∈ tb := tb_in (List.mem_of_getElem? (i := 437) (by decide +kernel)) (by decide +kernel)
theorem g_X3_TAKES (X : CallFix p m c cc nL s args tb RX3) (hI : Inw D ty (FxC q) (wC ty q σ) A s H locs) (hd : decode cc pc = .ok (.getstatic 96, 3)) (kk : W p l e R s m args below meth c H locs cells slots Q (F0 m (pc + 3) ls (.ref (q 22) :: rest))) : W p l e R s m args below meth c H locs cells slots Q (F0 m pc ls rest) :=
  va_gets X.1 X.2.1 hI.2.2.2.2.2.2.2.1 hI.2.2.2.1 X.2.2.2.1 (X.2.2.2.2 _ lk_X3_TAKES) (fun _ h => h) hd kk
theorem aS_22 (X : CallFix p m c cc nL s args tb own) (hI : Inw D ty (FxC q) (wC ty q σ) A s H locs) {j v : Int32} (hv : tTak j.toNatClampNeg = v) (hin : vp_in j 13) (hd : decode cc pc = .ok (.iaload, 1)) (kk : W p l e R s m args below meth c H locs cells slots Q (F0 m (pc + 1) ls (.int v :: rest))) : W p l e R s m args below meth c H locs cells slots Q (F0 m pc ls (.int j :: .ref (q 22) :: rest)) :=
  va_ti X.1 X.2.1 hI.2.2.2.2.2.2.2.2.1 hI.2.2.2.1 hin (v := .int v) (by rw [← hv]) hd kk
theorem nS_22 (X : CallFix p m c cc nL s args tb own) (hI : Inw D ty (FxC q) (wC ty q σ) A s H locs) (hd : decode cc pc = .ok (.arraylength, 1)) (kk : W p l e R s m args below meth c H locs cells slots Q (F0 m (pc + 1) ls (.int 13 :: rest))) : W p l e R s m args below meth c H locs cells slots Q (F0 m pc ls (.ref (q 22) :: rest)) :=
  va_tlen X.1 X.2.1 hI.2.2.2.2.2.2.2.2.1 hI.2.2.2.1 (v := 13) (by decide) hd kk
theorem rc_X4 : (wC ty q σ)[0]? = some (q 0, .inr (4, [.ref (q 1), .ref (q 2)])) := rfl
theorem rc_X0 : (wC ty q σ)[1]? = some (q 1, .inr (0, [.ref (q 5), .ref (q 6)])) := rfl
theorem rc_X3 : (wC ty q σ)[2]? = some (q 2, .inr (3, [.ref (q 1), .ref (q 3), .ref (q 4), .ref (q 7), .int (σ.1 0), .int (σ.1 1), .int (σ.1 2)])) := rfl
theorem rc_X2 : (wC ty q σ)[3]? = some (q 3, .inr (2, [.ref (q 8), .ref (q 9), .ref (q 10), .int (σ.1 3), .int (σ.1 4), .int (σ.1 5), .int (σ.1 6), .int (σ.1 7), .int (σ.1 8)])) := rfl
theorem rc_X1 : (wC ty q σ)[4]? = some (q 4, .inr (1, [.ref (q 11), .ref (q 12), .ref (q 13), .ref (q 14), .ref (q 15), .int (σ.1 9), .int (σ.1 10)])) := rfl
theorem rc_X5 : (wM ty q σ)[0]? = some (q 0, .inr (5, [.int (σ.1 0), .ref (q 1), .ref (q 2), .int (σ.1 1), .int (σ.1 2), .ref (q 3), .ref (q 4), .int (σ.1 3), .int (σ.1 4), .int (σ.1 5), .int (σ.1 6), .int (σ.1 7), .ref (q 5), .ref (q 6), .ref (q 7), .ref (q 8), .ref (q 9), .int (σ.1 8), .ref (q 10), .int (σ.1 9), .int (σ.1 10), .ref (q 11)])) := rfl
end Fr
