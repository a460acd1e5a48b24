/-! what the start gives -/
def qf (t1 t2 : Nat) (k : Nat) : Nat := if k = 21 then t1 else if k = 22 then t2 else 0
theorem lt_432 : Cond.laysStatic RX3 "LENGTHS" "[I" ∈ lw_tbl := List.mem_of_getElem? (i := 432) (by decide +kernel)
theorem lt_438 : Cond.laysStatic RX3 "TAKES" "[I" ∈ lw_tbl := List.mem_of_getElem? (i := 438) (by decide +kernel)
theorem lt_27 : Cond.initialized RX3 ∈ lw_tbl := List.mem_of_getElem? (i := 27) (by decide +kernel)
theorem lt_218 : Cond.laysStatic Bundle.tN "UNASSIGNED_STACK" Bundle.steD ∈ lw_tbl := List.mem_of_getElem? (i := 218) (by decide +kernel)
theorem lt_220 : Cond.laysStatic Bundle.tN "SUPPRESSED_SENTINEL" Bundle.listD ∈ lw_tbl := List.mem_of_getElem? (i := 220) (by decide +kernel)
theorem lt_31 : Cond.initialized Bundle.tN ∈ lw_tbl := List.mem_of_getElem? (i := 31) (by decide +kernel)
theorem lt_299 : Cond.methodLinkNest RX0 24 yX4_isSegment RX4 ∈ lw_tbl := List.mem_of_getElem? (i := 299) (by decide +kernel)
theorem lt_373 : Cond.methodLinkNest RX2 40 yX4_isSegment RX4 ∈ lw_tbl := List.mem_of_getElem? (i := 373) (by decide +kernel)
theorem lt_48 : Cond.methodLinkNest RX4 9 yX0_init RX4 ∈ lw_tbl := List.mem_of_getElem? (i := 48) (by decide +kernel)
theorem lt_71 : Cond.methodLinkNest RX3 11 yX2_init RX4 ∈ lw_tbl := List.mem_of_getElem? (i := 71) (by decide +kernel)
theorem lt_105 : Cond.methodLinkNest RX3 20 yX1_init RX4 ∈ lw_tbl := List.mem_of_getElem? (i := 105) (by decide +kernel)
theorem lt_53 : Cond.arrayOver (.array .byte) ∈ lw_tbl := List.mem_of_getElem? (i := 53) (by decide +kernel)
theorem lt_62 : Cond.arrayClass .int ∈ lw_tbl := List.mem_of_getElem? (i := 62) (by decide +kernel)
theorem lt_61 : Cond.arrayClass .byte ∈ lw_tbl := List.mem_of_getElem? (i := 61) (by decide +kernel)
theorem lt_655 : Cond.arrayClass .boolean ∈ lw_tbl := List.mem_of_getElem? (i := 655) (by decide +kernel)
theorem lt_745 : Cond.arrayClass .long ∈ lw_tbl := List.mem_of_getElem? (i := 745) (by decide +kernel)
theorem st_102 : Cond.stringRef RX4 102 "no such segment" ∈ lw_tbl := List.mem_of_getElem? (i := 232) (by decide +kernel)
theorem st_35 : Cond.stringRef RX4 35 "the segment is full" ∈ lw_tbl := List.mem_of_getElem? (i := 271) (by decide +kernel)
theorem st_55 : Cond.stringRef RX4 55 "no such limit" ∈ lw_tbl := List.mem_of_getElem? (i := 334) (by decide +kernel)
theorem st_60 : Cond.stringRef RX4 60 "the segment is not good" ∈ lw_tbl := List.mem_of_getElem? (i := 344) (by decide +kernel)
theorem st_71 : Cond.stringRef RX4 71 "there is no run" ∈ lw_tbl := List.mem_of_getElem? (i := 412) (by decide +kernel)
theorem st_73 : Cond.stringRef RX4 73 "no such number of steps" ∈ lw_tbl := List.mem_of_getElem? (i := 413) (by decide +kernel)
theorem st_78 : Cond.stringRef RX4 78 "nothing to look at" ∈ lw_tbl := List.mem_of_getElem? (i := 532) (by decide +kernel)
theorem st_89 : Cond.stringRef RX4 89 "no such number was put out" ∈ lw_tbl := List.mem_of_getElem? (i := 577) (by decide +kernel)
theorem strL_ok : ∀ x ∈ strL, Cond.stringRef RX4 x.1 x.2 ∈ lw_tbl := List.forall_mem_cons.mpr ⟨st_102, List.forall_mem_cons.mpr ⟨st_35, List.forall_mem_cons.mpr ⟨st_55, List.forall_mem_cons.mpr ⟨st_60, List.forall_mem_cons.mpr ⟨st_71, List.forall_mem_cons.mpr ⟨st_73, List.forall_mem_cons.mpr ⟨st_78, List.forall_mem_cons.mpr ⟨st_89, fun _ h => absurd h List.not_mem_nil⟩⟩⟩⟩⟩⟩⟩⟩
theorem strL_ex : ∀ x ∈ strL, Cond.exactly (.string RX4 x.1) "java/lang/String" ∈ flatC (Jvm.Cond.and given_1 narrow_1) := by decide +kernel
section Fs
variable {s : State} {args : Array Value}
theorem fx_len (hgv : (Jvm.Cond.and given_1 narrow_1).before args s = true) : ∀ j : Nat, j < 13 → (Term.elem (.static RX3 "LENGTHS" "[I") (.int (Int32.ofNat j))).eval args s none [] s = some (.int (tLen j)) := fun j hj => by
  have hs := flat_of_before _ hgv
  rcases o13 hj with rfl | rfl | rfl | rfl | rfl | rfl | rfl | rfl | rfl | rfl | rfl | rfl | rfl <;> exact va_eqt (hs _ (by decide +kernel))
theorem fx_tak (hgv : (Jvm.Cond.and given_1 narrow_1).before args s = true) : ∀ j : Nat, j < 13 → (Term.elem (.static RX3 "TAKES" "[I") (.int (Int32.ofNat j))).eval args s none [] s = some (.int (tTak j)) := fun j hj => by
  have hs := flat_of_before _ hgv
  rcases o13 hj with rfl | rfl | rfl | rfl | rfl | rfl | rfl | rfl | rfl | rfl | rfl | rfl | rfl <;> exact va_eqt (hs _ (by decide +kernel))
theorem fx_start (hts : ∀ w ∈ lw_tbl, w.before args s = true) (hgv : (Jvm.Cond.and given_1 narrow_1).before args s = true) : ∃ t1 t2 : Nat, FxD (qf t1 t2) (fun z : Nat => s.heap.size ≤ z) s s.heap ∧ FxI (fun z : Nat => s.heap.size ≤ z) s s.heap := by
  have hs := flat_of_before _ hgv
  have hA : ∀ a : Nat, a < s.heap.size → ¬ (fun z : Nat => s.heap.size ≤ z) a := fun a h => Nat.not_le.mpr h
  obtain ⟨t1, e1, T1⟩ := va_Tof (tm := .static RX3 "LENGTHS" "[I") (ty := .int) (N := 13) (f := fun j => .int (tLen j)) (A := fun z : Nat => s.heap.size ≤ z) (by decide) (hs _ (by decide +kernel)) (va_eqt (z := Int32.ofNat 13) (hs _ (by decide +kernel))) (fx_len hgv) hA
  obtain ⟨t2, e2, T2⟩ := va_Tof (tm := .static RX3 "TAKES" "[I") (ty := .int) (N := 13) (f := fun j => .int (tTak j)) (A := fun z : Nat => s.heap.size ≤ z) (by decide) (hs _ (by decide +kernel)) (va_eqt (z := Int32.ofNat 13) (hs _ (by decide +kernel))) (fx_tak hgv) hA
  refine ⟨t1, t2, ⟨⟨va_Zof (hts _ lt_432) (hts _ lt_27) e1 hA, T1, va_Zof (hts _ lt_438) (hts _ lt_27) e2 hA, T2, va_Nw.of rfl (hts _ lt_299), va_Nw.of rfl (hts _ lt_373)⟩, ?_⟩, va_Nw.of rfl (hts _ lt_48), va_Nw.of rfl (hts _ lt_71), va_Nw.of rfl (hts _ lt_105), hts _ lt_53⟩
  refine ⟨vx_Zqof (hts _ lt_218) (hts _ lt_31) (hs _ (by decide +kernel)) hA, vx_Zqof (hts _ lt_220) (hts _ lt_31) (hs _ (by decide +kernel)) hA, fun w hw hr => va_Nw.of (rideX_tb hr) (hts w hw), fun x hx => ?_, va_Nc.of (hs _ (by decide +kernel)), va_Nc.of (hs _ (by decide +kernel)), va_Nc.of (hs _ (by decide +kernel))⟩
  obtain ⟨a, -, -, -, h1, -⟩ := Cond.exactly_spec (hs _ (strL_ex x hx))
  exact ⟨a, vk_R.of (hts _ (strL_ok x hx)) h1⟩
theorem ty_start (hts : ∀ w ∈ lw_tbl, w.before args s = true) : ∃ ty : Nat → ClassId, ∀ (k : Nat) (x : ClassId × FieldType), (tyL ty)[k]? = some x → ArrOfT s x.1 x.2 ∧ va_RA s x.1 x.2 := by
  obtain ⟨c0, k0, m0, f0, g0, d0⟩ := Cond.arrayClass_spec (hts _ lt_62)
  obtain ⟨c1, k1, m1, f1, g1, d1⟩ := Cond.arrayClass_spec (hts _ lt_61)
  obtain ⟨m2, c2, k2, -, -, g2, d2, f2⟩ := arrayOverA_spec (hts _ lt_53)
  obtain ⟨c3, k3, m3, f3, g3, d3⟩ := Cond.arrayClass_spec (hts _ lt_655)
  obtain ⟨c4, k4, m4, f4, g4, d4⟩ := Cond.arrayClass_spec (hts _ lt_745)
  refine ⟨fun k => if k = 0 then c0 else if k = 1 then c1 else if k = 2 then c2 else if k = 3 then c3 else c4, fun k x hx => ?_⟩
  match k, hx with
  | 0, hx => cases hx; exact ⟨fun n z => ⟨(fun q hq => by cases hq), k0, g0, m0, d0⟩, f0⟩
  | 1, hx => cases hx; exact ⟨fun n z => ⟨(fun q hq => by cases hq), k1, g1, m1, d1⟩, f1⟩
  | 2, hx => cases hx; exact ⟨fun n z => ⟨(fun q hq => by cases hq), k2, g2, m2, d2⟩, f2⟩
  | 3, hx => cases hx; exact ⟨fun n z => ⟨(fun q hq => by cases hq), k3, g3, m3, d3⟩, f3⟩
  | 4, hx => cases hx; exact ⟨fun n z => ⟨(fun q hq => by cases hq), k4, g4, m4, d4⟩, f4⟩
  | k + 5, hx => simp [tyL] at hx
theorem cl_start (htb : ∀ w ∈ tb, w.before args s = true) : ∃ D : va_G, ∀ (k : Nat) (x : vw_C), vwCl[k]? = some x → u_Kn s x.1 x.2.1 x.2.2 (D.1 k) (D.2 k) := by
  obtain ⟨c0, i0, h0⟩ := u_known (C := RX0) (T := TX0) (N := 2) (n := 2) htb utX0 (htb _ in_X0)
  obtain ⟨c1, i1, h1⟩ := u_known (C := RX1) (T := TX1) (N := 7) (n := 7) htb utX1 (htb _ in_X1)
  obtain ⟨c2, i2, h2⟩ := u_known (C := RX2) (T := TX2) (N := 9) (n := 9) htb utX2 (htb _ in_X2)
  obtain ⟨c3, i3, h3⟩ := u_known (C := RX3) (T := TX3) (N := 7) (n := 7) htb utX3 (htb _ in_X3)
  obtain ⟨c4, i4, h4⟩ := u_known (C := RX4) (T := TX4) (N := 2) (n := 2) htb utX4 (htb _ in_X4)
  obtain ⟨c5, i5, h5⟩ := u_known (C := RX5) (T := TX5) (N := 22) (n := 22) htb utX5 (htb _ in_X5)
  refine ⟨(fun k => if k = 0 then c0 else if k = 1 then c1 else if k = 2 then c2 else if k = 3 then c3 else if k = 4 then c4 else c5, fun k => if k = 0 then i0 else if k = 1 then i1 else if k = 2 then i2 else if k = 3 then i3 else if k = 4 then i4 else i5), fun k x hx => ?_⟩
  match k, hx with
  | 0, hx => cases hx; exact h0
  | 1, hx => cases hx; exact h1
  | 2, hx => cases hx; exact h2
  | 3, hx => cases hx; exact h3
  | 4, hx => cases hx; exact h4
  | 5, hx => cases hx; exact h5
  | k + 6, hx => simp [vwCl] at hx
end Fs
