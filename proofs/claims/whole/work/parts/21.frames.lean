abbrev rm_X1_empty : Room := { frames := 0, cells := 0, slots := 0, locals := 0 }
def f_X1_empty (σ : St) : Option (Int32 × St) :=
  some (0, sI (sI σ 9 0) 10 0)
set_option maxHeartbeats 4000000 in
set_option maxRecDepth 100000 in
theorem m_X1_empty (l : Launch) (D : va_G) (ty : Nat → ClassId) (q : Nat → Nat) (σ : St) (sz : Nat) {res : Int32 × St} (hF : f_X1_empty  σ = some res) : Met l yX1_empty (wsy yX1_empty cX1_empty 1 none) rm_X1_empty (Pcw D ty (FxC q) (wC ty q σ) sz [.ref (q 4)]) (Qvw D ty (wC ty q) (va_A (wC ty q σ) sz) res) 0 0 (va_A (wC ty q σ) sz) := by
  refine en_w (Qc := fun A => Qvw D ty (wC ty q) A res) (by decide) (Nat.le_of_ble_eq_true rfl) ?_
  intro p e s m args below meth c A X hlk hr _ H locs hI ls hl
  have X : CallFix p m c cX1_empty 1 s args tb RX1 := X
  have hl : lv_has ls 1 [(0, .ref (q 4))] := hl
  unfold f_X1_empty at hF
  refine lv_aload_n X.1 X.2.1 dX1_empty_0 rfl (lv_at hl 0 rfl) ?_
  refine lv_iconst (v := 0) X.1 X.2.1 dX1_empty_1 (by decide) ?_
  refine p_X1_count X hI dX1_empty_2 (fun H locs hI => ?_)
  refine lv_aload_n X.1 X.2.1 dX1_empty_5 rfl (lv_at hl 0 rfl) ?_
  refine lv_iconst (v := 0) X.1 X.2.1 dX1_empty_6 (by decide) ?_
  refine p_X1_usedWords X hI dX1_empty_7 (fun H locs hI => ?_)
  exact rt_v X hlk hr hI hF dX1_empty_10
abbrev rm_X1_count : Room := { frames := 0, cells := 0, slots := 0, locals := 0 }
def f_X1_count (σ : St) : Option Int32 :=
  some (gI σ 9)
set_option maxHeartbeats 4000000 in
set_option maxRecDepth 100000 in
theorem m_X1_count (l : Launch) (D : va_G) (ty : Nat → ClassId) (q : Nat → Nat) (σ : St) (sz : Nat) {rr : Int32} (hF : f_X1_count  σ = some rr) : Met l yX1_count (wsy yX1_count cX1_count 1 (some .int)) rm_X1_count (Pcw D ty (FxC q) (wC ty q σ) sz [.ref (q 4)]) (Qiw D ty (wC ty q) (va_A (wC ty q σ) sz) (rr, σ)) 0 0 (va_A (wC ty q σ) sz) := by
  refine en_w (Qc := fun A => Qiw D ty (wC ty q) A (rr, σ)) (by decide) (Nat.le_of_ble_eq_true rfl) ?_
  intro p e s m args below meth c A X hlk hr _ H locs hI ls hl
  have X : CallFix p m c cX1_count 1 s args tb RX1 := X
  have hl : lv_has ls 1 [(0, .ref (q 4))] := hl
  unfold f_X1_count at hF
  refine lv_aload_n X.1 X.2.1 dX1_count_0 rfl (lv_at hl 0 rfl) ?_
  refine g_X1_count (v := gI σ 9) X hI rfl dX1_count_1 ?_
  exact rt_i X hlk hr hI (fb_pr hF) dX1_count_4
abbrev rm_X1_latestSegment : Room := { frames := 0, cells := 0, slots := 0, locals := 0 }
def f_X1_latestSegment (σ : St) : Option Int32 :=
  if (gI σ 9) ≤ 0 then
    some (-1)
  else
    if inB ((gI σ 9) - 1) 500 = true then
      some (gA σ 5 ((gI σ 9) - 1))
    else none
set_option maxHeartbeats 4000000 in
set_option maxRecDepth 100000 in
theorem m_X1_latestSegment (l : Launch) (D : va_G) (ty : Nat → ClassId) (q : Nat → Nat) (σ : St) (sz : Nat) {rr : Int32} (hF : f_X1_latestSegment  σ = some rr) : Met l yX1_latestSegment (wsy yX1_latestSegment cX1_latestSegment 1 (some .int)) rm_X1_latestSegment (Pcw D ty (FxC q) (wC ty q σ) sz [.ref (q 4)]) (Qiw D ty (wC ty q) (va_A (wC ty q σ) sz) (rr, σ)) 0 0 (va_A (wC ty q σ) sz) := by
  refine en_w (Qc := fun A => Qiw D ty (wC ty q) A (rr, σ)) (by decide) (Nat.le_of_ble_eq_true rfl) ?_
  intro p e s m args below meth c A X hlk hr _ H locs hI ls hl
  have X : CallFix p m c cX1_latestSegment 1 s args tb RX1 := X
  have hl : lv_has ls 1 [(0, .ref (q 4))] := hl
  unfold f_X1_latestSegment at hF
  refine lv_aload_n X.1 X.2.1 dX1_latestSegment_0 rfl (lv_at hl 0 rfl) ?_
  refine g_X1_count (v := gI σ 9) X hI rfl dX1_latestSegment_1 ?_
  refine lv_if_le (tgt := 21) X.1 X.2.1 dX1_latestSegment_4 (by decide) (fun c1 => ?_) (fun c1 => ?_)
  · replace hF := fb_pos c1 hF
    refine lv_iconst (v := (-1)) X.1 X.2.1 dX1_latestSegment_21 (by decide) ?_
    exact rt_i X hlk hr hI (fb_pr hF) dX1_latestSegment_22
  · replace hF := fb_neg c1 hF
    refine lv_aload_n X.1 X.2.1 dX1_latestSegment_7 rfl (lv_at hl 0 rfl) ?_
    refine g_X1_segments X hI dX1_latestSegment_8 ?_
    refine lv_aload_n X.1 X.2.1 dX1_latestSegment_11 rfl (lv_at hl 0 rfl) ?_
    refine g_X1_count (v := gI σ 9) X hI rfl dX1_latestSegment_12 ?_
    refine lv_iconst (v := 1) X.1 X.2.1 dX1_latestSegment_15 (by decide) ?_
    refine lv_isub X.1 X.2.1 dX1_latestSegment_16 ?_
    obtain ⟨h2, hF⟩ := fb_chk hF
    refine aC_5 (v := gA σ 5 ((gI σ 9) - 1)) X hI rfl h2 dX1_latestSegment_17 ?_
    refine lv_goto (tgt := 22) X.1 X.2.1 dX1_latestSegment_18 (by decide) ?_
    exact rt_i X hlk hr hI (fb_pr hF) dX1_latestSegment_22
abbrev rm_X1_latestPlace : Room := { frames := 0, cells := 0, slots := 0, locals := 0 }
def f_X1_latestPlace (σ : St) : Option Int32 :=
  if (gI σ 9) ≤ 0 then
    some (-1)
  else
    if inB ((gI σ 9) - 1) 500 = true then
      some (gA σ 6 ((gI σ 9) - 1))
    else none
set_option maxHeartbeats 4000000 in
set_option maxRecDepth 100000 in
theorem m_X1_latestPlace (l : Launch) (D : va_G) (ty : Nat → ClassId) (q : Nat → Nat) (σ : St) (sz : Nat) {rr : Int32} (hF : f_X1_latestPlace  σ = some rr) : Met l yX1_latestPlace (wsy yX1_latestPlace cX1_latestPlace 1 (some .int)) rm_X1_latestPlace (Pcw D ty (FxC q) (wC ty q σ) sz [.ref (q 4)]) (Qiw D ty (wC ty q) (va_A (wC ty q σ) sz) (rr, σ)) 0 0 (va_A (wC ty q σ) sz) := by
  refine en_w (Qc := fun A => Qiw D ty (wC ty q) A (rr, σ)) (by decide) (Nat.le_of_ble_eq_true rfl) ?_
  intro p e s m args below meth c A X hlk hr _ H locs hI ls hl
  have X : CallFix p m c cX1_latestPlace 1 s args tb RX1 := X
  have hl : lv_has ls 1 [(0, .ref (q 4))] := hl
  unfold f_X1_latestPlace at hF
  refine lv_aload_n X.1 X.2.1 dX1_latestPlace_0 rfl (lv_at hl 0 rfl) ?_
  refine g_X1_count (v := gI σ 9) X hI rfl dX1_latestPlace_1 ?_
  refine lv_if_le (tgt := 21) X.1 X.2.1 dX1_latestPlace_4 (by decide) (fun c1 => ?_) (fun c1 => ?_)
  · replace hF := fb_pos c1 hF
    refine lv_iconst (v := (-1)) X.1 X.2.1 dX1_latestPlace_21 (by decide) ?_
    exact rt_i X hlk hr hI (fb_pr hF) dX1_latestPlace_22
  · replace hF := fb_neg c1 hF
    refine lv_aload_n X.1 X.2.1 dX1_latestPlace_7 rfl (lv_at hl 0 rfl) ?_
    refine g_X1_places X hI dX1_latestPlace_8 ?_
    refine lv_aload_n X.1 X.2.1 dX1_latestPlace_11 rfl (lv_at hl 0 rfl) ?_
    refine g_X1_count (v := gI σ 9) X hI rfl dX1_latestPlace_12 ?_
    refine lv_iconst (v := 1) X.1 X.2.1 dX1_latestPlace_15 (by decide) ?_
    refine lv_isub X.1 X.2.1 dX1_latestPlace_16 ?_
    obtain ⟨h2, hF⟩ := fb_chk hF
    refine aC_6 (v := gA σ 6 ((gI σ 9) - 1)) X hI rfl h2 dX1_latestPlace_17 ?_
    refine lv_goto (tgt := 22) X.1 X.2.1 dX1_latestPlace_18 (by decide) ?_
    exact rt_i X hlk hr hI (fb_pr hF) dX1_latestPlace_22
abbrev rm_X1_latestLocals : Room := { frames := 0, cells := 0, slots := 0, locals := 0 }
def f_X1_latestLocals (σ : St) : Option Int32 :=
  if (gI σ 9) ≤ 0 then
    some 0
  else
    if inB ((gI σ 9) - 1) 500 = true then
      some (gA σ 7 ((gI σ 9) - 1))
    else none
set_option maxHeartbeats 4000000 in
set_option maxRecDepth 100000 in
theorem m_X1_latestLocals (l : Launch) (D : va_G) (ty : Nat → ClassId) (q : Nat → Nat) (σ : St) (sz : Nat) {rr : Int32} (hF : f_X1_latestLocals  σ = some rr) : Met l yX1_latestLocals (wsy yX1_latestLocals cX1_latestLocals 1 (some .int)) rm_X1_latestLocals (Pcw D ty (FxC q) (wC ty q σ) sz [.ref (q 4)]) (Qiw D ty (wC ty q) (va_A (wC ty q σ) sz) (rr, σ)) 0 0 (va_A (wC ty q σ) sz) := by
  refine en_w (Qc := fun A => Qiw D ty (wC ty q) A (rr, σ)) (by decide) (Nat.le_of_ble_eq_true rfl) ?_
  intro p e s m args below meth c A X hlk hr _ H locs hI ls hl
  have X : CallFix p m c cX1_latestLocals 1 s args tb RX1 := X
  have hl : lv_has ls 1 [(0, .ref (q 4))] := hl
  unfold f_X1_latestLocals at hF
  refine lv_aload_n X.1 X.2.1 dX1_latestLocals_0 rfl (lv_at hl 0 rfl) ?_
  refine g_X1_count (v := gI σ 9) X hI rfl dX1_latestLocals_1 ?_
  refine lv_if_le (tgt := 21) X.1 X.2.1 dX1_latestLocals_4 (by decide) (fun c1 => ?_) (fun c1 => ?_)
  · replace hF := fb_pos c1 hF
    refine lv_iconst (v := 0) X.1 X.2.1 dX1_latestLocals_21 (by decide) ?_
    exact rt_i X hlk hr hI (fb_pr hF) dX1_latestLocals_22
  · replace hF := fb_neg c1 hF
    refine lv_aload_n X.1 X.2.1 dX1_latestLocals_7 rfl (lv_at hl 0 rfl) ?_
    refine g_X1_localCounts X hI dX1_latestLocals_8 ?_
    refine lv_aload_n X.1 X.2.1 dX1_latestLocals_11 rfl (lv_at hl 0 rfl) ?_
    refine g_X1_count (v := gI σ 9) X hI rfl dX1_latestLocals_12 ?_
    refine lv_iconst (v := 1) X.1 X.2.1 dX1_latestLocals_15 (by decide) ?_
    refine lv_isub X.1 X.2.1 dX1_latestLocals_16 ?_
    obtain ⟨h2, hF⟩ := fb_chk hF
    refine aC_7 (v := gA σ 7 ((gI σ 9) - 1)) X hI rfl h2 dX1_latestLocals_17 ?_
    refine lv_goto (tgt := 22) X.1 X.2.1 dX1_latestLocals_18 (by decide) ?_
    exact rt_i X hlk hr hI (fb_pr hF) dX1_latestLocals_22
abbrev rm_X1_depth : Room := { frames := 0, cells := 0, slots := 0, locals := 0 }
def f_X1_depth (σ : St) : Option Int32 :=
  if (gI σ 9) ≤ 0 then
    some 0
  else
    if inB ((gI σ 9) - 1) 500 = true then
      if inB ((gI σ 9) - 1) 500 = true then
        some (((gI σ 10) - (gA σ 8 ((gI σ 9) - 1))) - (gA σ 7 ((gI σ 9) - 1)))
      else none
    else none
set_option maxHeartbeats 4000000 in
set_option maxRecDepth 100000 in
theorem m_X1_depth (l : Launch) (D : va_G) (ty : Nat → ClassId) (q : Nat → Nat) (σ : St) (sz : Nat) {rr : Int32} (hF : f_X1_depth  σ = some rr) : Met l yX1_depth (wsy yX1_depth cX1_depth 1 (some .int)) rm_X1_depth (Pcw D ty (FxC q) (wC ty q σ) sz [.ref (q 4)]) (Qiw D ty (wC ty q) (va_A (wC ty q σ) sz) (rr, σ)) 0 0 (va_A (wC ty q σ) sz) := by
  refine en_w (Qc := fun A => Qiw D ty (wC ty q) A (rr, σ)) (by decide) (Nat.le_of_ble_eq_true rfl) ?_
  intro p e s m args below meth c A X hlk hr _ H locs hI ls hl
  have X : CallFix p m c cX1_depth 1 s args tb RX1 := X
  have hl : lv_has ls 1 [(0, .ref (q 4))] := hl
  unfold f_X1_depth at hF
  refine lv_aload_n X.1 X.2.1 dX1_depth_0 rfl (lv_at hl 0 rfl) ?_
  refine g_X1_count (v := gI σ 9) X hI rfl dX1_depth_1 ?_
  refine lv_if_le (tgt := 38) X.1 X.2.1 dX1_depth_4 (by decide) (fun c1 => ?_) (fun c1 => ?_)
  · replace hF := fb_pos c1 hF
    refine lv_iconst (v := 0) X.1 X.2.1 dX1_depth_38 (by decide) ?_
    exact rt_i X hlk hr hI (fb_pr hF) dX1_depth_39
  · replace hF := fb_neg c1 hF
    refine lv_aload_n X.1 X.2.1 dX1_depth_7 rfl (lv_at hl 0 rfl) ?_
    refine g_X1_usedWords (v := gI σ 10) X hI rfl dX1_depth_8 ?_
    refine lv_aload_n X.1 X.2.1 dX1_depth_11 rfl (lv_at hl 0 rfl) ?_
    refine g_X1_firstWords X hI dX1_depth_12 ?_
    refine lv_aload_n X.1 X.2.1 dX1_depth_15 rfl (lv_at hl 0 rfl) ?_
    refine g_X1_count (v := gI σ 9) X hI rfl dX1_depth_16 ?_
    refine lv_iconst (v := 1) X.1 X.2.1 dX1_depth_19 (by decide) ?_
    refine lv_isub X.1 X.2.1 dX1_depth_20 ?_
    obtain ⟨h2, hF⟩ := fb_chk hF
    refine aC_8 (v := gA σ 8 ((gI σ 9) - 1)) X hI rfl h2 dX1_depth_21 ?_
    refine lv_isub X.1 X.2.1 dX1_depth_22 ?_
    refine lv_aload_n X.1 X.2.1 dX1_depth_23 rfl (lv_at hl 0 rfl) ?_
    refine g_X1_localCounts X hI dX1_depth_24 ?_
    refine lv_aload_n X.1 X.2.1 dX1_depth_27 rfl (lv_at hl 0 rfl) ?_
    refine g_X1_count (v := gI σ 9) X hI rfl dX1_depth_28 ?_
    refine lv_iconst (v := 1) X.1 X.2.1 dX1_depth_31 (by decide) ?_
    refine lv_isub X.1 X.2.1 dX1_depth_32 ?_
    obtain ⟨h3, hF⟩ := fb_chk hF
    refine aC_7 (v := gA σ 7 ((gI σ 9) - 1)) X hI rfl h3 dX1_depth_33 ?_
    refine lv_isub X.1 X.2.1 dX1_depth_34 ?_
    refine lv_goto (tgt := 39) X.1 X.2.1 dX1_depth_35 (by decide) ?_
    exact rt_i X hlk hr hI (fb_pr hF) dX1_depth_39
abbrev rm_X1_open : Room := { frames := 0, cells := 0, slots := 0, locals := 0 }
def b_X1_open_73 : Nat → Int32 → Int32 → Int32 → St → Option (Int32 × St)
  | 0, _, _, _, _ => none
  | n + 1, x3, x4, x5, σ =>
    if x3 ≤ x5 then
      some (0, sI (sI σ 10 ((gI σ 10) + x3)) 9 ((gI σ 9) + 1))
    else
      if x5 = 0 then
        if inB ((gI σ 10) + x5) 1000 = true then
          b_X1_open_73 n x3 x4 (x5 + 1) (sA σ 9 ((gI σ 10) + x5) x4)
        else none
      else
        if inB ((gI σ 10) + x5) 1000 = true then
          b_X1_open_73 n x3 x4 (x5 + 1) (sA σ 9 ((gI σ 10) + x5) 0)
        else none
set_option maxHeartbeats 4000000 in
set_option maxRecDepth 100000 in
theorem w_b_X1_open_73 {l : Launch} {p : Program} {e : Env} {s : State} {m : MethodId} {args : Array Value} {below : List Frame} {meth : Method} {c : Code} {A : Nat → Prop} {D : va_G} {ty : Nat → ClassId} {q : Nat → Nat} {res : Int32 × St} (X : CallFix p m c cX1_open 6 s args tb RX1) (hlk : meth.locks = false) (hr : meth.sig.returnType = none) : ∀ (n : Nat) (x3 x4 x5 : Int32) (σ : St) (H : Heap) (locs : List Loc) (ls : Array Slot), b_X1_open_73 n x3 x4 x5 σ = some res → Inw D ty (FxC q) (wC ty q σ) A s H locs → lv_has ls 6 [(0, .ref (q 4)), (3, .int x3), (4, .int x4), (5, .int x5)] → W p l e rm_X1_open s m args below meth c H locs 0 0 (MQ below (Qvw D ty (wC ty q) A res) args s 0 0 A) (F0 m 73 ls []) := by
  intro n
  induction n with
  | zero =>
    intro x3 x4 x5 σ H locs ls hF
    cases hF
  | succ n ih =>
    intro x3 x4 x5 σ H locs ls hF hI hl
    rw [b_X1_open_73] at hF
    refine lv_iload X.1 X.2.1 dX1_open_73 (lv_at hl 3 rfl) ?_
    refine lv_iload_n X.1 X.2.1 dX1_open_75 rfl (lv_at hl 1 rfl) ?_
    refine lv_icmp_ge (tgt := 108) X.1 X.2.1 dX1_open_76 (by decide) (fun c8 => ?_) (fun c8 => ?_)
    · replace hF := fb_pos c8 hF
      refine lv_aload_n X.1 X.2.1 dX1_open_108 rfl (lv_at hl 0 rfl) ?_
      refine lv_dup X.1 X.2.1 dX1_open_109 rfl ?_
      refine g_X1_usedWords (v := gI σ 10) X hI rfl dX1_open_110 ?_
      refine lv_iload_n X.1 X.2.1 dX1_open_113 rfl (lv_at hl 1 rfl) ?_
      refine lv_iadd X.1 X.2.1 dX1_open_114 ?_
      refine p_X1_usedWords X hI dX1_open_115 (fun H locs hI => ?_)
      refine lv_aload_n X.1 X.2.1 dX1_open_118 rfl (lv_at hl 0 rfl) ?_
      refine lv_dup X.1 X.2.1 dX1_open_119 rfl ?_
      refine g_X1_count (v := gI σ 9) X hI rfl dX1_open_120 ?_
      refine lv_iconst (v := 1) X.1 X.2.1 dX1_open_123 (by decide) ?_
      refine lv_iadd X.1 X.2.1 dX1_open_124 ?_
      refine p_X1_count X hI dX1_open_125 (fun H locs hI => ?_)
      exact rt_v X hlk hr hI hF dX1_open_128
    · replace hF := fb_neg c8 hF
      refine lv_aload_n X.1 X.2.1 dX1_open_79 rfl (lv_at hl 0 rfl) ?_
      refine g_X1_words X hI dX1_open_80 ?_
      refine lv_aload_n X.1 X.2.1 dX1_open_83 rfl (lv_at hl 0 rfl) ?_
      refine g_X1_usedWords (v := gI σ 10) X hI rfl dX1_open_84 ?_
      refine lv_iload X.1 X.2.1 dX1_open_87 (lv_at hl 3 rfl) ?_
      refine lv_iadd X.1 X.2.1 dX1_open_89 ?_
      refine lv_iload X.1 X.2.1 dX1_open_90 (lv_at hl 3 rfl) ?_
      refine lv_if_ne (tgt := 100) X.1 X.2.1 dX1_open_92 (by decide) (fun c9 => ?_) (fun c9 => ?_)
      · replace hF := fb_neg c9 hF
        refine lv_iconst (v := 0) X.1 X.2.1 dX1_open_100 (by decide) ?_
        obtain ⟨h10, hF⟩ := fb_chk hF
        refine sC_9 X hI h10 dX1_open_101 (fun H locs hI => ?_)
        refine lv_iinc (v := x5 + 1) (lv' := [(5, .int (x5 + 1)), (0, .ref (q 4)), (3, .int x3), (4, .int x4)]) X.1 X.2.1 dX1_open_102 hl (k := 3) rfl rfl (by decide) rfl (fun ls hl => ?_)
        refine lv_goto (tgt := 73) X.1 X.2.1 dX1_open_105 (by decide) ?_
        exact ih x3 x4 (x5 + 1) _ _ _ ls hF hI (lv_sub hl [1, 2, 3, 0] rfl)
      · replace hF := fb_pos c9 hF
        refine lv_iload X.1 X.2.1 dX1_open_95 (lv_at hl 2 rfl) ?_
        refine lv_goto (tgt := 101) X.1 X.2.1 dX1_open_97 (by decide) ?_
        obtain ⟨h11, hF⟩ := fb_chk hF
        refine sC_9 X hI h11 dX1_open_101 (fun H locs hI => ?_)
        refine lv_iinc (v := x5 + 1) (lv' := [(5, .int (x5 + 1)), (0, .ref (q 4)), (3, .int x3), (4, .int x4)]) X.1 X.2.1 dX1_open_102 hl (k := 3) rfl rfl (by decide) rfl (fun ls hl => ?_)
        refine lv_goto (tgt := 73) X.1 X.2.1 dX1_open_105 (by decide) ?_
        exact ih x3 x4 (x5 + 1) _ _ _ ls hF hI (lv_sub hl [1, 2, 3, 0] rfl)
def f_X1_open (x1 x2 x3 x4 : Int32) (σ : St) : Option (Int32 × St) :=
  if 500 ≤ (gI σ 9) then
    some (0, σ)
  else
    if x3 < 0 then
      some (0, σ)
    else
      if x3 ≤ (1000 - (gI σ 10)) then
        if inB (gI σ 9) 500 = true then
          if inB (gI σ 9) 500 = true then
            if inB (gI σ 9) 500 = true then
              if inB (gI σ 9) 500 = true then
                b_X1_open_73 8 x3 x4 0 (sA (sA (sA (sA σ 5 (gI σ 9) x1) 6 (gI σ 9) x2) 7 (gI σ 9) x3) 8 (gI σ 9) (gI σ 10))
              else none
            else none
          else none
        else none
      else
        some (0, σ)
set_option maxHeartbeats 4000000 in
set_option maxRecDepth 100000 in
theorem m_X1_open (l : Launch) (D : va_G) (ty : Nat → ClassId) (q : Nat → Nat) (σ : St) (sz : Nat) (x1 x2 x3 x4 : Int32) {res : Int32 × St} (hF : f_X1_open x1 x2 x3 x4 σ = some res) : Met l yX1_open (wsy yX1_open cX1_open 6 none) rm_X1_open (Pcw D ty (FxC q) (wC ty q σ) sz [.ref (q 4), .int x1, .int x2, .int x3, .int x4]) (Qvw D ty (wC ty q) (va_A (wC ty q σ) sz) res) 0 0 (va_A (wC ty q σ) sz) := by
  refine en_w (Qc := fun A => Qvw D ty (wC ty q) A res) (by decide) (Nat.le_of_ble_eq_true rfl) ?_
  intro p e s m args below meth c A X hlk hr _ H locs hI ls hl
  have X : CallFix p m c cX1_open 6 s args tb RX1 := X
  have hl : lv_has ls 6 [(0, .ref (q 4)), (1, .int x1), (2, .int x2), (3, .int x3), (4, .int x4)] := hl
  unfold f_X1_open at hF
  refine lv_aload_n X.1 X.2.1 dX1_open_0 rfl (lv_at hl 0 rfl) ?_
  refine g_X1_count (v := gI σ 9) X hI rfl dX1_open_1 ?_
  refine lv_sipush (v := 500) X.1 X.2.1 dX1_open_4 (by decide) ?_
  refine lv_icmp_ge (tgt := 26) X.1 X.2.1 dX1_open_7 (by decide) (fun c1 => ?_) (fun c1 => ?_)
  · replace hF := fb_pos c1 hF
    exact rt_v X hlk hr hI hF dX1_open_26
  · replace hF := fb_neg c1 hF
    refine lv_iload_n X.1 X.2.1 dX1_open_10 rfl (lv_at hl 3 rfl) ?_
    refine lv_if_lt (tgt := 26) X.1 X.2.1 dX1_open_11 (by decide) (fun c2 => ?_) (fun c2 => ?_)
    · replace hF := fb_pos c2 hF
      exact rt_v X hlk hr hI hF dX1_open_26
    · replace hF := fb_neg c2 hF
      refine lv_iload_n X.1 X.2.1 dX1_open_14 rfl (lv_at hl 3 rfl) ?_
      refine lv_sipush (v := 1000) X.1 X.2.1 dX1_open_15 (by decide) ?_
      refine lv_aload_n X.1 X.2.1 dX1_open_18 rfl (lv_at hl 0 rfl) ?_
      refine g_X1_usedWords (v := gI σ 10) X hI rfl dX1_open_19 ?_
      refine lv_isub X.1 X.2.1 dX1_open_22 ?_
      refine lv_icmp_le (tgt := 27) X.1 X.2.1 dX1_open_23 (by decide) (fun c3 => ?_) (fun c3 => ?_)
      · replace hF := fb_pos c3 hF
        refine lv_aload_n X.1 X.2.1 dX1_open_27 rfl (lv_at hl 0 rfl) ?_
        refine g_X1_segments X hI dX1_open_28 ?_
        refine lv_aload_n X.1 X.2.1 dX1_open_31 rfl (lv_at hl 0 rfl) ?_
        refine g_X1_count (v := gI σ 9) X hI rfl dX1_open_32 ?_
        refine lv_iload_n X.1 X.2.1 dX1_open_35 rfl (lv_at hl 1 rfl) ?_
        obtain ⟨h4, hF⟩ := fb_chk hF
        refine sC_5 X hI h4 dX1_open_36 (fun H locs hI => ?_)
        refine lv_aload_n X.1 X.2.1 dX1_open_37 rfl (lv_at hl 0 rfl) ?_
        refine g_X1_places X hI dX1_open_38 ?_
        refine lv_aload_n X.1 X.2.1 dX1_open_41 rfl (lv_at hl 0 rfl) ?_
        refine g_X1_count (v := gI σ 9) X hI rfl dX1_open_42 ?_
        refine lv_iload_n X.1 X.2.1 dX1_open_45 rfl (lv_at hl 2 rfl) ?_
        obtain ⟨h5, hF⟩ := fb_chk hF
        refine sC_6 X hI h5 dX1_open_46 (fun H locs hI => ?_)
        refine lv_aload_n X.1 X.2.1 dX1_open_47 rfl (lv_at hl 0 rfl) ?_
        refine g_X1_localCounts X hI dX1_open_48 ?_
        refine lv_aload_n X.1 X.2.1 dX1_open_51 rfl (lv_at hl 0 rfl) ?_
        refine g_X1_count (v := gI σ 9) X hI rfl dX1_open_52 ?_
        refine lv_iload_n X.1 X.2.1 dX1_open_55 rfl (lv_at hl 3 rfl) ?_
        obtain ⟨h6, hF⟩ := fb_chk hF
        refine sC_7 X hI h6 dX1_open_56 (fun H locs hI => ?_)
        refine lv_aload_n X.1 X.2.1 dX1_open_57 rfl (lv_at hl 0 rfl) ?_
        refine g_X1_firstWords X hI dX1_open_58 ?_
        refine lv_aload_n X.1 X.2.1 dX1_open_61 rfl (lv_at hl 0 rfl) ?_
        refine g_X1_count (v := gI σ 9) X hI rfl dX1_open_62 ?_
        refine lv_aload_n X.1 X.2.1 dX1_open_65 rfl (lv_at hl 0 rfl) ?_
        refine g_X1_usedWords (v := gI σ 10) X hI rfl dX1_open_66 ?_
        obtain ⟨h7, hF⟩ := fb_chk hF
        refine sC_8 X hI h7 dX1_open_69 (fun H locs hI => ?_)
        refine lv_iconst (v := 0) X.1 X.2.1 dX1_open_70 (by decide) ?_
        refine lv_istore (lv' := [(5, .int 0), (0, .ref (q 4)), (1, .int x1), (2, .int x2), (3, .int x3), (4, .int x4)]) X.1 X.2.1 dX1_open_71 hl (by decide) rfl (fun ls hl => ?_)
        exact w_b_X1_open_73 X hlk hr 8 x3 x4 0 _ _ _ ls hF hI (lv_sub hl [1, 4, 5, 0] rfl)
      · replace hF := fb_neg c3 hF
        exact rt_v X hlk hr hI hF dX1_open_26
abbrev rm_X1_close : Room := { frames := 0, cells := 0, slots := 0, locals := 0 }
def f_X1_close (σ : St) : Option (Int32 × St) :=
  if (gI σ 9) ≤ 0 then
    some (0, σ)
  else
    if inB ((gI σ 9) - 1) 500 = true then
      some (0, sI (sI σ 9 ((gI σ 9) - 1)) 10 (gA σ 8 ((gI σ 9) - 1)))
    else none
set_option maxHeartbeats 4000000 in
set_option maxRecDepth 100000 in
theorem m_X1_close (l : Launch) (D : va_G) (ty : Nat → ClassId) (q : Nat → Nat) (σ : St) (sz : Nat) {res : Int32 × St} (hF : f_X1_close  σ = some res) : Met l yX1_close (wsy yX1_close cX1_close 1 none) rm_X1_close (Pcw D ty (FxC q) (wC ty q σ) sz [.ref (q 4)]) (Qvw D ty (wC ty q) (va_A (wC ty q σ) sz) res) 0 0 (va_A (wC ty q σ) sz) := by
  refine en_w (Qc := fun A => Qvw D ty (wC ty q) A res) (by decide) (Nat.le_of_ble_eq_true rfl) ?_
  intro p e s m args below meth c A X hlk hr _ H locs hI ls hl
  have X : CallFix p m c cX1_close 1 s args tb RX1 := X
  have hl : lv_has ls 1 [(0, .ref (q 4))] := hl
  unfold f_X1_close at hF
  refine lv_aload_n X.1 X.2.1 dX1_close_0 rfl (lv_at hl 0 rfl) ?_
  refine g_X1_count (v := gI σ 9) X hI rfl dX1_close_1 ?_
  refine lv_if_le (tgt := 30) X.1 X.2.1 dX1_close_4 (by decide) (fun c1 => ?_) (fun c1 => ?_)
  · replace hF := fb_pos c1 hF
    exact rt_v X hlk hr hI hF dX1_close_30
  · replace hF := fb_neg c1 hF
    refine lv_aload_n X.1 X.2.1 dX1_close_7 rfl (lv_at hl 0 rfl) ?_
    refine lv_dup X.1 X.2.1 dX1_close_8 rfl ?_
    refine g_X1_count (v := gI σ 9) X hI rfl dX1_close_9 ?_
    refine lv_iconst (v := 1) X.1 X.2.1 dX1_close_12 (by decide) ?_
    refine lv_isub X.1 X.2.1 dX1_close_13 ?_
    refine p_X1_count X hI dX1_close_14 (fun H locs hI => ?_)
    refine lv_aload_n X.1 X.2.1 dX1_close_17 rfl (lv_at hl 0 rfl) ?_
    refine lv_aload_n X.1 X.2.1 dX1_close_18 rfl (lv_at hl 0 rfl) ?_
    refine g_X1_firstWords X hI dX1_close_19 ?_
    refine lv_aload_n X.1 X.2.1 dX1_close_22 rfl (lv_at hl 0 rfl) ?_
    refine g_X1_count (v := ((gI σ 9) - 1)) X hI rfl dX1_close_23 ?_
    obtain ⟨h2, hF⟩ := fb_chk hF
    refine aC_8 (v := gA σ 8 ((gI σ 9) - 1)) X hI rfl h2 dX1_close_26 ?_
    refine p_X1_usedWords X hI dX1_close_27 (fun H locs hI => ?_)
    exact rt_v X hlk hr hI hF dX1_close_30
abbrev rm_X1_moveTo : Room := { frames := 0, cells := 0, slots := 0, locals := 0 }
def f_X1_moveTo (x1 : Int32) (σ : St) : Option (Int32 × St) :=
  if (gI σ 9) ≤ 0 then
    some (0, σ)
  else
    if inB ((gI σ 9) - 1) 500 = true then
      some (0, sA σ 6 ((gI σ 9) - 1) x1)
    else none
set_option maxHeartbeats 4000000 in
set_option maxRecDepth 100000 in
theorem m_X1_moveTo (l : Launch) (D : va_G) (ty : Nat → ClassId) (q : Nat → Nat) (σ : St) (sz : Nat) (x1 : Int32) {res : Int32 × St} (hF : f_X1_moveTo x1 σ = some res) : Met l yX1_moveTo (wsy yX1_moveTo cX1_moveTo 2 none) rm_X1_moveTo (Pcw D ty (FxC q) (wC ty q σ) sz [.ref (q 4), .int x1]) (Qvw D ty (wC ty q) (va_A (wC ty q σ) sz) res) 0 0 (va_A (wC ty q σ) sz) := by
  refine en_w (Qc := fun A => Qvw D ty (wC ty q) A res) (by decide) (Nat.le_of_ble_eq_true rfl) ?_
  intro p e s m args below meth c A X hlk hr _ H locs hI ls hl
  have X : CallFix p m c cX1_moveTo 2 s args tb RX1 := X
  have hl : lv_has ls 2 [(0, .ref (q 4)), (1, .int x1)] := hl
  unfold f_X1_moveTo at hF
  refine lv_aload_n X.1 X.2.1 dX1_moveTo_0 rfl (lv_at hl 0 rfl) ?_
  refine g_X1_count (v := gI σ 9) X hI rfl dX1_moveTo_1 ?_
  refine lv_if_le (tgt := 19) X.1 X.2.1 dX1_moveTo_4 (by decide) (fun c1 => ?_) (fun c1 => ?_)
  · replace hF := fb_pos c1 hF
    exact rt_v X hlk hr hI hF dX1_moveTo_19
  · replace hF := fb_neg c1 hF
    refine lv_aload_n X.1 X.2.1 dX1_moveTo_7 rfl (lv_at hl 0 rfl) ?_
    refine g_X1_places X hI dX1_moveTo_8 ?_
    refine lv_aload_n X.1 X.2.1 dX1_moveTo_11 rfl (lv_at hl 0 rfl) ?_
    refine g_X1_count (v := gI σ 9) X hI rfl dX1_moveTo_12 ?_
    refine lv_iconst (v := 1) X.1 X.2.1 dX1_moveTo_15 (by decide) ?_
    refine lv_isub X.1 X.2.1 dX1_moveTo_16 ?_
    refine lv_iload_n X.1 X.2.1 dX1_moveTo_17 rfl (lv_at hl 1 rfl) ?_
    obtain ⟨h2, hF⟩ := fb_chk hF
    refine sC_6 X hI h2 dX1_moveTo_18 (fun H locs hI => ?_)
    exact rt_v X hlk hr hI hF dX1_moveTo_19
abbrev rm_X1_moveCallerTo : Room := { frames := 0, cells := 0, slots := 0, locals := 0 }
def f_X1_moveCallerTo (x1 : Int32) (σ : St) : Option (Int32 × St) :=
  if (gI σ 9) ≤ 1 then
    some (0, σ)
  else
    if inB ((gI σ 9) - 2) 500 = true then
      some (0, sA σ 6 ((gI σ 9) - 2) x1)
    else none
set_option maxHeartbeats 4000000 in
set_option maxRecDepth 100000 in
theorem m_X1_moveCallerTo (l : Launch) (D : va_G) (ty : Nat → ClassId) (q : Nat → Nat) (σ : St) (sz : Nat) (x1 : Int32) {res : Int32 × St} (hF : f_X1_moveCallerTo x1 σ = some res) : Met l yX1_moveCallerTo (wsy yX1_moveCallerTo cX1_moveCallerTo 2 none) rm_X1_moveCallerTo (Pcw D ty (FxC q) (wC ty q σ) sz [.ref (q 4), .int x1]) (Qvw D ty (wC ty q) (va_A (wC ty q σ) sz) res) 0 0 (va_A (wC ty q σ) sz) := by
  refine en_w (Qc := fun A => Qvw D ty (wC ty q) A res) (by decide) (Nat.le_of_ble_eq_true rfl) ?_
  intro p e s m args below meth c A X hlk hr _ H locs hI ls hl
  have X : CallFix p m c cX1_moveCallerTo 2 s args tb RX1 := X
  have hl : lv_has ls 2 [(0, .ref (q 4)), (1, .int x1)] := hl
  unfold f_X1_moveCallerTo at hF
  refine lv_aload_n X.1 X.2.1 dX1_moveCallerTo_0 rfl (lv_at hl 0 rfl) ?_
  refine g_X1_count (v := gI σ 9) X hI rfl dX1_moveCallerTo_1 ?_
  refine lv_iconst (v := 1) X.1 X.2.1 dX1_moveCallerTo_4 (by decide) ?_
  refine lv_icmp_le (tgt := 20) X.1 X.2.1 dX1_moveCallerTo_5 (by decide) (fun c1 => ?_) (fun c1 => ?_)
  · replace hF := fb_pos c1 hF
    exact rt_v X hlk hr hI hF dX1_moveCallerTo_20
  · replace hF := fb_neg c1 hF
    refine lv_aload_n X.1 X.2.1 dX1_moveCallerTo_8 rfl (lv_at hl 0 rfl) ?_
    refine g_X1_places X hI dX1_moveCallerTo_9 ?_
    refine lv_aload_n X.1 X.2.1 dX1_moveCallerTo_12 rfl (lv_at hl 0 rfl) ?_
    refine g_X1_count (v := gI σ 9) X hI rfl dX1_moveCallerTo_13 ?_
    refine lv_iconst (v := 2) X.1 X.2.1 dX1_moveCallerTo_16 (by decide) ?_
    refine lv_isub X.1 X.2.1 dX1_moveCallerTo_17 ?_
    refine lv_iload_n X.1 X.2.1 dX1_moveCallerTo_18 rfl (lv_at hl 1 rfl) ?_
    obtain ⟨h2, hF⟩ := fb_chk hF
    refine sC_6 X hI h2 dX1_moveCallerTo_19 (fun H locs hI => ?_)
    exact rt_v X hlk hr hI hF dX1_moveCallerTo_20
abbrev rm_X1_push : Room := { frames := 0, cells := 0, slots := 0, locals := 0 }
def f_X1_push (x1 : Int32) (σ : St) : Option (Int32 × St) :=
  if 1000 ≤ (gI σ 10) then
    some (0, σ)
  else
    if inB (gI σ 10) 1000 = true then
      some (0, sI (sA σ 9 (gI σ 10) x1) 10 ((gI σ 10) + 1))
    else none
set_option maxHeartbeats 4000000 in
set_option maxRecDepth 100000 in
theorem m_X1_push (l : Launch) (D : va_G) (ty : Nat → ClassId) (q : Nat → Nat) (σ : St) (sz : Nat) (x1 : Int32) {res : Int32 × St} (hF : f_X1_push x1 σ = some res) : Met l yX1_push (wsy yX1_push cX1_push 2 none) rm_X1_push (Pcw D ty (FxC q) (wC ty q σ) sz [.ref (q 4), .int x1]) (Qvw D ty (wC ty q) (va_A (wC ty q σ) sz) res) 0 0 (va_A (wC ty q σ) sz) := by
  refine en_w (Qc := fun A => Qvw D ty (wC ty q) A res) (by decide) (Nat.le_of_ble_eq_true rfl) ?_
  intro p e s m args below meth c A X hlk hr _ H locs hI ls hl
  have X : CallFix p m c cX1_push 2 s args tb RX1 := X
  have hl : lv_has ls 2 [(0, .ref (q 4)), (1, .int x1)] := hl
  unfold f_X1_push at hF
  refine lv_aload_n X.1 X.2.1 dX1_push_0 rfl (lv_at hl 0 rfl) ?_
  refine g_X1_usedWords (v := gI σ 10) X hI rfl dX1_push_1 ?_
  refine lv_sipush (v := 1000) X.1 X.2.1 dX1_push_4 (by decide) ?_
  refine lv_icmp_ge (tgt := 30) X.1 X.2.1 dX1_push_7 (by decide) (fun c1 => ?_) (fun c1 => ?_)
  · replace hF := fb_pos c1 hF
    exact rt_v X hlk hr hI hF dX1_push_30
  · replace hF := fb_neg c1 hF
    refine lv_aload_n X.1 X.2.1 dX1_push_10 rfl (lv_at hl 0 rfl) ?_
    refine g_X1_words X hI dX1_push_11 ?_
    refine lv_aload_n X.1 X.2.1 dX1_push_14 rfl (lv_at hl 0 rfl) ?_
    refine g_X1_usedWords (v := gI σ 10) X hI rfl dX1_push_15 ?_
    refine lv_iload_n X.1 X.2.1 dX1_push_18 rfl (lv_at hl 1 rfl) ?_
    obtain ⟨h2, hF⟩ := fb_chk hF
    refine sC_9 X hI h2 dX1_push_19 (fun H locs hI => ?_)
    refine lv_aload_n X.1 X.2.1 dX1_push_20 rfl (lv_at hl 0 rfl) ?_
    refine lv_dup X.1 X.2.1 dX1_push_21 rfl ?_
    refine g_X1_usedWords (v := gI σ 10) X hI rfl dX1_push_22 ?_
    refine lv_iconst (v := 1) X.1 X.2.1 dX1_push_25 (by decide) ?_
    refine lv_iadd X.1 X.2.1 dX1_push_26 ?_
    refine p_X1_usedWords X hI dX1_push_27 (fun H locs hI => ?_)
    exact rt_v X hlk hr hI hF dX1_push_30
abbrev rm_X1_pop : Room := { frames := 1, cells := 0, slots := 0, locals := 20 }
def f_X1_pop (σ : St) : Option (Int32 × St) :=
  (f_X1_depth σ).bind fun u1 =>
  if 0 < u1 then
    if inB ((gI σ 10) - 1) 1000 = true then
      some (gA σ 9 ((gI σ 10) - 1), sI σ 10 ((gI σ 10) - 1))
    else none
  else
    some (0, σ)
set_option maxHeartbeats 4000000 in
set_option maxRecDepth 100000 in
theorem m_X1_pop (l : Launch) (D : va_G) (ty : Nat → ClassId) (q : Nat → Nat) (σ : St) (sz : Nat) {res : Int32 × St} (hF : f_X1_pop  σ = some res) : Met l yX1_pop (wsy yX1_pop cX1_pop 1 (some .int)) rm_X1_pop (Pcw D ty (FxC q) (wC ty q σ) sz [.ref (q 4)]) (Qiw D ty (wC ty q) (va_A (wC ty q σ) sz) res) 0 0 (va_A (wC ty q σ) sz) := by
  refine en_w (Qc := fun A => Qiw D ty (wC ty q) A res) (by decide) (Nat.le_of_ble_eq_true rfl) ?_
  intro p e s m args below meth c A X hlk hr _ H locs hI ls hl
  have X : CallFix p m c cX1_pop 1 s args tb RX1 := X
  have hl : lv_has ls 1 [(0, .ref (q 4))] := hl
  unfold f_X1_pop at hF
  refine lv_aload_n X.1 X.2.1 dX1_pop_0 rfl (lv_at hl 0 rfl) ?_
  obtain ⟨u1, h2, hF⟩ := fb_bnd hF
  refine cl_i (w := wC ty q) (σ := σ) (rest := []) X (fxC q) hI (m_X1_depth l D ty q σ _  h2) ok_X1_depth ml_X1_34 ⟨rfl, rfl, Nat.le_of_ble_eq_true rfl, Nat.le_of_ble_eq_true rfl⟩ 4 rc_X1 rfl rfl hl.1 rfl (Nat.le_of_ble_eq_true rfl) ⟨Nat.le_of_ble_eq_true rfl, Nat.le_of_ble_eq_true rfl⟩ dX1_pop_1 (fun H locs hI => ?_)
  refine lv_if_gt (tgt := 9) X.1 X.2.1 dX1_pop_4 (by decide) (fun c3 => ?_) (fun c3 => ?_)
  · replace hF := fb_pos c3 hF
    refine lv_aload_n X.1 X.2.1 dX1_pop_9 rfl (lv_at hl 0 rfl) ?_
    refine lv_dup X.1 X.2.1 dX1_pop_10 rfl ?_
    refine g_X1_usedWords (v := gI σ 10) X hI rfl dX1_pop_11 ?_
    refine lv_iconst (v := 1) X.1 X.2.1 dX1_pop_14 (by decide) ?_
    refine lv_isub X.1 X.2.1 dX1_pop_15 ?_
    refine p_X1_usedWords X hI dX1_pop_16 (fun H locs hI => ?_)
    refine lv_aload_n X.1 X.2.1 dX1_pop_19 rfl (lv_at hl 0 rfl) ?_
    refine g_X1_words X hI dX1_pop_20 ?_
    refine lv_aload_n X.1 X.2.1 dX1_pop_23 rfl (lv_at hl 0 rfl) ?_
    refine g_X1_usedWords (v := ((gI σ 10) - 1)) X hI rfl dX1_pop_24 ?_
    obtain ⟨h4, hF⟩ := fb_chk hF
    refine aC_9 (v := gA σ 9 ((gI σ 10) - 1)) X hI rfl h4 dX1_pop_27 ?_
    exact rt_i X hlk hr hI hF dX1_pop_28
  · replace hF := fb_neg c3 hF
    refine lv_iconst (v := 0) X.1 X.2.1 dX1_pop_7 (by decide) ?_
    exact rt_i X hlk hr hI hF dX1_pop_8
abbrev rm_X1_hasLocal : Room := { frames := 0, cells := 0, slots := 0, locals := 0 }
def f_X1_hasLocal (x1 x2 : Int32) (σ : St) : Option Int32 :=
  if x1 < 0 then
    some 0
  else
    if (gI σ 9) ≤ x1 then
      some 0
    else
      if x2 < 0 then
        some 0
      else
        if inB x1 500 = true then
          if (gA σ 7 x1) ≤ x2 then
            some 0
          else
            some 1
        else none
set_option maxHeartbeats 4000000 in
set_option maxRecDepth 100000 in
theorem m_X1_hasLocal (l : Launch) (D : va_G) (ty : Nat → ClassId) (q : Nat → Nat) (σ : St) (sz : Nat) (x1 x2 : Int32) {rr : Int32} (hF : f_X1_hasLocal x1 x2 σ = some rr) : Met l yX1_hasLocal (wsy yX1_hasLocal cX1_hasLocal 3 (some .boolean)) rm_X1_hasLocal (Pcw D ty (FxC q) (wC ty q σ) sz [.ref (q 4), .int x1, .int x2]) (Qiw D ty (wC ty q) (va_A (wC ty q σ) sz) (rr, σ)) 0 0 (va_A (wC ty q σ) sz) := by
  refine en_w (Qc := fun A => Qiw D ty (wC ty q) A (rr, σ)) (by decide) (Nat.le_of_ble_eq_true rfl) ?_
  intro p e s m args below meth c A X hlk hr _ H locs hI ls hl
  have X : CallFix p m c cX1_hasLocal 3 s args tb RX1 := X
  have hl : lv_has ls 3 [(0, .ref (q 4)), (1, .int x1), (2, .int x2)] := hl
  unfold f_X1_hasLocal at hF
  refine lv_iload_n X.1 X.2.1 dX1_hasLocal_0 rfl (lv_at hl 1 rfl) ?_
  refine lv_if_lt (tgt := 30) X.1 X.2.1 dX1_hasLocal_1 (by decide) (fun c1 => ?_) (fun c1 => ?_)
  · replace hF := fb_pos c1 hF
    refine lv_iconst (v := 0) X.1 X.2.1 dX1_hasLocal_30 (by decide) ?_
    exact rt_z X hlk hr hI rfl (fb_pr hF) dX1_hasLocal_31
  · replace hF := fb_neg c1 hF
    refine lv_iload_n X.1 X.2.1 dX1_hasLocal_4 rfl (lv_at hl 1 rfl) ?_
    refine lv_aload_n X.1 X.2.1 dX1_hasLocal_5 rfl (lv_at hl 0 rfl) ?_
    refine g_X1_count (v := gI σ 9) X hI rfl dX1_hasLocal_6 ?_
    refine lv_icmp_ge (tgt := 30) X.1 X.2.1 dX1_hasLocal_9 (by decide) (fun c2 => ?_) (fun c2 => ?_)
    · replace hF := fb_pos c2 hF
      refine lv_iconst (v := 0) X.1 X.2.1 dX1_hasLocal_30 (by decide) ?_
      exact rt_z X hlk hr hI rfl (fb_pr hF) dX1_hasLocal_31
    · replace hF := fb_neg c2 hF
      refine lv_iload_n X.1 X.2.1 dX1_hasLocal_12 rfl (lv_at hl 2 rfl) ?_
      refine lv_if_lt (tgt := 30) X.1 X.2.1 dX1_hasLocal_13 (by decide) (fun c3 => ?_) (fun c3 => ?_)
      · replace hF := fb_pos c3 hF
        refine lv_iconst (v := 0) X.1 X.2.1 dX1_hasLocal_30 (by decide) ?_
        exact rt_z X hlk hr hI rfl (fb_pr hF) dX1_hasLocal_31
      · replace hF := fb_neg c3 hF
        refine lv_iload_n X.1 X.2.1 dX1_hasLocal_16 rfl (lv_at hl 2 rfl) ?_
        refine lv_aload_n X.1 X.2.1 dX1_hasLocal_17 rfl (lv_at hl 0 rfl) ?_
        refine g_X1_localCounts X hI dX1_hasLocal_18 ?_
        refine lv_iload_n X.1 X.2.1 dX1_hasLocal_21 rfl (lv_at hl 1 rfl) ?_
        obtain ⟨h4, hF⟩ := fb_chk hF
        refine aC_7 (v := gA σ 7 x1) X hI rfl h4 dX1_hasLocal_22 ?_
        refine lv_icmp_ge (tgt := 30) X.1 X.2.1 dX1_hasLocal_23 (by decide) (fun c5 => ?_) (fun c5 => ?_)
        · replace hF := fb_pos c5 hF
          refine lv_iconst (v := 0) X.1 X.2.1 dX1_hasLocal_30 (by decide) ?_
          exact rt_z X hlk hr hI rfl (fb_pr hF) dX1_hasLocal_31
        · replace hF := fb_neg c5 hF
          refine lv_iconst (v := 1) X.1 X.2.1 dX1_hasLocal_26 (by decide) ?_
          refine lv_goto (tgt := 31) X.1 X.2.1 dX1_hasLocal_27 (by decide) ?_
          exact rt_z X hlk hr hI rfl (fb_pr hF) dX1_hasLocal_31
abbrev rm_X1_localAt : Room := { frames := 1, cells := 0, slots := 0, locals := 22 }
def f_X1_localAt (x1 x2 : Int32) (σ : St) : Option Int32 :=
  (f_X1_hasLocal x1 x2 σ).bind fun u1 =>
  if u1 = 0 then
    some 0
  else
    if inB x1 500 = true then
      if inB ((gA σ 8 x1) + x2) 1000 = true then
        some (gA σ 9 ((gA σ 8 x1) + x2))
      else none
    else none
set_option maxHeartbeats 4000000 in
set_option maxRecDepth 100000 in
theorem m_X1_localAt (l : Launch) (D : va_G) (ty : Nat → ClassId) (q : Nat → Nat) (σ : St) (sz : Nat) (x1 x2 : Int32) {rr : Int32} (hF : f_X1_localAt x1 x2 σ = some rr) : Met l yX1_localAt (wsy yX1_localAt cX1_localAt 3 (some .int)) rm_X1_localAt (Pcw D ty (FxC q) (wC ty q σ) sz [.ref (q 4), .int x1, .int x2]) (Qiw D ty (wC ty q) (va_A (wC ty q σ) sz) (rr, σ)) 0 0 (va_A (wC ty q σ) sz) := by
  refine en_w (Qc := fun A => Qiw D ty (wC ty q) A (rr, σ)) (by decide) (Nat.le_of_ble_eq_true rfl) ?_
  intro p e s m args below meth c A X hlk hr _ H locs hI ls hl
  have X : CallFix p m c cX1_localAt 3 s args tb RX1 := X
  have hl : lv_has ls 3 [(0, .ref (q 4)), (1, .int x1), (2, .int x2)] := hl
  unfold f_X1_localAt at hF
  refine lv_aload_n X.1 X.2.1 dX1_localAt_0 rfl (lv_at hl 0 rfl) ?_
  refine lv_iload_n X.1 X.2.1 dX1_localAt_1 rfl (lv_at hl 1 rfl) ?_
  refine lv_iload_n X.1 X.2.1 dX1_localAt_2 rfl (lv_at hl 2 rfl) ?_
  obtain ⟨u1, h2, hF⟩ := fb_bnd hF
  refine cl_i (w := wC ty q) (σ := σ) (rest := []) X (fxC q) hI (m_X1_hasLocal l D ty q σ _ x1 x2 h2) ok_X1_hasLocal ml_X1_38 ⟨rfl, rfl, Nat.le_of_ble_eq_true rfl, Nat.le_of_ble_eq_true rfl⟩ 4 rc_X1 rfl rfl hl.1 rfl (Nat.le_of_ble_eq_true rfl) ⟨Nat.le_of_ble_eq_true rfl, Nat.le_of_ble_eq_true rfl⟩ dX1_localAt_3 (fun H locs hI => ?_)
  refine lv_if_eq (tgt := 25) X.1 X.2.1 dX1_localAt_6 (by decide) (fun c3 => ?_) (fun c3 => ?_)
  · replace hF := fb_pos c3 hF
    refine lv_iconst (v := 0) X.1 X.2.1 dX1_localAt_25 (by decide) ?_
    exact rt_i X hlk hr hI (fb_pr hF) dX1_localAt_26
  · replace hF := fb_neg c3 hF
    refine lv_aload_n X.1 X.2.1 dX1_localAt_9 rfl (lv_at hl 0 rfl) ?_
    refine g_X1_words X hI dX1_localAt_10 ?_
    refine lv_aload_n X.1 X.2.1 dX1_localAt_13 rfl (lv_at hl 0 rfl) ?_
    refine g_X1_firstWords X hI dX1_localAt_14 ?_
    refine lv_iload_n X.1 X.2.1 dX1_localAt_17 rfl (lv_at hl 1 rfl) ?_
    obtain ⟨h4, hF⟩ := fb_chk hF
    refine aC_8 (v := gA σ 8 x1) X hI rfl h4 dX1_localAt_18 ?_
    refine lv_iload_n X.1 X.2.1 dX1_localAt_19 rfl (lv_at hl 2 rfl) ?_
    refine lv_iadd X.1 X.2.1 dX1_localAt_20 ?_
    obtain ⟨h5, hF⟩ := fb_chk hF
    refine aC_9 (v := gA σ 9 ((gA σ 8 x1) + x2)) X hI rfl h5 dX1_localAt_21 ?_
    refine lv_goto (tgt := 26) X.1 X.2.1 dX1_localAt_22 (by decide) ?_
    exact rt_i X hlk hr hI (fb_pr hF) dX1_localAt_26
abbrev rm_X1_setLocal : Room := { frames := 1, cells := 0, slots := 0, locals := 22 }
def f_X1_setLocal (x1 x2 x3 : Int32) (σ : St) : Option (Int32 × St) :=
  (f_X1_hasLocal x1 x2 σ).bind fun u1 =>
  if u1 = 0 then
    some (0, σ)
  else
    if inB x1 500 = true then
      if inB ((gA σ 8 x1) + x2) 1000 = true then
        some (0, sA σ 9 ((gA σ 8 x1) + x2) x3)
      else none
    else none
set_option maxHeartbeats 4000000 in
set_option maxRecDepth 100000 in
theorem m_X1_setLocal (l : Launch) (D : va_G) (ty : Nat → ClassId) (q : Nat → Nat) (σ : St) (sz : Nat) (x1 x2 x3 : Int32) {res : Int32 × St} (hF : f_X1_setLocal x1 x2 x3 σ = some res) : Met l yX1_setLocal (wsy yX1_setLocal cX1_setLocal 4 none) rm_X1_setLocal (Pcw D ty (FxC q) (wC ty q σ) sz [.ref (q 4), .int x1, .int x2, .int x3]) (Qvw D ty (wC ty q) (va_A (wC ty q σ) sz) res) 0 0 (va_A (wC ty q σ) sz) := by
  refine en_w (Qc := fun A => Qvw D ty (wC ty q) A res) (by decide) (Nat.le_of_ble_eq_true rfl) ?_
  intro p e s m args below meth c A X hlk hr _ H locs hI ls hl
  have X : CallFix p m c cX1_setLocal 4 s args tb RX1 := X
  have hl : lv_has ls 4 [(0, .ref (q 4)), (1, .int x1), (2, .int x2), (3, .int x3)] := hl
  unfold f_X1_setLocal at hF
  refine lv_aload_n X.1 X.2.1 dX1_setLocal_0 rfl (lv_at hl 0 rfl) ?_
  refine lv_iload_n X.1 X.2.1 dX1_setLocal_1 rfl (lv_at hl 1 rfl) ?_
  refine lv_iload_n X.1 X.2.1 dX1_setLocal_2 rfl (lv_at hl 2 rfl) ?_
  obtain ⟨u1, h2, hF⟩ := fb_bnd hF
  refine cl_i (w := wC ty q) (σ := σ) (rest := []) X (fxC q) hI (m_X1_hasLocal l D ty q σ _ x1 x2 h2) ok_X1_hasLocal ml_X1_38 ⟨rfl, rfl, Nat.le_of_ble_eq_true rfl, Nat.le_of_ble_eq_true rfl⟩ 4 rc_X1 rfl rfl hl.1 rfl (Nat.le_of_ble_eq_true rfl) ⟨Nat.le_of_ble_eq_true rfl, Nat.le_of_ble_eq_true rfl⟩ dX1_setLocal_3 (fun H locs hI => ?_)
  refine lv_if_eq (tgt := 23) X.1 X.2.1 dX1_setLocal_6 (by decide) (fun c3 => ?_) (fun c3 => ?_)
  · replace hF := fb_pos c3 hF
    exact rt_v X hlk hr hI hF dX1_setLocal_23
  · replace hF := fb_neg c3 hF
    refine lv_aload_n X.1 X.2.1 dX1_setLocal_9 rfl (lv_at hl 0 rfl) ?_
    refine g_X1_words X hI dX1_setLocal_10 ?_
    refine lv_aload_n X.1 X.2.1 dX1_setLocal_13 rfl (lv_at hl 0 rfl) ?_
    refine g_X1_firstWords X hI dX1_setLocal_14 ?_
    refine lv_iload_n X.1 X.2.1 dX1_setLocal_17 rfl (lv_at hl 1 rfl) ?_
    obtain ⟨h4, hF⟩ := fb_chk hF
    refine aC_8 (v := gA σ 8 x1) X hI rfl h4 dX1_setLocal_18 ?_
    refine lv_iload_n X.1 X.2.1 dX1_setLocal_19 rfl (lv_at hl 2 rfl) ?_
    refine lv_iadd X.1 X.2.1 dX1_setLocal_20 ?_
    refine lv_iload_n X.1 X.2.1 dX1_setLocal_21 rfl (lv_at hl 3 rfl) ?_
    obtain ⟨h5, hF⟩ := fb_chk hF
    refine sC_9 X hI h5 dX1_setLocal_22 (fun H locs hI => ?_)
    exact rt_v X hlk hr hI hF dX1_setLocal_23
