abbrev rm_X2_empty : Room := { frames := 0, cells := 0, slots := 0, locals := 0 }
def b_X2_empty_2 : Nat → Int32 → Int32 → St → Option (Int32 × St)
  | 0, _, _, _ => none
  | n + 1, x1, x2, σ =>
    if 5 ≤ x2 then
      some (0, sI (sI (sI (sI (sI (sI σ 3 0) 4 x1) 5 0) 6 0) 7 0) 8 0)
    else
      if inB x2 5 = true then
        if inB x2 5 = true then
          if inB x2 5 = true then
            b_X2_empty_2 n x1 (x2 + 1) (sA (sA (sA σ 2 x2 0) 3 x2 0) 4 x2 0)
          else none
        else none
      else none
set_option maxHeartbeats 4000000 in
set_option maxRecDepth 100000 in
theorem w_b_X2_empty_2 {l : Launch} {p : Program} {e : Env} {s : State} {m : MethodId} {args : Array Value} {below : List Frame} {meth : Method} {c : Code} {A : Nat → Prop} {D : va_G} {ty : Nat → ClassId} {q : Nat → Nat} {res : Int32 × St} (X : CallFix p m c cX2_empty 3 s args tb RX2) (hlk : meth.locks = false) (hr : meth.sig.returnType = none) : ∀ (n : Nat) (x1 x2 : Int32) (σ : St) (H : Heap) (locs : List Loc) (ls : Array Slot), b_X2_empty_2 n x1 x2 σ = some res → Inw D ty (FxC q) (wC ty q σ) A s H locs → lv_has ls 3 [(0, .ref (q 3)), (1, .int x1), (2, .int x2)] → W p l e rm_X2_empty s m args below meth c H locs 0 0 (MQ below (Qvw D ty (wC ty q) A res) args s 0 0 A) (F0 m 2 ls []) := by
  intro n
  induction n with
  | zero =>
    intro x1 x2 σ H locs ls hF
    cases hF
  | succ n ih =>
    intro x1 x2 σ H locs ls hF hI hl
    rw [b_X2_empty_2] at hF
    refine lv_iload_n X.1 X.2.1 dX2_empty_2 rfl (lv_at hl 2 rfl) ?_
    refine lv_iconst (v := 5) X.1 X.2.1 dX2_empty_3 (by decide) ?_
    refine lv_icmp_ge (tgt := 34) X.1 X.2.1 dX2_empty_4 (by decide) (fun c1 => ?_) (fun c1 => ?_)
    · replace hF := fb_pos c1 hF
      refine lv_aload_n X.1 X.2.1 dX2_empty_34 rfl (lv_at hl 0 rfl) ?_
      refine lv_iconst (v := 0) X.1 X.2.1 dX2_empty_35 (by decide) ?_
      refine p_X2_calls X hI dX2_empty_36 (fun H locs hI => ?_)
      refine lv_aload_n X.1 X.2.1 dX2_empty_39 rfl (lv_at hl 0 rfl) ?_
      refine lv_iload_n X.1 X.2.1 dX2_empty_40 rfl (lv_at hl 1 rfl) ?_
      refine p_X2_limit X hI dX2_empty_41 (fun H locs hI => ?_)
      refine lv_aload_n X.1 X.2.1 dX2_empty_44 rfl (lv_at hl 0 rfl) ?_
      refine lv_iconst (v := 0) X.1 X.2.1 dX2_empty_45 (by decide) ?_
      refine p_X2_held X hI dX2_empty_46 (fun H locs hI => ?_)
      refine lv_aload_n X.1 X.2.1 dX2_empty_49 rfl (lv_at hl 0 rfl) ?_
      refine lv_iconst (v := 0) X.1 X.2.1 dX2_empty_50 (by decide) ?_
      refine p_X2_most X hI dX2_empty_51 (fun H locs hI => ?_)
      refine lv_aload_n X.1 X.2.1 dX2_empty_54 rfl (lv_at hl 0 rfl) ?_
      refine lv_iconst (v := 0) X.1 X.2.1 dX2_empty_55 (by decide) ?_
      refine p_X2_loads X hI dX2_empty_56 (fun H locs hI => ?_)
      refine lv_aload_n X.1 X.2.1 dX2_empty_59 rfl (lv_at hl 0 rfl) ?_
      refine lv_iconst (v := 0) X.1 X.2.1 dX2_empty_60 (by decide) ?_
      refine p_X2_gone X hI dX2_empty_61 (fun H locs hI => ?_)
      exact rt_v X hlk hr hI hF dX2_empty_64
    · replace hF := fb_neg c1 hF
      refine lv_aload_n X.1 X.2.1 dX2_empty_7 rfl (lv_at hl 0 rfl) ?_
      refine g_X2_residentBytes X hI dX2_empty_8 ?_
      refine lv_iload_n X.1 X.2.1 dX2_empty_11 rfl (lv_at hl 2 rfl) ?_
      refine lv_iconst (v := 0) X.1 X.2.1 dX2_empty_12 (by decide) ?_
      obtain ⟨h2, hF⟩ := fb_chk hF
      refine sC_2 X hI h2 dX2_empty_13 (fun H locs hI => ?_)
      refine lv_aload_n X.1 X.2.1 dX2_empty_14 rfl (lv_at hl 0 rfl) ?_
      refine g_X2_frameCounts X hI dX2_empty_15 ?_
      refine lv_iload_n X.1 X.2.1 dX2_empty_18 rfl (lv_at hl 2 rfl) ?_
      refine lv_iconst (v := 0) X.1 X.2.1 dX2_empty_19 (by decide) ?_
      obtain ⟨h3, hF⟩ := fb_chk hF
      refine sC_3 X hI h3 dX2_empty_20 (fun H locs hI => ?_)
      refine lv_aload_n X.1 X.2.1 dX2_empty_21 rfl (lv_at hl 0 rfl) ?_
      refine g_X2_latestCalls X hI dX2_empty_22 ?_
      refine lv_iload_n X.1 X.2.1 dX2_empty_25 rfl (lv_at hl 2 rfl) ?_
      refine lv_iconst (v := 0) X.1 X.2.1 dX2_empty_26 (by decide) ?_
      obtain ⟨h4, hF⟩ := fb_chk hF
      refine sC_4 X hI h4 dX2_empty_27 (fun H locs hI => ?_)
      refine lv_iinc (v := x2 + 1) (lv' := [(2, .int (x2 + 1)), (0, .ref (q 3)), (1, .int x1)]) X.1 X.2.1 dX2_empty_28 hl (k := 2) rfl rfl (by decide) rfl (fun ls hl => ?_)
      refine lv_goto (tgt := 2) X.1 X.2.1 dX2_empty_31 (by decide) ?_
      exact ih x1 (x2 + 1) _ _ _ ls hF hI (lv_sub hl [1, 2, 0] rfl)
def f_X2_empty (x1 : Int32) (σ : St) : Option (Int32 × St) :=
  b_X2_empty_2 6 x1 0 σ
set_option maxHeartbeats 4000000 in
set_option maxRecDepth 100000 in
theorem m_X2_empty (l : Launch) (D : va_G) (ty : Nat → ClassId) (q : Nat → Nat) (σ : St) (sz : Nat) (x1 : Int32) {res : Int32 × St} (hF : f_X2_empty x1 σ = some res) : Met l yX2_empty (wsy yX2_empty cX2_empty 3 none) rm_X2_empty (Pcw D ty (FxC q) (wC ty q σ) sz [.ref (q 3), .int x1]) (Qvw D ty (wC ty q) (va_A (wC ty q σ) sz) res) 0 0 (va_A (wC ty q σ) sz) := by
  refine en_w (Qc := fun A => Qvw D ty (wC ty q) A res) (by decide) (Nat.le_of_ble_eq_true rfl) ?_
  intro p e s m args below meth c A X hlk hr _ H locs hI ls hl
  have X : CallFix p m c cX2_empty 3 s args tb RX2 := X
  have hl : lv_has ls 3 [(0, .ref (q 3)), (1, .int x1)] := hl
  unfold f_X2_empty at hF
  refine lv_iconst (v := 0) X.1 X.2.1 dX2_empty_0 (by decide) ?_
  refine lv_istore_n (lv' := [(2, .int 0), (0, .ref (q 3)), (1, .int x1)]) X.1 X.2.1 dX2_empty_1 rfl hl (by decide) rfl (fun ls hl => ?_)
  exact w_b_X2_empty_2 X hlk hr 6 x1 0 _ _ _ ls hF hI (lv_sub hl [1, 2, 0] rfl)
abbrev rm_X2_held : Room := { frames := 0, cells := 0, slots := 0, locals := 0 }
def f_X2_held (σ : St) : Option Int32 :=
  some (gI σ 5)
set_option maxHeartbeats 4000000 in
set_option maxRecDepth 100000 in
theorem m_X2_held (l : Launch) (D : va_G) (ty : Nat → ClassId) (q : Nat → Nat) (σ : St) (sz : Nat) {rr : Int32} (hF : f_X2_held  σ = some rr) : Met l yX2_held (wsy yX2_held cX2_held 1 (some .int)) rm_X2_held (Pcw D ty (FxC q) (wC ty q σ) sz [.ref (q 3)]) (Qiw D ty (wC ty q) (va_A (wC ty q σ) sz) (rr, σ)) 0 0 (va_A (wC ty q σ) sz) := by
  refine en_w (Qc := fun A => Qiw D ty (wC ty q) A (rr, σ)) (by decide) (Nat.le_of_ble_eq_true rfl) ?_
  intro p e s m args below meth c A X hlk hr _ H locs hI ls hl
  have X : CallFix p m c cX2_held 1 s args tb RX2 := X
  have hl : lv_has ls 1 [(0, .ref (q 3))] := hl
  unfold f_X2_held at hF
  refine lv_aload_n X.1 X.2.1 dX2_held_0 rfl (lv_at hl 0 rfl) ?_
  refine g_X2_held (v := gI σ 5) X hI rfl dX2_held_1 ?_
  exact rt_i X hlk hr hI (fb_pr hF) dX2_held_4
abbrev rm_X2_most : Room := { frames := 0, cells := 0, slots := 0, locals := 0 }
def f_X2_most (σ : St) : Option Int32 :=
  some (gI σ 6)
set_option maxHeartbeats 4000000 in
set_option maxRecDepth 100000 in
theorem m_X2_most (l : Launch) (D : va_G) (ty : Nat → ClassId) (q : Nat → Nat) (σ : St) (sz : Nat) {rr : Int32} (hF : f_X2_most  σ = some rr) : Met l yX2_most (wsy yX2_most cX2_most 1 (some .int)) rm_X2_most (Pcw D ty (FxC q) (wC ty q σ) sz [.ref (q 3)]) (Qiw D ty (wC ty q) (va_A (wC ty q σ) sz) (rr, σ)) 0 0 (va_A (wC ty q σ) sz) := by
  refine en_w (Qc := fun A => Qiw D ty (wC ty q) A (rr, σ)) (by decide) (Nat.le_of_ble_eq_true rfl) ?_
  intro p e s m args below meth c A X hlk hr _ H locs hI ls hl
  have X : CallFix p m c cX2_most 1 s args tb RX2 := X
  have hl : lv_has ls 1 [(0, .ref (q 3))] := hl
  unfold f_X2_most at hF
  refine lv_aload_n X.1 X.2.1 dX2_most_0 rfl (lv_at hl 0 rfl) ?_
  refine g_X2_most (v := gI σ 6) X hI rfl dX2_most_1 ?_
  exact rt_i X hlk hr hI (fb_pr hF) dX2_most_4
abbrev rm_X2_loads : Room := { frames := 0, cells := 0, slots := 0, locals := 0 }
def f_X2_loads (σ : St) : Option Int32 :=
  some (gI σ 7)
set_option maxHeartbeats 4000000 in
set_option maxRecDepth 100000 in
theorem m_X2_loads (l : Launch) (D : va_G) (ty : Nat → ClassId) (q : Nat → Nat) (σ : St) (sz : Nat) {rr : Int32} (hF : f_X2_loads  σ = some rr) : Met l yX2_loads (wsy yX2_loads cX2_loads 1 (some .int)) rm_X2_loads (Pcw D ty (FxC q) (wC ty q σ) sz [.ref (q 3)]) (Qiw D ty (wC ty q) (va_A (wC ty q σ) sz) (rr, σ)) 0 0 (va_A (wC ty q σ) sz) := by
  refine en_w (Qc := fun A => Qiw D ty (wC ty q) A (rr, σ)) (by decide) (Nat.le_of_ble_eq_true rfl) ?_
  intro p e s m args below meth c A X hlk hr _ H locs hI ls hl
  have X : CallFix p m c cX2_loads 1 s args tb RX2 := X
  have hl : lv_has ls 1 [(0, .ref (q 3))] := hl
  unfold f_X2_loads at hF
  refine lv_aload_n X.1 X.2.1 dX2_loads_0 rfl (lv_at hl 0 rfl) ?_
  refine g_X2_loads (v := gI σ 7) X hI rfl dX2_loads_1 ?_
  exact rt_i X hlk hr hI (fb_pr hF) dX2_loads_4
abbrev rm_X2_gone : Room := { frames := 0, cells := 0, slots := 0, locals := 0 }
def f_X2_gone (σ : St) : Option Int32 :=
  some (gI σ 8)
set_option maxHeartbeats 4000000 in
set_option maxRecDepth 100000 in
theorem m_X2_gone (l : Launch) (D : va_G) (ty : Nat → ClassId) (q : Nat → Nat) (σ : St) (sz : Nat) {rr : Int32} (hF : f_X2_gone  σ = some rr) : Met l yX2_gone (wsy yX2_gone cX2_gone 1 (some .int)) rm_X2_gone (Pcw D ty (FxC q) (wC ty q σ) sz [.ref (q 3)]) (Qiw D ty (wC ty q) (va_A (wC ty q σ) sz) (rr, σ)) 0 0 (va_A (wC ty q σ) sz) := by
  refine en_w (Qc := fun A => Qiw D ty (wC ty q) A (rr, σ)) (by decide) (Nat.le_of_ble_eq_true rfl) ?_
  intro p e s m args below meth c A X hlk hr _ H locs hI ls hl
  have X : CallFix p m c cX2_gone 1 s args tb RX2 := X
  have hl : lv_has ls 1 [(0, .ref (q 3))] := hl
  unfold f_X2_gone at hF
  refine lv_aload_n X.1 X.2.1 dX2_gone_0 rfl (lv_at hl 0 rfl) ?_
  refine g_X2_gone (v := gI σ 8) X hI rfl dX2_gone_1 ?_
  exact rt_i X hlk hr hI (fb_pr hF) dX2_gone_4
abbrev rm_X2_isResident : Room := { frames := 1, cells := 0, slots := 0, locals := 20 }
def f_X2_isResident (x1 : Int32) (σ : St) : Option Int32 :=
  (f_X4_isSegment x1 σ).bind fun u1 =>
  if u1 = 0 then
    some 0
  else
    if inB x1 5 = true then
      if (gA σ 2 x1) ≤ 0 then
        some 0
      else
        some 1
    else none
set_option maxHeartbeats 4000000 in
set_option maxRecDepth 100000 in
theorem m_X2_isResident (l : Launch) (D : va_G) (ty : Nat → ClassId) (q : Nat → Nat) (σ : St) (sz : Nat) (x1 : Int32) {rr : Int32} (hF : f_X2_isResident x1 σ = some rr) : Met l yX2_isResident (wsy yX2_isResident cX2_isResident 2 (some .boolean)) rm_X2_isResident (Pcw D ty (FxC q) (wC ty q σ) sz [.ref (q 3), .int x1]) (Qiw D ty (wC ty q) (va_A (wC ty q σ) sz) (rr, σ)) 0 0 (va_A (wC ty q σ) sz) := by
  refine en_w (Qc := fun A => Qiw D ty (wC ty q) A (rr, σ)) (by decide) (Nat.le_of_ble_eq_true rfl) ?_
  intro p e s m args below meth c A X hlk hr _ H locs hI ls hl
  have X : CallFix p m c cX2_isResident 2 s args tb RX2 := X
  have hl : lv_has ls 2 [(0, .ref (q 3)), (1, .int x1)] := hl
  unfold f_X2_isResident at hF
  refine lv_iload_n X.1 X.2.1 dX2_isResident_0 rfl (lv_at hl 1 rfl) ?_
  obtain ⟨u1, h2, hF⟩ := fb_bnd hF
  refine cn_i (w := wC ty q) (σ := σ) (rest := []) X (fxC q) hI (m_X4_isSegment l D ty q σ _ x1 h2) ok_X4_isSegment hI.2.2.2.2.2.2.2.2.2.2 ⟨rfl, rfl, Nat.le_of_ble_eq_true rfl, Nat.le_of_ble_eq_true rfl⟩ rfl hl.1 rfl (Nat.le_of_ble_eq_true rfl) ⟨Nat.le_of_ble_eq_true rfl, Nat.le_of_ble_eq_true rfl⟩ dX2_isResident_1 (fun H locs hI => ?_)
  refine lv_if_eq (tgt := 20) X.1 X.2.1 dX2_isResident_4 (by decide) (fun c3 => ?_) (fun c3 => ?_)
  · replace hF := fb_pos c3 hF
    refine lv_iconst (v := 0) X.1 X.2.1 dX2_isResident_20 (by decide) ?_
    exact rt_z X hlk hr hI rfl (fb_pr hF) dX2_isResident_21
  · replace hF := fb_neg c3 hF
    refine lv_aload_n X.1 X.2.1 dX2_isResident_7 rfl (lv_at hl 0 rfl) ?_
    refine g_X2_residentBytes X hI dX2_isResident_8 ?_
    refine lv_iload_n X.1 X.2.1 dX2_isResident_11 rfl (lv_at hl 1 rfl) ?_
    obtain ⟨h4, hF⟩ := fb_chk hF
    refine aC_2 (v := gA σ 2 x1) X hI rfl h4 dX2_isResident_12 ?_
    refine lv_if_le (tgt := 20) X.1 X.2.1 dX2_isResident_13 (by decide) (fun c5 => ?_) (fun c5 => ?_)
    · replace hF := fb_pos c5 hF
      refine lv_iconst (v := 0) X.1 X.2.1 dX2_isResident_20 (by decide) ?_
      exact rt_z X hlk hr hI rfl (fb_pr hF) dX2_isResident_21
    · replace hF := fb_neg c5 hF
      refine lv_iconst (v := 1) X.1 X.2.1 dX2_isResident_16 (by decide) ?_
      refine lv_goto (tgt := 21) X.1 X.2.1 dX2_isResident_17 (by decide) ?_
      exact rt_z X hlk hr hI rfl (fb_pr hF) dX2_isResident_21
abbrev rm_X2_isActive : Room := { frames := 1, cells := 0, slots := 0, locals := 20 }
def f_X2_isActive (x1 : Int32) (σ : St) : Option Int32 :=
  (f_X4_isSegment x1 σ).bind fun u1 =>
  if u1 = 0 then
    some 0
  else
    if inB x1 5 = true then
      if (gA σ 3 x1) ≤ 0 then
        some 0
      else
        some 1
    else none
set_option maxHeartbeats 4000000 in
set_option maxRecDepth 100000 in
theorem m_X2_isActive (l : Launch) (D : va_G) (ty : Nat → ClassId) (q : Nat → Nat) (σ : St) (sz : Nat) (x1 : Int32) {rr : Int32} (hF : f_X2_isActive x1 σ = some rr) : Met l yX2_isActive (wsy yX2_isActive cX2_isActive 2 (some .boolean)) rm_X2_isActive (Pcw D ty (FxC q) (wC ty q σ) sz [.ref (q 3), .int x1]) (Qiw D ty (wC ty q) (va_A (wC ty q σ) sz) (rr, σ)) 0 0 (va_A (wC ty q σ) sz) := by
  refine en_w (Qc := fun A => Qiw D ty (wC ty q) A (rr, σ)) (by decide) (Nat.le_of_ble_eq_true rfl) ?_
  intro p e s m args below meth c A X hlk hr _ H locs hI ls hl
  have X : CallFix p m c cX2_isActive 2 s args tb RX2 := X
  have hl : lv_has ls 2 [(0, .ref (q 3)), (1, .int x1)] := hl
  unfold f_X2_isActive at hF
  refine lv_iload_n X.1 X.2.1 dX2_isActive_0 rfl (lv_at hl 1 rfl) ?_
  obtain ⟨u1, h2, hF⟩ := fb_bnd hF
  refine cn_i (w := wC ty q) (σ := σ) (rest := []) X (fxC q) hI (m_X4_isSegment l D ty q σ _ x1 h2) ok_X4_isSegment hI.2.2.2.2.2.2.2.2.2.2 ⟨rfl, rfl, Nat.le_of_ble_eq_true rfl, Nat.le_of_ble_eq_true rfl⟩ rfl hl.1 rfl (Nat.le_of_ble_eq_true rfl) ⟨Nat.le_of_ble_eq_true rfl, Nat.le_of_ble_eq_true rfl⟩ dX2_isActive_1 (fun H locs hI => ?_)
  refine lv_if_eq (tgt := 20) X.1 X.2.1 dX2_isActive_4 (by decide) (fun c3 => ?_) (fun c3 => ?_)
  · replace hF := fb_pos c3 hF
    refine lv_iconst (v := 0) X.1 X.2.1 dX2_isActive_20 (by decide) ?_
    exact rt_z X hlk hr hI rfl (fb_pr hF) dX2_isActive_21
  · replace hF := fb_neg c3 hF
    refine lv_aload_n X.1 X.2.1 dX2_isActive_7 rfl (lv_at hl 0 rfl) ?_
    refine g_X2_frameCounts X hI dX2_isActive_8 ?_
    refine lv_iload_n X.1 X.2.1 dX2_isActive_11 rfl (lv_at hl 1 rfl) ?_
    obtain ⟨h4, hF⟩ := fb_chk hF
    refine aC_3 (v := gA σ 3 x1) X hI rfl h4 dX2_isActive_12 ?_
    refine lv_if_le (tgt := 20) X.1 X.2.1 dX2_isActive_13 (by decide) (fun c5 => ?_) (fun c5 => ?_)
    · replace hF := fb_pos c5 hF
      refine lv_iconst (v := 0) X.1 X.2.1 dX2_isActive_20 (by decide) ?_
      exact rt_z X hlk hr hI rfl (fb_pr hF) dX2_isActive_21
    · replace hF := fb_neg c5 hF
      refine lv_iconst (v := 1) X.1 X.2.1 dX2_isActive_16 (by decide) ?_
      refine lv_goto (tgt := 21) X.1 X.2.1 dX2_isActive_17 (by decide) ?_
      exact rt_z X hlk hr hI rfl (fb_pr hF) dX2_isActive_21
abbrev rm_X2_leastLatelyCalled : Room := { frames := 0, cells := 0, slots := 0, locals := 0 }
def b_X2_leastLatelyCalled_4 : Nat → Int32 → Int32 → Int32 → St → Option Int32
  | 0, _, _, _, _ => none
  | n + 1, x1, x2, x3, σ =>
    if 5 ≤ x3 then
      some x2
    else
      if x3 = x1 then
        b_X2_leastLatelyCalled_4 n x1 x2 (x3 + 1) σ
      else
        if inB x3 5 = true then
          if (gA σ 2 x3) ≤ 0 then
            b_X2_leastLatelyCalled_4 n x1 x2 (x3 + 1) σ
          else
            if inB x3 5 = true then
              if (gA σ 3 x3) = 0 then
                if x2 = (-1) then
                  b_X2_leastLatelyCalled_4 n x1 x3 (x3 + 1) σ
                else
                  if inB x3 5 = true then
                    if inB x2 5 = true then
                      if (gA σ 4 x2) ≤ (gA σ 4 x3) then
                        b_X2_leastLatelyCalled_4 n x1 x2 (x3 + 1) σ
                      else
                        b_X2_leastLatelyCalled_4 n x1 x3 (x3 + 1) σ
                    else none
                  else none
              else
                b_X2_leastLatelyCalled_4 n x1 x2 (x3 + 1) σ
            else none
        else none
set_option maxHeartbeats 4000000 in
set_option maxRecDepth 100000 in
theorem w_b_X2_leastLatelyCalled_4 {l : Launch} {p : Program} {e : Env} {s : State} {m : MethodId} {args : Array Value} {below : List Frame} {meth : Method} {c : Code} {A : Nat → Prop} {D : va_G} {ty : Nat → ClassId} {q : Nat → Nat} {rr : Int32} (X : CallFix p m c cX2_leastLatelyCalled 5 s args tb RX2) (hlk : meth.locks = false) (hr : meth.sig.returnType = (some .int)) : ∀ (n : Nat) (x1 x2 x3 : Int32) (σ : St) (H : Heap) (locs : List Loc) (ls : Array Slot), b_X2_leastLatelyCalled_4 n x1 x2 x3 σ = some rr → Inw D ty (FxC q) (wC ty q σ) A s H locs → lv_has ls 5 [(0, .ref (q 3)), (1, .int x1), (2, .int x2), (3, .int x3)] → W p l e rm_X2_leastLatelyCalled s m args below meth c H locs 0 0 (MQ below (Qiw D ty (wC ty q) A (rr, σ)) args s 0 0 A) (F0 m 4 ls []) := by
  intro n
  induction n with
  | zero =>
    intro x1 x2 x3 σ H locs ls hF
    cases hF
  | succ n ih =>
    intro x1 x2 x3 σ H locs ls hF hI hl
    rw [b_X2_leastLatelyCalled_4] at hF
    refine lv_iload_n X.1 X.2.1 dX2_leastLatelyCalled_4 rfl (lv_at hl 3 rfl) ?_
    refine lv_iconst (v := 5) X.1 X.2.1 dX2_leastLatelyCalled_5 (by decide) ?_
    refine lv_icmp_ge (tgt := 72) X.1 X.2.1 dX2_leastLatelyCalled_6 (by decide) (fun c1 => ?_) (fun c1 => ?_)
    · replace hF := fb_pos c1 hF
      refine lv_iload_n X.1 X.2.1 dX2_leastLatelyCalled_72 rfl (lv_at hl 2 rfl) ?_
      exact rt_i X hlk hr hI (fb_pr hF) dX2_leastLatelyCalled_73
    · replace hF := fb_neg c1 hF
      refine lv_iload_n X.1 X.2.1 dX2_leastLatelyCalled_9 rfl (lv_at hl 3 rfl) ?_
      refine lv_iload_n X.1 X.2.1 dX2_leastLatelyCalled_10 rfl (lv_at hl 1 rfl) ?_
      refine lv_icmp_eq (tgt := 36) X.1 X.2.1 dX2_leastLatelyCalled_11 (by decide) (fun c2 => ?_) (fun c2 => ?_)
      · replace hF := fb_pos c2 hF
        refine lv_iconst (v := 0) X.1 X.2.1 dX2_leastLatelyCalled_36 (by decide) ?_
        refine lv_istore (lv' := [(4, .int 0), (0, .ref (q 3)), (1, .int x1), (2, .int x2), (3, .int x3)]) X.1 X.2.1 dX2_leastLatelyCalled_37 hl (by decide) rfl (fun ls hl => ?_)
        refine lv_iload X.1 X.2.1 dX2_leastLatelyCalled_39 (lv_at hl 0 rfl) ?_
        refine lv_if_eq (tgt := 66) X.1 X.2.1 dX2_leastLatelyCalled_41 (by decide) (fun _ => ?_) (fun c => absurd (by decide) c)
        refine lv_iinc (v := x3 + 1) (lv' := [(3, .int (x3 + 1)), (4, .int 0), (0, .ref (q 3)), (1, .int x1), (2, .int x2)]) X.1 X.2.1 dX2_leastLatelyCalled_66 hl (k := 4) rfl rfl (by decide) rfl (fun ls hl => ?_)
        refine lv_goto (tgt := 4) X.1 X.2.1 dX2_leastLatelyCalled_69 (by decide) ?_
        exact ih x1 x2 (x3 + 1) _ _ _ ls hF hI (lv_sub hl [2, 3, 4, 0] rfl)
      · replace hF := fb_neg c2 hF
        refine lv_aload_n X.1 X.2.1 dX2_leastLatelyCalled_14 rfl (lv_at hl 0 rfl) ?_
        refine g_X2_residentBytes X hI dX2_leastLatelyCalled_15 ?_
        refine lv_iload_n X.1 X.2.1 dX2_leastLatelyCalled_18 rfl (lv_at hl 3 rfl) ?_
        obtain ⟨h3, hF⟩ := fb_chk hF
        refine aC_2 (v := gA σ 2 x3) X hI rfl h3 dX2_leastLatelyCalled_19 ?_
        refine lv_if_le (tgt := 36) X.1 X.2.1 dX2_leastLatelyCalled_20 (by decide) (fun c4 => ?_) (fun c4 => ?_)
        · replace hF := fb_pos c4 hF
          refine lv_iconst (v := 0) X.1 X.2.1 dX2_leastLatelyCalled_36 (by decide) ?_
          refine lv_istore (lv' := [(4, .int 0), (0, .ref (q 3)), (1, .int x1), (2, .int x2), (3, .int x3)]) X.1 X.2.1 dX2_leastLatelyCalled_37 hl (by decide) rfl (fun ls hl => ?_)
          refine lv_iload X.1 X.2.1 dX2_leastLatelyCalled_39 (lv_at hl 0 rfl) ?_
          refine lv_if_eq (tgt := 66) X.1 X.2.1 dX2_leastLatelyCalled_41 (by decide) (fun _ => ?_) (fun c => absurd (by decide) c)
          refine lv_iinc (v := x3 + 1) (lv' := [(3, .int (x3 + 1)), (4, .int 0), (0, .ref (q 3)), (1, .int x1), (2, .int x2)]) X.1 X.2.1 dX2_leastLatelyCalled_66 hl (k := 4) rfl rfl (by decide) rfl (fun ls hl => ?_)
          refine lv_goto (tgt := 4) X.1 X.2.1 dX2_leastLatelyCalled_69 (by decide) ?_
          exact ih x1 x2 (x3 + 1) _ _ _ ls hF hI (lv_sub hl [2, 3, 4, 0] rfl)
        · replace hF := fb_neg c4 hF
          refine lv_aload_n X.1 X.2.1 dX2_leastLatelyCalled_23 rfl (lv_at hl 0 rfl) ?_
          refine g_X2_frameCounts X hI dX2_leastLatelyCalled_24 ?_
          refine lv_iload_n X.1 X.2.1 dX2_leastLatelyCalled_27 rfl (lv_at hl 3 rfl) ?_
          obtain ⟨h5, hF⟩ := fb_chk hF
          refine aC_3 (v := gA σ 3 x3) X hI rfl h5 dX2_leastLatelyCalled_28 ?_
          refine lv_if_ne (tgt := 36) X.1 X.2.1 dX2_leastLatelyCalled_29 (by decide) (fun c6 => ?_) (fun c6 => ?_)
          · replace hF := fb_neg c6 hF
            refine lv_iconst (v := 0) X.1 X.2.1 dX2_leastLatelyCalled_36 (by decide) ?_
            refine lv_istore (lv' := [(4, .int 0), (0, .ref (q 3)), (1, .int x1), (2, .int x2), (3, .int x3)]) X.1 X.2.1 dX2_leastLatelyCalled_37 hl (by decide) rfl (fun ls hl => ?_)
            refine lv_iload X.1 X.2.1 dX2_leastLatelyCalled_39 (lv_at hl 0 rfl) ?_
            refine lv_if_eq (tgt := 66) X.1 X.2.1 dX2_leastLatelyCalled_41 (by decide) (fun _ => ?_) (fun c => absurd (by decide) c)
            refine lv_iinc (v := x3 + 1) (lv' := [(3, .int (x3 + 1)), (4, .int 0), (0, .ref (q 3)), (1, .int x1), (2, .int x2)]) X.1 X.2.1 dX2_leastLatelyCalled_66 hl (k := 4) rfl rfl (by decide) rfl (fun ls hl => ?_)
            refine lv_goto (tgt := 4) X.1 X.2.1 dX2_leastLatelyCalled_69 (by decide) ?_
            exact ih x1 x2 (x3 + 1) _ _ _ ls hF hI (lv_sub hl [2, 3, 4, 0] rfl)
          · replace hF := fb_pos c6 hF
            refine lv_iconst (v := 1) X.1 X.2.1 dX2_leastLatelyCalled_32 (by decide) ?_
            refine lv_goto (tgt := 37) X.1 X.2.1 dX2_leastLatelyCalled_33 (by decide) ?_
            refine lv_istore (lv' := [(4, .int 1), (0, .ref (q 3)), (1, .int x1), (2, .int x2), (3, .int x3)]) X.1 X.2.1 dX2_leastLatelyCalled_37 hl (by decide) rfl (fun ls hl => ?_)
            refine lv_iload X.1 X.2.1 dX2_leastLatelyCalled_39 (lv_at hl 0 rfl) ?_
            refine lv_if_eq (tgt := 66) X.1 X.2.1 dX2_leastLatelyCalled_41 (by decide) (fun c => absurd c (by decide)) (fun _ => ?_)
            refine lv_iload_n X.1 X.2.1 dX2_leastLatelyCalled_44 rfl (lv_at hl 3 rfl) ?_
            refine lv_iconst (v := (-1)) X.1 X.2.1 dX2_leastLatelyCalled_45 (by decide) ?_
            refine lv_icmp_eq (tgt := 64) X.1 X.2.1 dX2_leastLatelyCalled_46 (by decide) (fun c7 => ?_) (fun c7 => ?_)
            · replace hF := fb_pos c7 hF
              refine lv_iload_n X.1 X.2.1 dX2_leastLatelyCalled_64 rfl (lv_at hl 4 rfl) ?_
              refine lv_istore_n (lv' := [(2, .int x3), (4, .int 1), (0, .ref (q 3)), (1, .int x1), (3, .int x3)]) X.1 X.2.1 dX2_leastLatelyCalled_65 rfl hl (by decide) rfl (fun ls hl => ?_)
              refine lv_iinc (v := x3 + 1) (lv' := [(3, .int (x3 + 1)), (2, .int x3), (4, .int 1), (0, .ref (q 3)), (1, .int x1)]) X.1 X.2.1 dX2_leastLatelyCalled_66 hl (k := 4) rfl rfl (by decide) rfl (fun ls hl => ?_)
              refine lv_goto (tgt := 4) X.1 X.2.1 dX2_leastLatelyCalled_69 (by decide) ?_
              exact ih x1 x3 (x3 + 1) _ _ _ ls hF hI (lv_sub hl [3, 4, 1, 0] rfl)
            · replace hF := fb_neg c7 hF
              refine lv_aload_n X.1 X.2.1 dX2_leastLatelyCalled_49 rfl (lv_at hl 1 rfl) ?_
              refine g_X2_latestCalls X hI dX2_leastLatelyCalled_50 ?_
              refine lv_iload_n X.1 X.2.1 dX2_leastLatelyCalled_53 rfl (lv_at hl 4 rfl) ?_
              obtain ⟨h8, hF⟩ := fb_chk hF
              refine aC_4 (v := gA σ 4 x3) X hI rfl h8 dX2_leastLatelyCalled_54 ?_
              refine lv_aload_n X.1 X.2.1 dX2_leastLatelyCalled_55 rfl (lv_at hl 1 rfl) ?_
              refine g_X2_latestCalls X hI dX2_leastLatelyCalled_56 ?_
              refine lv_iload_n X.1 X.2.1 dX2_leastLatelyCalled_59 rfl (lv_at hl 3 rfl) ?_
              obtain ⟨h9, hF⟩ := fb_chk hF
              refine aC_4 (v := gA σ 4 x2) X hI rfl h9 dX2_leastLatelyCalled_60 ?_
              refine lv_icmp_ge (tgt := 66) X.1 X.2.1 dX2_leastLatelyCalled_61 (by decide) (fun c10 => ?_) (fun c10 => ?_)
              · replace hF := fb_pos c10 hF
                refine lv_iinc (v := x3 + 1) (lv' := [(3, .int (x3 + 1)), (4, .int 1), (0, .ref (q 3)), (1, .int x1), (2, .int x2)]) X.1 X.2.1 dX2_leastLatelyCalled_66 hl (k := 4) rfl rfl (by decide) rfl (fun ls hl => ?_)
                refine lv_goto (tgt := 4) X.1 X.2.1 dX2_leastLatelyCalled_69 (by decide) ?_
                exact ih x1 x2 (x3 + 1) _ _ _ ls hF hI (lv_sub hl [2, 3, 4, 0] rfl)
              · replace hF := fb_neg c10 hF
                refine lv_iload_n X.1 X.2.1 dX2_leastLatelyCalled_64 rfl (lv_at hl 4 rfl) ?_
                refine lv_istore_n (lv' := [(2, .int x3), (4, .int 1), (0, .ref (q 3)), (1, .int x1), (3, .int x3)]) X.1 X.2.1 dX2_leastLatelyCalled_65 rfl hl (by decide) rfl (fun ls hl => ?_)
                refine lv_iinc (v := x3 + 1) (lv' := [(3, .int (x3 + 1)), (2, .int x3), (4, .int 1), (0, .ref (q 3)), (1, .int x1)]) X.1 X.2.1 dX2_leastLatelyCalled_66 hl (k := 4) rfl rfl (by decide) rfl (fun ls hl => ?_)
                refine lv_goto (tgt := 4) X.1 X.2.1 dX2_leastLatelyCalled_69 (by decide) ?_
                exact ih x1 x3 (x3 + 1) _ _ _ ls hF hI (lv_sub hl [3, 4, 1, 0] rfl)
def f_X2_leastLatelyCalled (x1 : Int32) (σ : St) : Option Int32 :=
  b_X2_leastLatelyCalled_4 6 x1 (-1) 0 σ
set_option maxHeartbeats 4000000 in
set_option maxRecDepth 100000 in
theorem m_X2_leastLatelyCalled (l : Launch) (D : va_G) (ty : Nat → ClassId) (q : Nat → Nat) (σ : St) (sz : Nat) (x1 : Int32) {rr : Int32} (hF : f_X2_leastLatelyCalled x1 σ = some rr) : Met l yX2_leastLatelyCalled (wsy yX2_leastLatelyCalled cX2_leastLatelyCalled 5 (some .int)) rm_X2_leastLatelyCalled (Pcw D ty (FxC q) (wC ty q σ) sz [.ref (q 3), .int x1]) (Qiw D ty (wC ty q) (va_A (wC ty q σ) sz) (rr, σ)) 0 0 (va_A (wC ty q σ) sz) := by
  refine en_w (Qc := fun A => Qiw D ty (wC ty q) A (rr, σ)) (by decide) (Nat.le_of_ble_eq_true rfl) ?_
  intro p e s m args below meth c A X hlk hr _ H locs hI ls hl
  have X : CallFix p m c cX2_leastLatelyCalled 5 s args tb RX2 := X
  have hl : lv_has ls 5 [(0, .ref (q 3)), (1, .int x1)] := hl
  unfold f_X2_leastLatelyCalled at hF
  refine lv_iconst (v := (-1)) X.1 X.2.1 dX2_leastLatelyCalled_0 (by decide) ?_
  refine lv_istore_n (lv' := [(2, .int (-1)), (0, .ref (q 3)), (1, .int x1)]) X.1 X.2.1 dX2_leastLatelyCalled_1 rfl hl (by decide) rfl (fun ls hl => ?_)
  refine lv_iconst (v := 0) X.1 X.2.1 dX2_leastLatelyCalled_2 (by decide) ?_
  refine lv_istore_n (lv' := [(3, .int 0), (2, .int (-1)), (0, .ref (q 3)), (1, .int x1)]) X.1 X.2.1 dX2_leastLatelyCalled_3 rfl hl (by decide) rfl (fun ls hl => ?_)
  exact w_b_X2_leastLatelyCalled_4 X hlk hr 6 x1 (-1) 0 _ _ _ ls hF hI (lv_sub hl [2, 3, 1, 0] rfl)
abbrev rm_X2_hold : Room := { frames := 1, cells := 0, slots := 0, locals := 29 }
def b_X2_hold_75 (x1 : Int32) (σ : St) : Option (Int32 × St) :=
  if ((gI σ 5) + x1) ≤ (gI σ 4) then
    some (1, sI (sI σ 5 ((gI σ 5) + x1)) 6 (if (gI σ 6) < ((gI σ 5) + x1) then ((gI σ 5) + x1) else (gI σ 6)))
  else
    some (0, σ)
set_option maxHeartbeats 4000000 in
set_option maxRecDepth 100000 in
theorem w_b_X2_hold_75 {l : Launch} {p : Program} {e : Env} {s : State} {m : MethodId} {args : Array Value} {below : List Frame} {meth : Method} {c : Code} {A : Nat → Prop} {D : va_G} {ty : Nat → ClassId} {q : Nat → Nat} {res : Int32 × St} (X : CallFix p m c cX2_hold 5 s args tb RX2) (hlk : meth.locks = false) (hr : meth.sig.returnType = (some .boolean)) {σ : St} {H : Heap} {locs : List Loc} (hI : Inw D ty (FxC q) (wC ty q σ) A s H locs) (x1 : Int32) (hF : b_X2_hold_75 x1 σ = some res) (ls : Array Slot) (hl : lv_has ls 5 [(0, .ref (q 3)), (1, .int x1)]) : W p l e rm_X2_hold s m args below meth c H locs 0 0 (MQ below (Qiw D ty (wC ty q) A res) args s 0 0 A) (F0 m 75 ls []) := by
  unfold b_X2_hold_75 at hF
  refine lv_aload_n X.1 X.2.1 dX2_hold_75 rfl (lv_at hl 0 rfl) ?_
  refine g_X2_held (v := gI σ 5) X hI rfl dX2_hold_76 ?_
  refine lv_iload_n X.1 X.2.1 dX2_hold_79 rfl (lv_at hl 1 rfl) ?_
  refine lv_iadd X.1 X.2.1 dX2_hold_80 ?_
  refine lv_aload_n X.1 X.2.1 dX2_hold_81 rfl (lv_at hl 0 rfl) ?_
  refine g_X2_limit (v := gI σ 4) X hI rfl dX2_hold_82 ?_
  refine lv_icmp_le (tgt := 90) X.1 X.2.1 dX2_hold_85 (by decide) (fun c2 => ?_) (fun c2 => ?_)
  · replace hF := fb_pos c2 hF
    refine lv_aload_n X.1 X.2.1 dX2_hold_90 rfl (lv_at hl 0 rfl) ?_
    refine lv_dup X.1 X.2.1 dX2_hold_91 rfl ?_
    refine g_X2_held (v := gI σ 5) X hI rfl dX2_hold_92 ?_
    refine lv_iload_n X.1 X.2.1 dX2_hold_95 rfl (lv_at hl 1 rfl) ?_
    refine lv_iadd X.1 X.2.1 dX2_hold_96 ?_
    refine p_X2_held X hI dX2_hold_97 (fun H locs hI => ?_)
    refine lv_aload_n X.1 X.2.1 dX2_hold_100 rfl (lv_at hl 0 rfl) ?_
    refine lv_aload_n X.1 X.2.1 dX2_hold_101 rfl (lv_at hl 0 rfl) ?_
    refine g_X2_most (v := gI σ 6) X hI rfl dX2_hold_102 ?_
    refine lv_aload_n X.1 X.2.1 dX2_hold_105 rfl (lv_at hl 0 rfl) ?_
    refine g_X2_held (v := ((gI σ 5) + x1)) X hI rfl dX2_hold_106 ?_
    refine mx_i X hl.1 ml_X2_58 kw_ms kw_mi kw_mc ⟨Nat.le_of_ble_eq_true rfl, Nat.le_of_ble_eq_true rfl⟩ ⟨Nat.le_of_ble_eq_true rfl, Nat.le_of_ble_eq_true rfl⟩ dX2_hold_109 ?_
    refine p_X2_most X hI dX2_hold_112 (fun H locs hI => ?_)
    refine lv_iconst (v := 1) X.1 X.2.1 dX2_hold_115 (by decide) ?_
    exact rt_z X hlk hr hI rfl hF dX2_hold_116
  · replace hF := fb_neg c2 hF
    refine lv_iconst (v := 0) X.1 X.2.1 dX2_hold_88 (by decide) ?_
    exact rt_z X hlk hr hI rfl hF dX2_hold_89
def b_X2_hold_2 : Nat → Int32 → Int32 → Int32 → St → Option (Int32 × St)
  | 0, _, _, _, _ => none
  | n + 1, x1, x2, x3, σ =>
    if ((gI σ 5) + x1) ≤ (gI σ 4) then
      b_X2_hold_75 x1 σ
    else
      if 5 ≤ x3 then
        b_X2_hold_75 x1 σ
      else
        (f_X2_leastLatelyCalled x2 σ).bind fun u4 =>
        if u4 = (-1) then
          some (0, σ)
        else
          if inB u4 5 = true then
            if inB u4 5 = true then
              b_X2_hold_2 n x1 x2 (x3 + 1) (sI (sA (sI σ 5 ((gI σ 5) - (gA σ 2 u4))) 2 u4 0) 8 ((gI σ 8) + 1))
            else none
          else none
set_option maxHeartbeats 4000000 in
set_option maxRecDepth 100000 in
theorem w_b_X2_hold_2 {l : Launch} {p : Program} {e : Env} {s : State} {m : MethodId} {args : Array Value} {below : List Frame} {meth : Method} {c : Code} {A : Nat → Prop} {D : va_G} {ty : Nat → ClassId} {q : Nat → Nat} {res : Int32 × St} (X : CallFix p m c cX2_hold 5 s args tb RX2) (hlk : meth.locks = false) (hr : meth.sig.returnType = (some .boolean)) : ∀ (n : Nat) (x1 x2 x3 : Int32) (σ : St) (H : Heap) (locs : List Loc) (ls : Array Slot), b_X2_hold_2 n x1 x2 x3 σ = some res → Inw D ty (FxC q) (wC ty q σ) A s H locs → lv_has ls 5 [(0, .ref (q 3)), (1, .int x1), (2, .int x2), (3, .int x3)] → W p l e rm_X2_hold s m args below meth c H locs 0 0 (MQ below (Qiw D ty (wC ty q) A res) args s 0 0 A) (F0 m 2 ls []) := by
  intro n
  induction n with
  | zero =>
    intro x1 x2 x3 σ H locs ls hF
    cases hF
  | succ n ih =>
    intro x1 x2 x3 σ H locs ls hF hI hl
    rw [b_X2_hold_2] at hF
    refine lv_aload_n X.1 X.2.1 dX2_hold_2 rfl (lv_at hl 0 rfl) ?_
    refine g_X2_held (v := gI σ 5) X hI rfl dX2_hold_3 ?_
    refine lv_iload_n X.1 X.2.1 dX2_hold_6 rfl (lv_at hl 1 rfl) ?_
    refine lv_iadd X.1 X.2.1 dX2_hold_7 ?_
    refine lv_aload_n X.1 X.2.1 dX2_hold_8 rfl (lv_at hl 0 rfl) ?_
    refine g_X2_limit (v := gI σ 4) X hI rfl dX2_hold_9 ?_
    refine lv_icmp_le (tgt := 75) X.1 X.2.1 dX2_hold_12 (by decide) (fun c1 => ?_) (fun c1 => ?_)
    · replace hF := fb_pos c1 hF
      exact w_b_X2_hold_75 X hlk hr hI x1 hF ls (lv_sub hl [0, 1] rfl)
    · replace hF := fb_neg c1 hF
      refine lv_iload_n X.1 X.2.1 dX2_hold_15 rfl (lv_at hl 3 rfl) ?_
      refine lv_iconst (v := 5) X.1 X.2.1 dX2_hold_16 (by decide) ?_
      refine lv_icmp_ge (tgt := 75) X.1 X.2.1 dX2_hold_17 (by decide) (fun c3 => ?_) (fun c3 => ?_)
      · replace hF := fb_pos c3 hF
        exact w_b_X2_hold_75 X hlk hr hI x1 hF ls (lv_sub hl [0, 1] rfl)
      · replace hF := fb_neg c3 hF
        refine lv_aload_n X.1 X.2.1 dX2_hold_20 rfl (lv_at hl 0 rfl) ?_
        refine lv_iload_n X.1 X.2.1 dX2_hold_21 rfl (lv_at hl 2 rfl) ?_
        obtain ⟨u4, h5, hF⟩ := fb_bnd hF
        refine cl_i (w := wC ty q) (σ := σ) (rest := []) X (fxC q) hI (m_X2_leastLatelyCalled l D ty q σ _ x2 h5) ok_X2_leastLatelyCalled ml_X2_54 ⟨rfl, rfl, Nat.le_of_ble_eq_true rfl, Nat.le_of_ble_eq_true rfl⟩ 3 rc_X2 rfl rfl hl.1 rfl (Nat.le_of_ble_eq_true rfl) ⟨Nat.le_of_ble_eq_true rfl, Nat.le_of_ble_eq_true rfl⟩ dX2_hold_22 (fun H locs hI => ?_)
        refine lv_istore (lv' := [(4, .int u4), (0, .ref (q 3)), (1, .int x1), (2, .int x2), (3, .int x3)]) X.1 X.2.1 dX2_hold_25 hl (by decide) rfl (fun ls hl => ?_)
        refine lv_iload X.1 X.2.1 dX2_hold_27 (lv_at hl 0 rfl) ?_
        refine lv_iconst (v := (-1)) X.1 X.2.1 dX2_hold_29 (by decide) ?_
        refine lv_icmp_ne (tgt := 35) X.1 X.2.1 dX2_hold_30 (by decide) (fun c6 => ?_) (fun c6 => ?_)
        · replace hF := fb_neg c6 hF
          refine lv_aload_n X.1 X.2.1 dX2_hold_35 rfl (lv_at hl 1 rfl) ?_
          refine lv_dup X.1 X.2.1 dX2_hold_36 rfl ?_
          refine g_X2_held (v := gI σ 5) X hI rfl dX2_hold_37 ?_
          refine lv_aload_n X.1 X.2.1 dX2_hold_40 rfl (lv_at hl 1 rfl) ?_
          refine g_X2_residentBytes X hI dX2_hold_41 ?_
          refine lv_iload X.1 X.2.1 dX2_hold_44 (lv_at hl 0 rfl) ?_
          obtain ⟨h7, hF⟩ := fb_chk hF
          refine aC_2 (v := gA σ 2 u4) X hI rfl h7 dX2_hold_46 ?_
          refine lv_isub X.1 X.2.1 dX2_hold_47 ?_
          refine p_X2_held X hI dX2_hold_48 (fun H locs hI => ?_)
          refine lv_aload_n X.1 X.2.1 dX2_hold_51 rfl (lv_at hl 1 rfl) ?_
          refine g_X2_residentBytes X hI dX2_hold_52 ?_
          refine lv_iload X.1 X.2.1 dX2_hold_55 (lv_at hl 0 rfl) ?_
          refine lv_iconst (v := 0) X.1 X.2.1 dX2_hold_57 (by decide) ?_
          obtain ⟨h8, hF⟩ := fb_chk hF
          refine sC_2 X hI h8 dX2_hold_58 (fun H locs hI => ?_)
          refine lv_aload_n X.1 X.2.1 dX2_hold_59 rfl (lv_at hl 1 rfl) ?_
          refine lv_dup X.1 X.2.1 dX2_hold_60 rfl ?_
          refine g_X2_gone (v := gI σ 8) X hI rfl dX2_hold_61 ?_
          refine lv_iconst (v := 1) X.1 X.2.1 dX2_hold_64 (by decide) ?_
          refine lv_iadd X.1 X.2.1 dX2_hold_65 ?_
          refine p_X2_gone X hI dX2_hold_66 (fun H locs hI => ?_)
          refine lv_iinc (v := x3 + 1) (lv' := [(3, .int (x3 + 1)), (4, .int u4), (0, .ref (q 3)), (1, .int x1), (2, .int x2)]) X.1 X.2.1 dX2_hold_69 hl (k := 4) rfl rfl (by decide) rfl (fun ls hl => ?_)
          refine lv_goto (tgt := 2) X.1 X.2.1 dX2_hold_72 (by decide) ?_
          exact ih x1 x2 (x3 + 1) _ _ _ ls hF hI (lv_sub hl [2, 3, 4, 0] rfl)
        · replace hF := fb_pos c6 hF
          refine lv_iconst (v := 0) X.1 X.2.1 dX2_hold_33 (by decide) ?_
          exact rt_z X hlk hr hI rfl hF dX2_hold_34
def f_X2_hold (x1 x2 : Int32) (σ : St) : Option (Int32 × St) :=
  b_X2_hold_2 6 x1 x2 0 σ
set_option maxHeartbeats 4000000 in
set_option maxRecDepth 100000 in
theorem m_X2_hold (l : Launch) (D : va_G) (ty : Nat → ClassId) (q : Nat → Nat) (σ : St) (sz : Nat) (x1 x2 : Int32) {res : Int32 × St} (hF : f_X2_hold x1 x2 σ = some res) : Met l yX2_hold (wsy yX2_hold cX2_hold 5 (some .boolean)) rm_X2_hold (Pcw D ty (FxC q) (wC ty q σ) sz [.ref (q 3), .int x1, .int x2]) (Qiw D ty (wC ty q) (va_A (wC ty q σ) sz) res) 0 0 (va_A (wC ty q σ) sz) := by
  refine en_w (Qc := fun A => Qiw D ty (wC ty q) A res) (by decide) (Nat.le_of_ble_eq_true rfl) ?_
  intro p e s m args below meth c A X hlk hr _ H locs hI ls hl
  have X : CallFix p m c cX2_hold 5 s args tb RX2 := X
  have hl : lv_has ls 5 [(0, .ref (q 3)), (1, .int x1), (2, .int x2)] := hl
  unfold f_X2_hold at hF
  refine lv_iconst (v := 0) X.1 X.2.1 dX2_hold_0 (by decide) ?_
  refine lv_istore_n (lv' := [(3, .int 0), (0, .ref (q 3)), (1, .int x1), (2, .int x2)]) X.1 X.2.1 dX2_hold_1 rfl hl (by decide) rfl (fun ls hl => ?_)
  exact w_b_X2_hold_2 X hlk hr 6 x1 x2 0 _ _ _ ls hF hI (lv_sub hl [1, 2, 3, 0] rfl)
abbrev rm_X2_bringIn : Room := { frames := 2, cells := 0, slots := 0, locals := 53 }
def f_X2_bringIn (x1 x2 : Int32) (σ : St) : Option (Int32 × St) :=
  (f_X4_isSegment x1 σ).bind fun u1 =>
  if u1 = 0 then
    (f_X4_isSegment x1 σ).bind fun u4 =>
    some (vp_nar .boolean u4, σ)
  else
    (f_X2_isResident x1 σ).bind fun u6 =>
    if u6 = 0 then
      (f_X2_hold x2 x1 σ).bind fun u9 =>
      if u9.1 = 0 then
        some (0, u9.2)
      else
        if inB x1 5 = true then
          some (1, sI (sA u9.2 2 x1 x2) 7 ((gI u9.2 7) + 1))
        else none
    else
      (f_X4_isSegment x1 σ).bind fun u13 =>
      some (vp_nar .boolean u13, σ)
set_option maxHeartbeats 4000000 in
set_option maxRecDepth 100000 in
theorem m_X2_bringIn (l : Launch) (D : va_G) (ty : Nat → ClassId) (q : Nat → Nat) (σ : St) (sz : Nat) (x1 x2 : Int32) {res : Int32 × St} (hF : f_X2_bringIn x1 x2 σ = some res) : Met l yX2_bringIn (wsy yX2_bringIn cX2_bringIn 3 (some .boolean)) rm_X2_bringIn (Pcw D ty (FxC q) (wC ty q σ) sz [.ref (q 3), .int x1, .int x2]) (Qiw D ty (wC ty q) (va_A (wC ty q σ) sz) res) 0 0 (va_A (wC ty q σ) sz) := by
  refine en_w (Qc := fun A => Qiw D ty (wC ty q) A res) (by decide) (Nat.le_of_ble_eq_true rfl) ?_
  intro p e s m args below meth c A X hlk hr _ H locs hI ls hl
  have X : CallFix p m c cX2_bringIn 3 s args tb RX2 := X
  have hl : lv_has ls 3 [(0, .ref (q 3)), (1, .int x1), (2, .int x2)] := hl
  unfold f_X2_bringIn at hF
  refine lv_iload_n X.1 X.2.1 dX2_bringIn_0 rfl (lv_at hl 1 rfl) ?_
  obtain ⟨u1, h2, hF⟩ := fb_bnd hF
  refine cn_i (w := wC ty q) (σ := σ) (rest := []) X (fxC q) hI (m_X4_isSegment l D ty q σ _ x1 h2) ok_X4_isSegment hI.2.2.2.2.2.2.2.2.2.2 ⟨rfl, rfl, Nat.le_of_ble_eq_true rfl, Nat.le_of_ble_eq_true rfl⟩ rfl hl.1 rfl (Nat.le_of_ble_eq_true rfl) ⟨Nat.le_of_ble_eq_true rfl, Nat.le_of_ble_eq_true rfl⟩ dX2_bringIn_1 (fun H locs hI => ?_)
  refine lv_if_eq (tgt := 15) X.1 X.2.1 dX2_bringIn_4 (by decide) (fun c3 => ?_) (fun c3 => ?_)
  · replace hF := fb_pos c3 hF
    refine lv_iload_n X.1 X.2.1 dX2_bringIn_15 rfl (lv_at hl 1 rfl) ?_
    obtain ⟨u4, h5, hF⟩ := fb_bnd hF
    refine cn_i (w := wC ty q) (σ := σ) (rest := []) X (fxC q) hI (m_X4_isSegment l D ty q σ _ x1 h5) ok_X4_isSegment hI.2.2.2.2.2.2.2.2.2.2 ⟨rfl, rfl, Nat.le_of_ble_eq_true rfl, Nat.le_of_ble_eq_true rfl⟩ rfl hl.1 rfl (Nat.le_of_ble_eq_true rfl) ⟨Nat.le_of_ble_eq_true rfl, Nat.le_of_ble_eq_true rfl⟩ dX2_bringIn_16 (fun H locs hI => ?_)
    exact rt_b X hlk hr hI hF dX2_bringIn_19
  · replace hF := fb_neg c3 hF
    refine lv_aload_n X.1 X.2.1 dX2_bringIn_7 rfl (lv_at hl 0 rfl) ?_
    refine lv_iload_n X.1 X.2.1 dX2_bringIn_8 rfl (lv_at hl 1 rfl) ?_
    obtain ⟨u6, h7, hF⟩ := fb_bnd hF
    refine cl_i (w := wC ty q) (σ := σ) (rest := []) X (fxC q) hI (m_X2_isResident l D ty q σ _ x1 h7) ok_X2_isResident ml_X2_44 ⟨rfl, rfl, Nat.le_of_ble_eq_true rfl, Nat.le_of_ble_eq_true rfl⟩ 3 rc_X2 rfl rfl hl.1 rfl (Nat.le_of_ble_eq_true rfl) ⟨Nat.le_of_ble_eq_true rfl, Nat.le_of_ble_eq_true rfl⟩ dX2_bringIn_9 (fun H locs hI => ?_)
    refine lv_if_eq (tgt := 20) X.1 X.2.1 dX2_bringIn_12 (by decide) (fun c8 => ?_) (fun c8 => ?_)
    · replace hF := fb_pos c8 hF
      refine lv_aload_n X.1 X.2.1 dX2_bringIn_20 rfl (lv_at hl 0 rfl) ?_
      refine lv_iload_n X.1 X.2.1 dX2_bringIn_21 rfl (lv_at hl 2 rfl) ?_
      refine lv_iload_n X.1 X.2.1 dX2_bringIn_22 rfl (lv_at hl 1 rfl) ?_
      obtain ⟨u9, h10, hF⟩ := fb_bnd hF
      refine cl_i (w := wC ty q) (σ := σ) (rest := []) X (fxC q) hI (m_X2_hold l D ty q σ _ x2 x1 h10) ok_X2_hold ml_X2_47 ⟨rfl, rfl, Nat.le_of_ble_eq_true rfl, Nat.le_of_ble_eq_true rfl⟩ 3 rc_X2 rfl rfl hl.1 rfl (Nat.le_of_ble_eq_true rfl) ⟨Nat.le_of_ble_eq_true rfl, Nat.le_of_ble_eq_true rfl⟩ dX2_bringIn_23 (fun H locs hI => ?_)
      refine lv_if_ne (tgt := 31) X.1 X.2.1 dX2_bringIn_26 (by decide) (fun c11 => ?_) (fun c11 => ?_)
      · replace hF := fb_neg c11 hF
        refine lv_aload_n X.1 X.2.1 dX2_bringIn_31 rfl (lv_at hl 0 rfl) ?_
        refine g_X2_residentBytes X hI dX2_bringIn_32 ?_
        refine lv_iload_n X.1 X.2.1 dX2_bringIn_35 rfl (lv_at hl 1 rfl) ?_
        refine lv_iload_n X.1 X.2.1 dX2_bringIn_36 rfl (lv_at hl 2 rfl) ?_
        obtain ⟨h12, hF⟩ := fb_chk hF
        refine sC_2 X hI h12 dX2_bringIn_37 (fun H locs hI => ?_)
        refine lv_aload_n X.1 X.2.1 dX2_bringIn_38 rfl (lv_at hl 0 rfl) ?_
        refine lv_dup X.1 X.2.1 dX2_bringIn_39 rfl ?_
        refine g_X2_loads (v := gI u9.2 7) X hI rfl dX2_bringIn_40 ?_
        refine lv_iconst (v := 1) X.1 X.2.1 dX2_bringIn_43 (by decide) ?_
        refine lv_iadd X.1 X.2.1 dX2_bringIn_44 ?_
        refine p_X2_loads X hI dX2_bringIn_45 (fun H locs hI => ?_)
        refine lv_iconst (v := 1) X.1 X.2.1 dX2_bringIn_48 (by decide) ?_
        exact rt_z X hlk hr hI rfl hF dX2_bringIn_49
      · replace hF := fb_pos c11 hF
        refine lv_iconst (v := 0) X.1 X.2.1 dX2_bringIn_29 (by decide) ?_
        exact rt_z X hlk hr hI rfl hF dX2_bringIn_30
    · replace hF := fb_neg c8 hF
      refine lv_iload_n X.1 X.2.1 dX2_bringIn_15 rfl (lv_at hl 1 rfl) ?_
      obtain ⟨u13, h14, hF⟩ := fb_bnd hF
      refine cn_i (w := wC ty q) (σ := σ) (rest := []) X (fxC q) hI (m_X4_isSegment l D ty q σ _ x1 h14) ok_X4_isSegment hI.2.2.2.2.2.2.2.2.2.2 ⟨rfl, rfl, Nat.le_of_ble_eq_true rfl, Nat.le_of_ble_eq_true rfl⟩ rfl hl.1 rfl (Nat.le_of_ble_eq_true rfl) ⟨Nat.le_of_ble_eq_true rfl, Nat.le_of_ble_eq_true rfl⟩ dX2_bringIn_16 (fun H locs hI => ?_)
      exact rt_b X hlk hr hI hF dX2_bringIn_19
abbrev rm_X2_addFrame : Room := { frames := 2, cells := 0, slots := 0, locals := 53 }
def f_X2_addFrame (x1 x2 : Int32) (σ : St) : Option (Int32 × St) :=
  (f_X4_isSegment x1 σ).bind fun u1 =>
  if u1 = 0 then
    some (0, σ)
  else
    (f_X2_hold x2 x1 σ).bind fun u4 =>
    if u4.1 = 0 then
      some (0, u4.2)
    else
      if inB x1 5 = true then
        if inB x1 5 = true then
          if inB x1 5 = true then
            some (1, sA (sI (sA u4.2 3 x1 ((gA u4.2 3 x1) + 1)) 3 ((gI u4.2 3) + 1)) 4 x1 ((gI u4.2 3) + 1))
          else none
        else none
      else none
set_option maxHeartbeats 4000000 in
set_option maxRecDepth 100000 in
theorem m_X2_addFrame (l : Launch) (D : va_G) (ty : Nat → ClassId) (q : Nat → Nat) (σ : St) (sz : Nat) (x1 x2 : Int32) {res : Int32 × St} (hF : f_X2_addFrame x1 x2 σ = some res) : Met l yX2_addFrame (wsy yX2_addFrame cX2_addFrame 3 (some .boolean)) rm_X2_addFrame (Pcw D ty (FxC q) (wC ty q σ) sz [.ref (q 3), .int x1, .int x2]) (Qiw D ty (wC ty q) (va_A (wC ty q σ) sz) res) 0 0 (va_A (wC ty q σ) sz) := by
  refine en_w (Qc := fun A => Qiw D ty (wC ty q) A res) (by decide) (Nat.le_of_ble_eq_true rfl) ?_
  intro p e s m args below meth c A X hlk hr _ H locs hI ls hl
  have X : CallFix p m c cX2_addFrame 3 s args tb RX2 := X
  have hl : lv_has ls 3 [(0, .ref (q 3)), (1, .int x1), (2, .int x2)] := hl
  unfold f_X2_addFrame at hF
  refine lv_iload_n X.1 X.2.1 dX2_addFrame_0 rfl (lv_at hl 1 rfl) ?_
  obtain ⟨u1, h2, hF⟩ := fb_bnd hF
  refine cn_i (w := wC ty q) (σ := σ) (rest := []) X (fxC q) hI (m_X4_isSegment l D ty q σ _ x1 h2) ok_X4_isSegment hI.2.2.2.2.2.2.2.2.2.2 ⟨rfl, rfl, Nat.le_of_ble_eq_true rfl, Nat.le_of_ble_eq_true rfl⟩ rfl hl.1 rfl (Nat.le_of_ble_eq_true rfl) ⟨Nat.le_of_ble_eq_true rfl, Nat.le_of_ble_eq_true rfl⟩ dX2_addFrame_1 (fun H locs hI => ?_)
  refine lv_if_eq (tgt := 16) X.1 X.2.1 dX2_addFrame_4 (by decide) (fun c3 => ?_) (fun c3 => ?_)
  · replace hF := fb_pos c3 hF
    refine lv_iconst (v := 0) X.1 X.2.1 dX2_addFrame_16 (by decide) ?_
    exact rt_z X hlk hr hI rfl hF dX2_addFrame_17
  · replace hF := fb_neg c3 hF
    refine lv_aload_n X.1 X.2.1 dX2_addFrame_7 rfl (lv_at hl 0 rfl) ?_
    refine lv_iload_n X.1 X.2.1 dX2_addFrame_8 rfl (lv_at hl 2 rfl) ?_
    refine lv_iload_n X.1 X.2.1 dX2_addFrame_9 rfl (lv_at hl 1 rfl) ?_
    obtain ⟨u4, h5, hF⟩ := fb_bnd hF
    refine cl_i (w := wC ty q) (σ := σ) (rest := []) X (fxC q) hI (m_X2_hold l D ty q σ _ x2 x1 h5) ok_X2_hold ml_X2_47 ⟨rfl, rfl, Nat.le_of_ble_eq_true rfl, Nat.le_of_ble_eq_true rfl⟩ 3 rc_X2 rfl rfl hl.1 rfl (Nat.le_of_ble_eq_true rfl) ⟨Nat.le_of_ble_eq_true rfl, Nat.le_of_ble_eq_true rfl⟩ dX2_addFrame_10 (fun H locs hI => ?_)
    refine lv_if_ne (tgt := 18) X.1 X.2.1 dX2_addFrame_13 (by decide) (fun c6 => ?_) (fun c6 => ?_)
    · replace hF := fb_neg c6 hF
      refine lv_aload_n X.1 X.2.1 dX2_addFrame_18 rfl (lv_at hl 0 rfl) ?_
      refine g_X2_frameCounts X hI dX2_addFrame_19 ?_
      refine lv_iload_n X.1 X.2.1 dX2_addFrame_22 rfl (lv_at hl 1 rfl) ?_
      refine lv_dup2_11 X.1 X.2.1 dX2_addFrame_23 rfl rfl ?_
      obtain ⟨h7, hF⟩ := fb_chk hF
      refine aC_3 (v := gA u4.2 3 x1) X hI rfl h7 dX2_addFrame_24 ?_
      refine lv_iconst (v := 1) X.1 X.2.1 dX2_addFrame_25 (by decide) ?_
      refine lv_iadd X.1 X.2.1 dX2_addFrame_26 ?_
      obtain ⟨h8, hF⟩ := fb_chk hF
      refine sC_3 X hI h8 dX2_addFrame_27 (fun H locs hI => ?_)
      refine lv_aload_n X.1 X.2.1 dX2_addFrame_28 rfl (lv_at hl 0 rfl) ?_
      refine lv_dup X.1 X.2.1 dX2_addFrame_29 rfl ?_
      refine g_X2_calls (v := gI u4.2 3) X hI rfl dX2_addFrame_30 ?_
      refine lv_iconst (v := 1) X.1 X.2.1 dX2_addFrame_33 (by decide) ?_
      refine lv_iadd X.1 X.2.1 dX2_addFrame_34 ?_
      refine p_X2_calls X hI dX2_addFrame_35 (fun H locs hI => ?_)
      refine lv_aload_n X.1 X.2.1 dX2_addFrame_38 rfl (lv_at hl 0 rfl) ?_
      refine g_X2_latestCalls X hI dX2_addFrame_39 ?_
      refine lv_iload_n X.1 X.2.1 dX2_addFrame_42 rfl (lv_at hl 1 rfl) ?_
      refine lv_aload_n X.1 X.2.1 dX2_addFrame_43 rfl (lv_at hl 0 rfl) ?_
      refine g_X2_calls (v := ((gI u4.2 3) + 1)) X hI rfl dX2_addFrame_44 ?_
      obtain ⟨h9, hF⟩ := fb_chk hF
      refine sC_4 X hI h9 dX2_addFrame_47 (fun H locs hI => ?_)
      refine lv_iconst (v := 1) X.1 X.2.1 dX2_addFrame_48 (by decide) ?_
      exact rt_z X hlk hr hI rfl hF dX2_addFrame_49
    · replace hF := fb_pos c6 hF
      refine lv_iconst (v := 0) X.1 X.2.1 dX2_addFrame_16 (by decide) ?_
      exact rt_z X hlk hr hI rfl hF dX2_addFrame_17
abbrev rm_X2_dropFrame : Room := { frames := 2, cells := 0, slots := 0, locals := 41 }
def f_X2_dropFrame (x1 x2 : Int32) (σ : St) : Option (Int32 × St) :=
  (f_X2_isActive x1 σ).bind fun u1 =>
  if u1 = 0 then
    some (0, σ)
  else
    if inB x1 5 = true then
      if inB x1 5 = true then
        some (0, sI (sA σ 3 x1 ((gA σ 3 x1) - 1)) 5 ((gI σ 5) - x2))
      else none
    else none
set_option maxHeartbeats 4000000 in
set_option maxRecDepth 100000 in
theorem m_X2_dropFrame (l : Launch) (D : va_G) (ty : Nat → ClassId) (q : Nat → Nat) (σ : St) (sz : Nat) (x1 x2 : Int32) {res : Int32 × St} (hF : f_X2_dropFrame x1 x2 σ = some res) : Met l yX2_dropFrame (wsy yX2_dropFrame cX2_dropFrame 3 none) rm_X2_dropFrame (Pcw D ty (FxC q) (wC ty q σ) sz [.ref (q 3), .int x1, .int x2]) (Qvw D ty (wC ty q) (va_A (wC ty q σ) sz) res) 0 0 (va_A (wC ty q σ) sz) := by
  refine en_w (Qc := fun A => Qvw D ty (wC ty q) A res) (by decide) (Nat.le_of_ble_eq_true rfl) ?_
  intro p e s m args below meth c A X hlk hr _ H locs hI ls hl
  have X : CallFix p m c cX2_dropFrame 3 s args tb RX2 := X
  have hl : lv_has ls 3 [(0, .ref (q 3)), (1, .int x1), (2, .int x2)] := hl
  unfold f_X2_dropFrame at hF
  refine lv_aload_n X.1 X.2.1 dX2_dropFrame_0 rfl (lv_at hl 0 rfl) ?_
  refine lv_iload_n X.1 X.2.1 dX2_dropFrame_1 rfl (lv_at hl 1 rfl) ?_
  obtain ⟨u1, h2, hF⟩ := fb_bnd hF
  refine cl_i (w := wC ty q) (σ := σ) (rest := []) X (fxC q) hI (m_X2_isActive l D ty q σ _ x1 h2) ok_X2_isActive ml_X2_51 ⟨rfl, rfl, Nat.le_of_ble_eq_true rfl, Nat.le_of_ble_eq_true rfl⟩ 3 rc_X2 rfl rfl hl.1 rfl (Nat.le_of_ble_eq_true rfl) ⟨Nat.le_of_ble_eq_true rfl, Nat.le_of_ble_eq_true rfl⟩ dX2_dropFrame_2 (fun H locs hI => ?_)
  refine lv_if_eq (tgt := 28) X.1 X.2.1 dX2_dropFrame_5 (by decide) (fun c3 => ?_) (fun c3 => ?_)
  · replace hF := fb_pos c3 hF
    exact rt_v X hlk hr hI hF dX2_dropFrame_28
  · replace hF := fb_neg c3 hF
    refine lv_aload_n X.1 X.2.1 dX2_dropFrame_8 rfl (lv_at hl 0 rfl) ?_
    refine g_X2_frameCounts X hI dX2_dropFrame_9 ?_
    refine lv_iload_n X.1 X.2.1 dX2_dropFrame_12 rfl (lv_at hl 1 rfl) ?_
    refine lv_dup2_11 X.1 X.2.1 dX2_dropFrame_13 rfl rfl ?_
    obtain ⟨h4, hF⟩ := fb_chk hF
    refine aC_3 (v := gA σ 3 x1) X hI rfl h4 dX2_dropFrame_14 ?_
    refine lv_iconst (v := 1) X.1 X.2.1 dX2_dropFrame_15 (by decide) ?_
    refine lv_isub X.1 X.2.1 dX2_dropFrame_16 ?_
    obtain ⟨h5, hF⟩ := fb_chk hF
    refine sC_3 X hI h5 dX2_dropFrame_17 (fun H locs hI => ?_)
    refine lv_aload_n X.1 X.2.1 dX2_dropFrame_18 rfl (lv_at hl 0 rfl) ?_
    refine lv_dup X.1 X.2.1 dX2_dropFrame_19 rfl ?_
    refine g_X2_held (v := gI σ 5) X hI rfl dX2_dropFrame_20 ?_
    refine lv_iload_n X.1 X.2.1 dX2_dropFrame_23 rfl (lv_at hl 2 rfl) ?_
    refine lv_isub X.1 X.2.1 dX2_dropFrame_24 ?_
    refine p_X2_held X hI dX2_dropFrame_25 (fun H locs hI => ?_)
    exact rt_v X hlk hr hI hF dX2_dropFrame_28
abbrev rm_X2_dropNumber : Room := { frames := 0, cells := 0, slots := 0, locals := 0 }
def f_X2_dropNumber (σ : St) : Option (Int32 × St) :=
  some (0, sI σ 5 ((gI σ 5) - 4))
set_option maxHeartbeats 4000000 in
set_option maxRecDepth 100000 in
theorem m_X2_dropNumber (l : Launch) (D : va_G) (ty : Nat → ClassId) (q : Nat → Nat) (σ : St) (sz : Nat) {res : Int32 × St} (hF : f_X2_dropNumber  σ = some res) : Met l yX2_dropNumber (wsy yX2_dropNumber cX2_dropNumber 1 none) rm_X2_dropNumber (Pcw D ty (FxC q) (wC ty q σ) sz [.ref (q 3)]) (Qvw D ty (wC ty q) (va_A (wC ty q σ) sz) res) 0 0 (va_A (wC ty q σ) sz) := by
  refine en_w (Qc := fun A => Qvw D ty (wC ty q) A res) (by decide) (Nat.le_of_ble_eq_true rfl) ?_
  intro p e s m args below meth c A X hlk hr _ H locs hI ls hl
  have X : CallFix p m c cX2_dropNumber 1 s args tb RX2 := X
  have hl : lv_has ls 1 [(0, .ref (q 3))] := hl
  unfold f_X2_dropNumber at hF
  refine lv_aload_n X.1 X.2.1 dX2_dropNumber_0 rfl (lv_at hl 0 rfl) ?_
  refine lv_dup X.1 X.2.1 dX2_dropNumber_1 rfl ?_
  refine g_X2_held (v := gI σ 5) X hI rfl dX2_dropNumber_2 ?_
  refine lv_iconst (v := 4) X.1 X.2.1 dX2_dropNumber_5 (by decide) ?_
  refine lv_isub X.1 X.2.1 dX2_dropNumber_6 ?_
  refine p_X2_held X hI dX2_dropNumber_7 (fun H locs hI => ?_)
  exact rt_v X hlk hr hI hF dX2_dropNumber_10
