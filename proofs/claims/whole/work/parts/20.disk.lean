abbrev rm_X0_lengthOf : Room := { frames := 0, cells := 0, slots := 0, locals := 0 }
def f_X0_lengthOf (x1 : Int32) (σ : St) : Option Int32 :=
  if x1 < 0 then
    some 0
  else
    if 5 ≤ x1 then
      some 0
    else
      if inB x1 5 = true then
        some (gA σ 0 x1)
      else none
set_option maxHeartbeats 4000000 in
set_option maxRecDepth 100000 in
theorem m_X0_lengthOf (l : Launch) (D : va_G) (ty : Nat → ClassId) (q : Nat → Nat) (σ : St) (sz : Nat) (x1 : Int32) {rr : Int32} (hF : f_X0_lengthOf x1 σ = some rr) : Met l yX0_lengthOf (wsy yX0_lengthOf cX0_lengthOf 2 (some .int)) rm_X0_lengthOf (Pcw D ty (FxC q) (wC ty q σ) sz [.ref (q 1), .int x1]) (Qiw D ty (wC ty q) (va_A (wC ty q σ) sz) (rr, σ)) 0 0 (va_A (wC ty q σ) sz) := by
  refine en_w (Qc := fun A => Qiw D ty (wC ty q) A (rr, σ)) (by decide) (Nat.le_of_ble_eq_true rfl) ?_
  intro p e s m args below meth c A X hlk hr _ H locs hI ls hl
  have X : CallFix p m c cX0_lengthOf 2 s args tb RX0 := X
  have hl : lv_has ls 2 [(0, .ref (q 1)), (1, .int x1)] := hl
  unfold f_X0_lengthOf at hF
  refine lv_iload_n X.1 X.2.1 dX0_lengthOf_0 rfl (lv_at hl 1 rfl) ?_
  refine lv_if_lt (tgt := 18) X.1 X.2.1 dX0_lengthOf_1 (by decide) (fun c1 => ?_) (fun c1 => ?_)
  · replace hF := fb_pos c1 hF
    refine lv_iconst (v := 0) X.1 X.2.1 dX0_lengthOf_18 (by decide) ?_
    exact rt_i X hlk hr hI (fb_pr hF) dX0_lengthOf_19
  · replace hF := fb_neg c1 hF
    refine lv_iload_n X.1 X.2.1 dX0_lengthOf_4 rfl (lv_at hl 1 rfl) ?_
    refine lv_iconst (v := 5) X.1 X.2.1 dX0_lengthOf_5 (by decide) ?_
    refine lv_icmp_ge (tgt := 18) X.1 X.2.1 dX0_lengthOf_6 (by decide) (fun c2 => ?_) (fun c2 => ?_)
    · replace hF := fb_pos c2 hF
      refine lv_iconst (v := 0) X.1 X.2.1 dX0_lengthOf_18 (by decide) ?_
      exact rt_i X hlk hr hI (fb_pr hF) dX0_lengthOf_19
    · replace hF := fb_neg c2 hF
      refine lv_aload_n X.1 X.2.1 dX0_lengthOf_9 rfl (lv_at hl 0 rfl) ?_
      refine g_X0_lengths X hI dX0_lengthOf_10 ?_
      refine lv_iload_n X.1 X.2.1 dX0_lengthOf_13 rfl (lv_at hl 1 rfl) ?_
      obtain ⟨h3, hF⟩ := fb_chk hF
      refine aC_0 (v := gA σ 0 x1) X hI rfl h3 dX0_lengthOf_14 ?_
      refine lv_goto (tgt := 19) X.1 X.2.1 dX0_lengthOf_15 (by decide) ?_
      exact rt_i X hlk hr hI (fb_pr hF) dX0_lengthOf_19
abbrev rm_X4_isSegment : Room := { frames := 0, cells := 0, slots := 0, locals := 0 }
def f_X4_isSegment (x0 : Int32) (σ : St) : Option Int32 :=
  if x0 < 0 then
    some 0
  else
    if 5 ≤ x0 then
      some 0
    else
      some 1
set_option maxHeartbeats 4000000 in
set_option maxRecDepth 100000 in
theorem m_X4_isSegment (l : Launch) (D : va_G) (ty : Nat → ClassId) (q : Nat → Nat) (σ : St) (sz : Nat) (x0 : Int32) {rr : Int32} (hF : f_X4_isSegment x0 σ = some rr) : Met l yX4_isSegment (wsy yX4_isSegment cX4_isSegment 1 (some .boolean)) rm_X4_isSegment (Pcw D ty (FxC q) (wC ty q σ) sz [.int x0]) (Qiw D ty (wC ty q) (va_A (wC ty q σ) sz) (rr, σ)) 0 0 (va_A (wC ty q σ) sz) := by
  refine en_w (Qc := fun A => Qiw D ty (wC ty q) A (rr, σ)) (by decide) (Nat.le_of_ble_eq_true rfl) ?_
  intro p e s m args below meth c A X hlk hr _ H locs hI ls hl
  have X : CallFix p m c cX4_isSegment 1 s args tb RX4 := X
  have hl : lv_has ls 1 [(0, .int x0)] := hl
  unfold f_X4_isSegment at hF
  refine lv_iload_n X.1 X.2.1 dX4_isSegment_0 rfl (lv_at hl 0 rfl) ?_
  refine lv_if_lt (tgt := 13) X.1 X.2.1 dX4_isSegment_1 (by decide) (fun c1 => ?_) (fun c1 => ?_)
  · replace hF := fb_pos c1 hF
    refine lv_iconst (v := 0) X.1 X.2.1 dX4_isSegment_13 (by decide) ?_
    exact rt_z X hlk hr hI rfl (fb_pr hF) dX4_isSegment_14
  · replace hF := fb_neg c1 hF
    refine lv_iload_n X.1 X.2.1 dX4_isSegment_4 rfl (lv_at hl 0 rfl) ?_
    refine lv_iconst (v := 5) X.1 X.2.1 dX4_isSegment_5 (by decide) ?_
    refine lv_icmp_ge (tgt := 13) X.1 X.2.1 dX4_isSegment_6 (by decide) (fun c2 => ?_) (fun c2 => ?_)
    · replace hF := fb_pos c2 hF
      refine lv_iconst (v := 0) X.1 X.2.1 dX4_isSegment_13 (by decide) ?_
      exact rt_z X hlk hr hI rfl (fb_pr hF) dX4_isSegment_14
    · replace hF := fb_neg c2 hF
      refine lv_iconst (v := 1) X.1 X.2.1 dX4_isSegment_9 (by decide) ?_
      refine lv_goto (tgt := 14) X.1 X.2.1 dX4_isSegment_10 (by decide) ?_
      exact rt_z X hlk hr hI rfl (fb_pr hF) dX4_isSegment_14
abbrev rm_X0_append : Room := { frames := 1, cells := 0, slots := 0, locals := 21 }
def f_X0_append (x1 x2 : Int32) (σ : St) : Option (Int32 × St) :=
  (f_X0_lengthOf x1 σ).bind fun u1 =>
  (f_X4_isSegment x1 σ).bind fun u3 =>
  if u3 = 0 then
    some (0, σ)
  else
    if 80 ≤ u1 then
      some (0, σ)
    else
      if inB x1 5 = true then
        if inB u1 80 = true then
          if inB x1 5 = true then
            some (0, sA (sA σ (10 + x1.toNatClampNeg) u1 (vp_nar .byte x2)) 0 x1 (u1 + 1))
          else none
        else none
      else none
set_option maxHeartbeats 4000000 in
set_option maxRecDepth 100000 in
theorem m_X0_append (l : Launch) (D : va_G) (ty : Nat → ClassId) (q : Nat → Nat) (σ : St) (sz : Nat) (x1 x2 : Int32) {res : Int32 × St} (hF : f_X0_append x1 x2 σ = some res) : Met l yX0_append (wsy yX0_append cX0_append 4 none) rm_X0_append (Pcw D ty (FxC q) (wC ty q σ) sz [.ref (q 1), .int x1, .int x2]) (Qvw D ty (wC ty q) (va_A (wC ty q σ) sz) res) 0 0 (va_A (wC ty q σ) sz) := by
  refine en_w (Qc := fun A => Qvw D ty (wC ty q) A res) (by decide) (Nat.le_of_ble_eq_true rfl) ?_
  intro p e s m args below meth c A X hlk hr _ H locs hI ls hl
  have X : CallFix p m c cX0_append 4 s args tb RX0 := X
  have hl : lv_has ls 4 [(0, .ref (q 1)), (1, .int x1), (2, .int x2)] := hl
  unfold f_X0_append at hF
  refine lv_aload_n X.1 X.2.1 dX0_append_0 rfl (lv_at hl 0 rfl) ?_
  refine lv_iload_n X.1 X.2.1 dX0_append_1 rfl (lv_at hl 1 rfl) ?_
  obtain ⟨u1, h2, hF⟩ := fb_bnd hF
  refine cl_i (w := wC ty q) (σ := σ) (rest := []) X (fxC q) hI (m_X0_lengthOf l D ty q σ _ x1 h2) ok_X0_lengthOf ml_X0_20 ⟨rfl, rfl, Nat.le_of_ble_eq_true rfl, Nat.le_of_ble_eq_true rfl⟩ 1 rc_X0 rfl rfl hl.1 rfl (Nat.le_of_ble_eq_true rfl) ⟨Nat.le_of_ble_eq_true rfl, Nat.le_of_ble_eq_true rfl⟩ dX0_append_2 (fun H locs hI => ?_)
  refine lv_istore_n (lv' := [(3, .int u1), (0, .ref (q 1)), (1, .int x1), (2, .int x2)]) X.1 X.2.1 dX0_append_5 rfl hl (by decide) rfl (fun ls hl => ?_)
  refine lv_iload_n X.1 X.2.1 dX0_append_6 rfl (lv_at hl 2 rfl) ?_
  obtain ⟨u3, h4, hF⟩ := fb_bnd hF
  refine cn_i (w := wC ty q) (σ := σ) (rest := []) X (fxC q) hI (m_X4_isSegment l D ty q σ _ x1 h4) ok_X4_isSegment hI.2.2.2.2.2.2.2.2.2.1 ⟨rfl, rfl, Nat.le_of_ble_eq_true rfl, Nat.le_of_ble_eq_true rfl⟩ rfl hl.1 rfl (Nat.le_of_ble_eq_true rfl) ⟨Nat.le_of_ble_eq_true rfl, Nat.le_of_ble_eq_true rfl⟩ dX0_append_7 (fun H locs hI => ?_)
  refine lv_if_eq (tgt := 37) X.1 X.2.1 dX0_append_10 (by decide) (fun c5 => ?_) (fun c5 => ?_)
  · replace hF := fb_pos c5 hF
    exact rt_v X hlk hr hI hF dX0_append_37
  · replace hF := fb_neg c5 hF
    refine lv_iload_n X.1 X.2.1 dX0_append_13 rfl (lv_at hl 0 rfl) ?_
    refine lv_bipush (v := 80) X.1 X.2.1 dX0_append_14 (by decide) ?_
    refine lv_icmp_ge (tgt := 37) X.1 X.2.1 dX0_append_16 (by decide) (fun c6 => ?_) (fun c6 => ?_)
    · replace hF := fb_pos c6 hF
      exact rt_v X hlk hr hI hF dX0_append_37
    · replace hF := fb_neg c6 hF
      refine lv_aload_n X.1 X.2.1 dX0_append_19 rfl (lv_at hl 1 rfl) ?_
      refine g_X0_bytes X hI dX0_append_20 ?_
      refine lv_iload_n X.1 X.2.1 dX0_append_23 rfl (lv_at hl 2 rfl) ?_
      obtain ⟨h7, hF⟩ := fb_chk hF
      refine aC_row X hI h7 dX0_append_24 ?_
      refine lv_iload_n X.1 X.2.1 dX0_append_25 rfl (lv_at hl 0 rfl) ?_
      refine lv_iload_n X.1 X.2.1 dX0_append_26 rfl (lv_at hl 3 rfl) ?_
      obtain ⟨h8, hF⟩ := fb_chk hF
      refine sC_byte X hI h7 h8 dX0_append_27 (fun H locs hI => ?_)
      refine lv_aload_n X.1 X.2.1 dX0_append_28 rfl (lv_at hl 1 rfl) ?_
      refine g_X0_lengths X hI dX0_append_29 ?_
      refine lv_iload_n X.1 X.2.1 dX0_append_32 rfl (lv_at hl 2 rfl) ?_
      refine lv_iload_n X.1 X.2.1 dX0_append_33 rfl (lv_at hl 0 rfl) ?_
      refine lv_iconst (v := 1) X.1 X.2.1 dX0_append_34 (by decide) ?_
      refine lv_iadd X.1 X.2.1 dX0_append_35 ?_
      obtain ⟨h9, hF⟩ := fb_chk hF
      refine sC_0 X hI h9 dX0_append_36 (fun H locs hI => ?_)
      exact rt_v X hlk hr hI hF dX0_append_37
abbrev rm_X0_wipe : Room := { frames := 1, cells := 0, slots := 0, locals := 20 }
def f_X0_wipe (x1 : Int32) (σ : St) : Option (Int32 × St) :=
  (f_X4_isSegment x1 σ).bind fun u1 =>
  if u1 = 0 then
    some (0, σ)
  else
    if inB x1 5 = true then
      some (0, sA σ 0 x1 0)
    else none
set_option maxHeartbeats 4000000 in
set_option maxRecDepth 100000 in
theorem m_X0_wipe (l : Launch) (D : va_G) (ty : Nat → ClassId) (q : Nat → Nat) (σ : St) (sz : Nat) (x1 : Int32) {res : Int32 × St} (hF : f_X0_wipe x1 σ = some res) : Met l yX0_wipe (wsy yX0_wipe cX0_wipe 2 none) rm_X0_wipe (Pcw D ty (FxC q) (wC ty q σ) sz [.ref (q 1), .int x1]) (Qvw D ty (wC ty q) (va_A (wC ty q σ) sz) res) 0 0 (va_A (wC ty q σ) sz) := by
  refine en_w (Qc := fun A => Qvw D ty (wC ty q) A res) (by decide) (Nat.le_of_ble_eq_true rfl) ?_
  intro p e s m args below meth c A X hlk hr _ H locs hI ls hl
  have X : CallFix p m c cX0_wipe 2 s args tb RX0 := X
  have hl : lv_has ls 2 [(0, .ref (q 1)), (1, .int x1)] := hl
  unfold f_X0_wipe at hF
  refine lv_iload_n X.1 X.2.1 dX0_wipe_0 rfl (lv_at hl 1 rfl) ?_
  obtain ⟨u1, h2, hF⟩ := fb_bnd hF
  refine cn_i (w := wC ty q) (σ := σ) (rest := []) X (fxC q) hI (m_X4_isSegment l D ty q σ _ x1 h2) ok_X4_isSegment hI.2.2.2.2.2.2.2.2.2.1 ⟨rfl, rfl, Nat.le_of_ble_eq_true rfl, Nat.le_of_ble_eq_true rfl⟩ rfl hl.1 rfl (Nat.le_of_ble_eq_true rfl) ⟨Nat.le_of_ble_eq_true rfl, Nat.le_of_ble_eq_true rfl⟩ dX0_wipe_1 (fun H locs hI => ?_)
  refine lv_if_eq (tgt := 14) X.1 X.2.1 dX0_wipe_4 (by decide) (fun c3 => ?_) (fun c3 => ?_)
  · replace hF := fb_pos c3 hF
    exact rt_v X hlk hr hI hF dX0_wipe_14
  · replace hF := fb_neg c3 hF
    refine lv_aload_n X.1 X.2.1 dX0_wipe_7 rfl (lv_at hl 0 rfl) ?_
    refine g_X0_lengths X hI dX0_wipe_8 ?_
    refine lv_iload_n X.1 X.2.1 dX0_wipe_11 rfl (lv_at hl 1 rfl) ?_
    refine lv_iconst (v := 0) X.1 X.2.1 dX0_wipe_12 (by decide) ?_
    obtain ⟨h4, hF⟩ := fb_chk hF
    refine sC_0 X hI h4 dX0_wipe_13 (fun H locs hI => ?_)
    exact rt_v X hlk hr hI hF dX0_wipe_14
abbrev rm_X0_byteAt : Room := { frames := 0, cells := 0, slots := 0, locals := 0 }
def f_X0_byteAt (x1 x2 : Int32) (σ : St) : Option Int32 :=
  if x1 < 0 then
    some 0
  else
    if 5 ≤ x1 then
      some 0
    else
      if x2 < 0 then
        some 0
      else
        if inB x1 5 = true then
          if (gA σ 0 x1) ≤ x2 then
            some 0
          else
            if inB x1 5 = true then
              if inB x2 80 = true then
                some (gA σ (10 + x1.toNatClampNeg) x2)
              else none
            else none
        else none
set_option maxHeartbeats 4000000 in
set_option maxRecDepth 100000 in
theorem m_X0_byteAt (l : Launch) (D : va_G) (ty : Nat → ClassId) (q : Nat → Nat) (σ : St) (sz : Nat) (x1 x2 : Int32) {rr : Int32} (hF : f_X0_byteAt x1 x2 σ = some rr) : Met l yX0_byteAt (wsy yX0_byteAt cX0_byteAt 4 (some .int)) rm_X0_byteAt (Pcw D ty (FxC q) (wC ty q σ) sz [.ref (q 1), .int x1, .int x2]) (Qiw D ty (wC ty q) (va_A (wC ty q σ) sz) (rr, σ)) 0 0 (va_A (wC ty q σ) sz) := by
  refine en_w (Qc := fun A => Qiw D ty (wC ty q) A (rr, σ)) (by decide) (Nat.le_of_ble_eq_true rfl) ?_
  intro p e s m args below meth c A X hlk hr _ H locs hI ls hl
  have X : CallFix p m c cX0_byteAt 4 s args tb RX0 := X
  have hl : lv_has ls 4 [(0, .ref (q 1)), (1, .int x1), (2, .int x2)] := hl
  unfold f_X0_byteAt at hF
  refine lv_iload_n X.1 X.2.1 dX0_byteAt_0 rfl (lv_at hl 1 rfl) ?_
  refine lv_if_lt (tgt := 27) X.1 X.2.1 dX0_byteAt_1 (by decide) (fun c1 => ?_) (fun c1 => ?_)
  · replace hF := fb_pos c1 hF
    refine lv_iconst (v := 0) X.1 X.2.1 dX0_byteAt_27 (by decide) ?_
    refine lv_istore_n (lv' := [(3, .int 0), (0, .ref (q 1)), (1, .int x1), (2, .int x2)]) X.1 X.2.1 dX0_byteAt_28 rfl hl (by decide) rfl (fun ls hl => ?_)
    refine lv_iload_n X.1 X.2.1 dX0_byteAt_29 rfl (lv_at hl 0 rfl) ?_
    refine lv_if_eq (tgt := 44) X.1 X.2.1 dX0_byteAt_30 (by decide) (fun _ => ?_) (fun c => absurd (by decide) c)
    refine lv_iconst (v := 0) X.1 X.2.1 dX0_byteAt_44 (by decide) ?_
    exact rt_i X hlk hr hI (fb_pr hF) dX0_byteAt_45
  · replace hF := fb_neg c1 hF
    refine lv_iload_n X.1 X.2.1 dX0_byteAt_4 rfl (lv_at hl 1 rfl) ?_
    refine lv_iconst (v := 5) X.1 X.2.1 dX0_byteAt_5 (by decide) ?_
    refine lv_icmp_ge (tgt := 27) X.1 X.2.1 dX0_byteAt_6 (by decide) (fun c2 => ?_) (fun c2 => ?_)
    · replace hF := fb_pos c2 hF
      refine lv_iconst (v := 0) X.1 X.2.1 dX0_byteAt_27 (by decide) ?_
      refine lv_istore_n (lv' := [(3, .int 0), (0, .ref (q 1)), (1, .int x1), (2, .int x2)]) X.1 X.2.1 dX0_byteAt_28 rfl hl (by decide) rfl (fun ls hl => ?_)
      refine lv_iload_n X.1 X.2.1 dX0_byteAt_29 rfl (lv_at hl 0 rfl) ?_
      refine lv_if_eq (tgt := 44) X.1 X.2.1 dX0_byteAt_30 (by decide) (fun _ => ?_) (fun c => absurd (by decide) c)
      refine lv_iconst (v := 0) X.1 X.2.1 dX0_byteAt_44 (by decide) ?_
      exact rt_i X hlk hr hI (fb_pr hF) dX0_byteAt_45
    · replace hF := fb_neg c2 hF
      refine lv_iload_n X.1 X.2.1 dX0_byteAt_9 rfl (lv_at hl 2 rfl) ?_
      refine lv_if_lt (tgt := 27) X.1 X.2.1 dX0_byteAt_10 (by decide) (fun c3 => ?_) (fun c3 => ?_)
      · replace hF := fb_pos c3 hF
        refine lv_iconst (v := 0) X.1 X.2.1 dX0_byteAt_27 (by decide) ?_
        refine lv_istore_n (lv' := [(3, .int 0), (0, .ref (q 1)), (1, .int x1), (2, .int x2)]) X.1 X.2.1 dX0_byteAt_28 rfl hl (by decide) rfl (fun ls hl => ?_)
        refine lv_iload_n X.1 X.2.1 dX0_byteAt_29 rfl (lv_at hl 0 rfl) ?_
        refine lv_if_eq (tgt := 44) X.1 X.2.1 dX0_byteAt_30 (by decide) (fun _ => ?_) (fun c => absurd (by decide) c)
        refine lv_iconst (v := 0) X.1 X.2.1 dX0_byteAt_44 (by decide) ?_
        exact rt_i X hlk hr hI (fb_pr hF) dX0_byteAt_45
      · replace hF := fb_neg c3 hF
        refine lv_iload_n X.1 X.2.1 dX0_byteAt_13 rfl (lv_at hl 2 rfl) ?_
        refine lv_aload_n X.1 X.2.1 dX0_byteAt_14 rfl (lv_at hl 0 rfl) ?_
        refine g_X0_lengths X hI dX0_byteAt_15 ?_
        refine lv_iload_n X.1 X.2.1 dX0_byteAt_18 rfl (lv_at hl 1 rfl) ?_
        obtain ⟨h4, hF⟩ := fb_chk hF
        refine aC_0 (v := gA σ 0 x1) X hI rfl h4 dX0_byteAt_19 ?_
        refine lv_icmp_ge (tgt := 27) X.1 X.2.1 dX0_byteAt_20 (by decide) (fun c5 => ?_) (fun c5 => ?_)
        · replace hF := fb_pos c5 hF
          refine lv_iconst (v := 0) X.1 X.2.1 dX0_byteAt_27 (by decide) ?_
          refine lv_istore_n (lv' := [(3, .int 0), (0, .ref (q 1)), (1, .int x1), (2, .int x2)]) X.1 X.2.1 dX0_byteAt_28 rfl hl (by decide) rfl (fun ls hl => ?_)
          refine lv_iload_n X.1 X.2.1 dX0_byteAt_29 rfl (lv_at hl 0 rfl) ?_
          refine lv_if_eq (tgt := 44) X.1 X.2.1 dX0_byteAt_30 (by decide) (fun _ => ?_) (fun c => absurd (by decide) c)
          refine lv_iconst (v := 0) X.1 X.2.1 dX0_byteAt_44 (by decide) ?_
          exact rt_i X hlk hr hI (fb_pr hF) dX0_byteAt_45
        · replace hF := fb_neg c5 hF
          refine lv_iconst (v := 1) X.1 X.2.1 dX0_byteAt_23 (by decide) ?_
          refine lv_goto (tgt := 28) X.1 X.2.1 dX0_byteAt_24 (by decide) ?_
          refine lv_istore_n (lv' := [(3, .int 1), (0, .ref (q 1)), (1, .int x1), (2, .int x2)]) X.1 X.2.1 dX0_byteAt_28 rfl hl (by decide) rfl (fun ls hl => ?_)
          refine lv_iload_n X.1 X.2.1 dX0_byteAt_29 rfl (lv_at hl 0 rfl) ?_
          refine lv_if_eq (tgt := 44) X.1 X.2.1 dX0_byteAt_30 (by decide) (fun c => absurd c (by decide)) (fun _ => ?_)
          refine lv_aload_n X.1 X.2.1 dX0_byteAt_33 rfl (lv_at hl 1 rfl) ?_
          refine g_X0_bytes X hI dX0_byteAt_34 ?_
          refine lv_iload_n X.1 X.2.1 dX0_byteAt_37 rfl (lv_at hl 2 rfl) ?_
          obtain ⟨h6, hF⟩ := fb_chk hF
          refine aC_row X hI h6 dX0_byteAt_38 ?_
          refine lv_iload_n X.1 X.2.1 dX0_byteAt_39 rfl (lv_at hl 3 rfl) ?_
          obtain ⟨h7, hF⟩ := fb_chk hF
          refine aC_byte (v := gA σ (10 + x1.toNatClampNeg) x2) X hI h6 rfl h7 dX0_byteAt_40 ?_
          refine lv_goto (tgt := 45) X.1 X.2.1 dX0_byteAt_41 (by decide) ?_
          exact rt_i X hlk hr hI (fb_pr hF) dX0_byteAt_45
abbrev rm_X0_proceduresOf : Room := { frames := 1, cells := 0, slots := 0, locals := 23 }
def b_X0_proceduresOf_21 : Nat → Int32 → Int32 → Int32 → St → Option Int32
  | 0, _, _, _, _ => none
  | n + 1, x1, x2, x3, σ =>
    if x2 < x3 then
      some x2
    else
      (f_X0_byteAt x1 x3 σ).bind fun u6 =>
      if (u6 &&& 255) ≤ x2 then
        some 0
      else
        (f_X0_lengthOf x1 σ).bind fun u9 =>
        if (u6 &&& 255) < u9 then
          b_X0_proceduresOf_21 n x1 x2 (x3 + 1) σ
        else
          some 0
set_option maxHeartbeats 4000000 in
set_option maxRecDepth 100000 in
theorem w_b_X0_proceduresOf_21 {l : Launch} {p : Program} {e : Env} {s : State} {m : MethodId} {args : Array Value} {below : List Frame} {meth : Method} {c : Code} {A : Nat → Prop} {D : va_G} {ty : Nat → ClassId} {q : Nat → Nat} {rr : Int32} (X : CallFix p m c cX0_proceduresOf 5 s args tb RX0) (hlk : meth.locks = false) (hr : meth.sig.returnType = (some .int)) : ∀ (n : Nat) (x1 x2 x3 : Int32) (σ : St) (H : Heap) (locs : List Loc) (ls : Array Slot), b_X0_proceduresOf_21 n x1 x2 x3 σ = some rr → Inw D ty (FxC q) (wC ty q σ) A s H locs → lv_has ls 5 [(0, .ref (q 1)), (1, .int x1), (2, .int x2), (3, .int x3)] → W p l e rm_X0_proceduresOf s m args below meth c H locs 0 0 (MQ below (Qiw D ty (wC ty q) A (rr, σ)) args s 0 0 A) (F0 m 21 ls []) := by
  intro n
  induction n with
  | zero =>
    intro x1 x2 x3 σ H locs ls hF
    cases hF
  | succ n ih =>
    intro x1 x2 x3 σ H locs ls hF hI hl
    rw [b_X0_proceduresOf_21] at hF
    refine lv_iload_n X.1 X.2.1 dX0_proceduresOf_21 rfl (lv_at hl 3 rfl) ?_
    refine lv_iload_n X.1 X.2.1 dX0_proceduresOf_22 rfl (lv_at hl 2 rfl) ?_
    refine lv_icmp_gt (tgt := 62) X.1 X.2.1 dX0_proceduresOf_23 (by decide) (fun c5 => ?_) (fun c5 => ?_)
    · replace hF := fb_pos c5 hF
      refine lv_iload_n X.1 X.2.1 dX0_proceduresOf_62 rfl (lv_at hl 2 rfl) ?_
      exact rt_i X hlk hr hI (fb_pr hF) dX0_proceduresOf_63
    · replace hF := fb_neg c5 hF
      refine lv_aload_n X.1 X.2.1 dX0_proceduresOf_26 rfl (lv_at hl 0 rfl) ?_
      refine lv_iload_n X.1 X.2.1 dX0_proceduresOf_27 rfl (lv_at hl 1 rfl) ?_
      refine lv_iload_n X.1 X.2.1 dX0_proceduresOf_28 rfl (lv_at hl 3 rfl) ?_
      obtain ⟨u6, h7, hF⟩ := fb_bnd hF
      refine cl_i (w := wC ty q) (σ := σ) (rest := []) X (fxC q) hI (m_X0_byteAt l D ty q σ _ x1 x3 h7) ok_X0_byteAt ml_X0_28 ⟨rfl, rfl, Nat.le_of_ble_eq_true rfl, Nat.le_of_ble_eq_true rfl⟩ 1 rc_X0 rfl rfl hl.1 rfl (Nat.le_of_ble_eq_true rfl) ⟨Nat.le_of_ble_eq_true rfl, Nat.le_of_ble_eq_true rfl⟩ dX0_proceduresOf_29 (fun H locs hI => ?_)
      refine lv_sipush (v := 255) X.1 X.2.1 dX0_proceduresOf_32 (by decide) ?_
      refine lv_iand X.1 X.2.1 dX0_proceduresOf_35 ?_
      refine lv_istore (lv' := [(4, .int (u6 &&& 255)), (0, .ref (q 1)), (1, .int x1), (2, .int x2), (3, .int x3)]) X.1 X.2.1 dX0_proceduresOf_36 hl (by decide) rfl (fun ls hl => ?_)
      refine lv_iload X.1 X.2.1 dX0_proceduresOf_38 (lv_at hl 0 rfl) ?_
      refine lv_iload_n X.1 X.2.1 dX0_proceduresOf_40 rfl (lv_at hl 3 rfl) ?_
      refine lv_icmp_le (tgt := 54) X.1 X.2.1 dX0_proceduresOf_41 (by decide) (fun c8 => ?_) (fun c8 => ?_)
      · replace hF := fb_pos c8 hF
        refine lv_iconst (v := 0) X.1 X.2.1 dX0_proceduresOf_54 (by decide) ?_
        exact rt_i X hlk hr hI (fb_pr hF) dX0_proceduresOf_55
      · replace hF := fb_neg c8 hF
        refine lv_iload X.1 X.2.1 dX0_proceduresOf_44 (lv_at hl 0 rfl) ?_
        refine lv_aload_n X.1 X.2.1 dX0_proceduresOf_46 rfl (lv_at hl 1 rfl) ?_
        refine lv_iload_n X.1 X.2.1 dX0_proceduresOf_47 rfl (lv_at hl 2 rfl) ?_
        obtain ⟨u9, h10, hF⟩ := fb_bnd hF
        refine cl_i (w := wC ty q) (σ := σ) (rest := [.int (u6 &&& 255)]) X (fxC q) hI (m_X0_lengthOf l D ty q σ _ x1 h10) ok_X0_lengthOf ml_X0_20 ⟨rfl, rfl, Nat.le_of_ble_eq_true rfl, Nat.le_of_ble_eq_true rfl⟩ 1 rc_X0 rfl rfl hl.1 rfl (Nat.le_of_ble_eq_true rfl) ⟨Nat.le_of_ble_eq_true rfl, Nat.le_of_ble_eq_true rfl⟩ dX0_proceduresOf_48 (fun H locs hI => ?_)
        refine lv_icmp_lt (tgt := 56) X.1 X.2.1 dX0_proceduresOf_51 (by decide) (fun c11 => ?_) (fun c11 => ?_)
        · replace hF := fb_pos c11 hF
          refine lv_iinc (v := x3 + 1) (lv' := [(3, .int (x3 + 1)), (4, .int (u6 &&& 255)), (0, .ref (q 1)), (1, .int x1), (2, .int x2)]) X.1 X.2.1 dX0_proceduresOf_56 hl (k := 4) rfl rfl (by decide) rfl (fun ls hl => ?_)
          refine lv_goto (tgt := 21) X.1 X.2.1 dX0_proceduresOf_59 (by decide) ?_
          exact ih x1 x2 (x3 + 1) _ _ _ ls hF hI (lv_sub hl [2, 3, 4, 0] rfl)
        · replace hF := fb_neg c11 hF
          refine lv_iconst (v := 0) X.1 X.2.1 dX0_proceduresOf_54 (by decide) ?_
          exact rt_i X hlk hr hI (fb_pr hF) dX0_proceduresOf_55
def f_X0_proceduresOf (x1 : Int32) (σ : St) : Option Int32 :=
  (f_X0_byteAt x1 0 σ).bind fun u1 =>
  if u1 < 1 then
    some 0
  else
    if u1 ≤ 4 then
      b_X0_proceduresOf_21 6 x1 u1 1 σ
    else
      some 0
set_option maxHeartbeats 4000000 in
set_option maxRecDepth 100000 in
theorem m_X0_proceduresOf (l : Launch) (D : va_G) (ty : Nat → ClassId) (q : Nat → Nat) (σ : St) (sz : Nat) (x1 : Int32) {rr : Int32} (hF : f_X0_proceduresOf x1 σ = some rr) : Met l yX0_proceduresOf (wsy yX0_proceduresOf cX0_proceduresOf 5 (some .int)) rm_X0_proceduresOf (Pcw D ty (FxC q) (wC ty q σ) sz [.ref (q 1), .int x1]) (Qiw D ty (wC ty q) (va_A (wC ty q σ) sz) (rr, σ)) 0 0 (va_A (wC ty q σ) sz) := by
  refine en_w (Qc := fun A => Qiw D ty (wC ty q) A (rr, σ)) (by decide) (Nat.le_of_ble_eq_true rfl) ?_
  intro p e s m args below meth c A X hlk hr _ H locs hI ls hl
  have X : CallFix p m c cX0_proceduresOf 5 s args tb RX0 := X
  have hl : lv_has ls 5 [(0, .ref (q 1)), (1, .int x1)] := hl
  unfold f_X0_proceduresOf at hF
  refine lv_aload_n X.1 X.2.1 dX0_proceduresOf_0 rfl (lv_at hl 0 rfl) ?_
  refine lv_iload_n X.1 X.2.1 dX0_proceduresOf_1 rfl (lv_at hl 1 rfl) ?_
  refine lv_iconst (v := 0) X.1 X.2.1 dX0_proceduresOf_2 (by decide) ?_
  obtain ⟨u1, h2, hF⟩ := fb_bnd hF
  refine cl_i (w := wC ty q) (σ := σ) (rest := []) X (fxC q) hI (m_X0_byteAt l D ty q σ _ x1 0 h2) ok_X0_byteAt ml_X0_28 ⟨rfl, rfl, Nat.le_of_ble_eq_true rfl, Nat.le_of_ble_eq_true rfl⟩ 1 rc_X0 rfl rfl hl.1 rfl (Nat.le_of_ble_eq_true rfl) ⟨Nat.le_of_ble_eq_true rfl, Nat.le_of_ble_eq_true rfl⟩ dX0_proceduresOf_3 (fun H locs hI => ?_)
  refine lv_istore_n (lv' := [(2, .int u1), (0, .ref (q 1)), (1, .int x1)]) X.1 X.2.1 dX0_proceduresOf_6 rfl hl (by decide) rfl (fun ls hl => ?_)
  refine lv_iload_n X.1 X.2.1 dX0_proceduresOf_7 rfl (lv_at hl 0 rfl) ?_
  refine lv_iconst (v := 1) X.1 X.2.1 dX0_proceduresOf_8 (by decide) ?_
  refine lv_icmp_lt (tgt := 17) X.1 X.2.1 dX0_proceduresOf_9 (by decide) (fun c3 => ?_) (fun c3 => ?_)
  · replace hF := fb_pos c3 hF
    refine lv_iconst (v := 0) X.1 X.2.1 dX0_proceduresOf_17 (by decide) ?_
    exact rt_i X hlk hr hI (fb_pr hF) dX0_proceduresOf_18
  · replace hF := fb_neg c3 hF
    refine lv_iload_n X.1 X.2.1 dX0_proceduresOf_12 rfl (lv_at hl 0 rfl) ?_
    refine lv_iconst (v := 4) X.1 X.2.1 dX0_proceduresOf_13 (by decide) ?_
    refine lv_icmp_le (tgt := 19) X.1 X.2.1 dX0_proceduresOf_14 (by decide) (fun c4 => ?_) (fun c4 => ?_)
    · replace hF := fb_pos c4 hF
      refine lv_iconst (v := 1) X.1 X.2.1 dX0_proceduresOf_19 (by decide) ?_
      refine lv_istore_n (lv' := [(3, .int 1), (2, .int u1), (0, .ref (q 1)), (1, .int x1)]) X.1 X.2.1 dX0_proceduresOf_20 rfl hl (by decide) rfl (fun ls hl => ?_)
      exact w_b_X0_proceduresOf_21 X hlk hr 6 x1 u1 1 _ _ _ ls hF hI (lv_sub hl [2, 3, 1, 0] rfl)
    · replace hF := fb_neg c4 hF
      refine lv_iconst (v := 0) X.1 X.2.1 dX0_proceduresOf_17 (by decide) ?_
      exact rt_i X hlk hr hI (fb_pr hF) dX0_proceduresOf_18
abbrev rm_X0_beginOf : Room := { frames := 1, cells := 0, slots := 0, locals := 23 }
def f_X0_beginOf (x1 x2 : Int32) (σ : St) : Option Int32 :=
  (f_X0_byteAt x1 (x2 + 1) σ).bind fun u1 =>
  some (u1 &&& 255)
set_option maxHeartbeats 4000000 in
set_option maxRecDepth 100000 in
theorem m_X0_beginOf (l : Launch) (D : va_G) (ty : Nat → ClassId) (q : Nat → Nat) (σ : St) (sz : Nat) (x1 x2 : Int32) {rr : Int32} (hF : f_X0_beginOf x1 x2 σ = some rr) : Met l yX0_beginOf (wsy yX0_beginOf cX0_beginOf 3 (some .int)) rm_X0_beginOf (Pcw D ty (FxC q) (wC ty q σ) sz [.ref (q 1), .int x1, .int x2]) (Qiw D ty (wC ty q) (va_A (wC ty q σ) sz) (rr, σ)) 0 0 (va_A (wC ty q σ) sz) := by
  refine en_w (Qc := fun A => Qiw D ty (wC ty q) A (rr, σ)) (by decide) (Nat.le_of_ble_eq_true rfl) ?_
  intro p e s m args below meth c A X hlk hr _ H locs hI ls hl
  have X : CallFix p m c cX0_beginOf 3 s args tb RX0 := X
  have hl : lv_has ls 3 [(0, .ref (q 1)), (1, .int x1), (2, .int x2)] := hl
  unfold f_X0_beginOf at hF
  refine lv_aload_n X.1 X.2.1 dX0_beginOf_0 rfl (lv_at hl 0 rfl) ?_
  refine lv_iload_n X.1 X.2.1 dX0_beginOf_1 rfl (lv_at hl 1 rfl) ?_
  refine lv_iload_n X.1 X.2.1 dX0_beginOf_2 rfl (lv_at hl 2 rfl) ?_
  refine lv_iconst (v := 1) X.1 X.2.1 dX0_beginOf_3 (by decide) ?_
  refine lv_iadd X.1 X.2.1 dX0_beginOf_4 ?_
  obtain ⟨u1, h2, hF⟩ := fb_bnd hF
  refine cl_i (w := wC ty q) (σ := σ) (rest := []) X (fxC q) hI (m_X0_byteAt l D ty q σ _ x1 (x2 + 1) h2) ok_X0_byteAt ml_X0_28 ⟨rfl, rfl, Nat.le_of_ble_eq_true rfl, Nat.le_of_ble_eq_true rfl⟩ 1 rc_X0 rfl rfl hl.1 rfl (Nat.le_of_ble_eq_true rfl) ⟨Nat.le_of_ble_eq_true rfl, Nat.le_of_ble_eq_true rfl⟩ dX0_beginOf_5 (fun H locs hI => ?_)
  refine lv_sipush (v := 255) X.1 X.2.1 dX0_beginOf_8 (by decide) ?_
  refine lv_iand X.1 X.2.1 dX0_beginOf_11 ?_
  exact rt_i X hlk hr hI (fb_pr hF) dX0_beginOf_12
abbrev rm_X0_localsOf : Room := { frames := 2, cells := 0, slots := 0, locals := 47 }
def f_X0_localsOf (x1 x2 : Int32) (σ : St) : Option Int32 :=
  if x2 < 0 then
    some (-1)
  else
    (f_X0_proceduresOf x1 σ).bind fun u2 =>
    if x2 < u2 then
      (f_X0_beginOf x1 x2 σ).bind fun u5 =>
      (f_X0_byteAt x1 u5 σ).bind fun u7 =>
      if u7 < 0 then
        some (-1)
      else
        if 6 < u7 then
          some (-1)
        else
          some u7
    else
      some (-1)
set_option maxHeartbeats 4000000 in
set_option maxRecDepth 100000 in
theorem m_X0_localsOf (l : Launch) (D : va_G) (ty : Nat → ClassId) (q : Nat → Nat) (σ : St) (sz : Nat) (x1 x2 : Int32) {rr : Int32} (hF : f_X0_localsOf x1 x2 σ = some rr) : Met l yX0_localsOf (wsy yX0_localsOf cX0_localsOf 4 (some .int)) rm_X0_localsOf (Pcw D ty (FxC q) (wC ty q σ) sz [.ref (q 1), .int x1, .int x2]) (Qiw D ty (wC ty q) (va_A (wC ty q σ) sz) (rr, σ)) 0 0 (va_A (wC ty q σ) sz) := by
  refine en_w (Qc := fun A => Qiw D ty (wC ty q) A (rr, σ)) (by decide) (Nat.le_of_ble_eq_true rfl) ?_
  intro p e s m args below meth c A X hlk hr _ H locs hI ls hl
  have X : CallFix p m c cX0_localsOf 4 s args tb RX0 := X
  have hl : lv_has ls 4 [(0, .ref (q 1)), (1, .int x1), (2, .int x2)] := hl
  unfold f_X0_localsOf at hF
  refine lv_iload_n X.1 X.2.1 dX0_localsOf_0 rfl (lv_at hl 2 rfl) ?_
  refine lv_if_lt (tgt := 13) X.1 X.2.1 dX0_localsOf_1 (by decide) (fun c1 => ?_) (fun c1 => ?_)
  · replace hF := fb_pos c1 hF
    refine lv_iconst (v := (-1)) X.1 X.2.1 dX0_localsOf_13 (by decide) ?_
    exact rt_i X hlk hr hI (fb_pr hF) dX0_localsOf_14
  · replace hF := fb_neg c1 hF
    refine lv_iload_n X.1 X.2.1 dX0_localsOf_4 rfl (lv_at hl 2 rfl) ?_
    refine lv_aload_n X.1 X.2.1 dX0_localsOf_5 rfl (lv_at hl 0 rfl) ?_
    refine lv_iload_n X.1 X.2.1 dX0_localsOf_6 rfl (lv_at hl 1 rfl) ?_
    obtain ⟨u2, h3, hF⟩ := fb_bnd hF
    refine cl_i (w := wC ty q) (σ := σ) (rest := [.int x2]) X (fxC q) hI (m_X0_proceduresOf l D ty q σ _ x1 h3) ok_X0_proceduresOf ml_X0_32 ⟨rfl, rfl, Nat.le_of_ble_eq_true rfl, Nat.le_of_ble_eq_true rfl⟩ 1 rc_X0 rfl rfl hl.1 rfl (Nat.le_of_ble_eq_true rfl) ⟨Nat.le_of_ble_eq_true rfl, Nat.le_of_ble_eq_true rfl⟩ dX0_localsOf_7 (fun H locs hI => ?_)
    refine lv_icmp_lt (tgt := 15) X.1 X.2.1 dX0_localsOf_10 (by decide) (fun c4 => ?_) (fun c4 => ?_)
    · replace hF := fb_pos c4 hF
      refine lv_aload_n X.1 X.2.1 dX0_localsOf_15 rfl (lv_at hl 0 rfl) ?_
      refine lv_iload_n X.1 X.2.1 dX0_localsOf_16 rfl (lv_at hl 1 rfl) ?_
      refine lv_aload_n X.1 X.2.1 dX0_localsOf_17 rfl (lv_at hl 0 rfl) ?_
      refine lv_iload_n X.1 X.2.1 dX0_localsOf_18 rfl (lv_at hl 1 rfl) ?_
      refine lv_iload_n X.1 X.2.1 dX0_localsOf_19 rfl (lv_at hl 2 rfl) ?_
      obtain ⟨u5, h6, hF⟩ := fb_bnd hF
      refine cl_i (w := wC ty q) (σ := σ) (rest := [.int x1, .ref (q 1)]) X (fxC q) hI (m_X0_beginOf l D ty q σ _ x1 x2 h6) ok_X0_beginOf ml_X0_35 ⟨rfl, rfl, Nat.le_of_ble_eq_true rfl, Nat.le_of_ble_eq_true rfl⟩ 1 rc_X0 rfl rfl hl.1 rfl (Nat.le_of_ble_eq_true rfl) ⟨Nat.le_of_ble_eq_true rfl, Nat.le_of_ble_eq_true rfl⟩ dX0_localsOf_20 (fun H locs hI => ?_)
      obtain ⟨u7, h8, hF⟩ := fb_bnd hF
      refine cl_i (w := wC ty q) (σ := σ) (rest := []) X (fxC q) hI (m_X0_byteAt l D ty q σ _ x1 u5 h8) ok_X0_byteAt ml_X0_28 ⟨rfl, rfl, Nat.le_of_ble_eq_true rfl, Nat.le_of_ble_eq_true rfl⟩ 1 rc_X0 rfl rfl hl.1 rfl (Nat.le_of_ble_eq_true rfl) ⟨Nat.le_of_ble_eq_true rfl, Nat.le_of_ble_eq_true rfl⟩ dX0_localsOf_23 (fun H locs hI => ?_)
      refine lv_istore_n (lv' := [(3, .int u7), (0, .ref (q 1)), (1, .int x1), (2, .int x2)]) X.1 X.2.1 dX0_localsOf_26 rfl hl (by decide) rfl (fun ls hl => ?_)
      refine lv_iload_n X.1 X.2.1 dX0_localsOf_27 rfl (lv_at hl 0 rfl) ?_
      refine lv_if_lt (tgt := 41) X.1 X.2.1 dX0_localsOf_28 (by decide) (fun c9 => ?_) (fun c9 => ?_)
      · replace hF := fb_pos c9 hF
        refine lv_iconst (v := (-1)) X.1 X.2.1 dX0_localsOf_41 (by decide) ?_
        exact rt_i X hlk hr hI (fb_pr hF) dX0_localsOf_42
      · replace hF := fb_neg c9 hF
        refine lv_iload_n X.1 X.2.1 dX0_localsOf_31 rfl (lv_at hl 0 rfl) ?_
        refine lv_bipush (v := 6) X.1 X.2.1 dX0_localsOf_32 (by decide) ?_
        refine lv_icmp_gt (tgt := 41) X.1 X.2.1 dX0_localsOf_34 (by decide) (fun c10 => ?_) (fun c10 => ?_)
        · replace hF := fb_pos c10 hF
          refine lv_iconst (v := (-1)) X.1 X.2.1 dX0_localsOf_41 (by decide) ?_
          exact rt_i X hlk hr hI (fb_pr hF) dX0_localsOf_42
        · replace hF := fb_neg c10 hF
          refine lv_iload_n X.1 X.2.1 dX0_localsOf_37 rfl (lv_at hl 0 rfl) ?_
          refine lv_goto (tgt := 42) X.1 X.2.1 dX0_localsOf_38 (by decide) ?_
          exact rt_i X hlk hr hI (fb_pr hF) dX0_localsOf_42
    · replace hF := fb_neg c4 hF
      refine lv_iconst (v := (-1)) X.1 X.2.1 dX0_localsOf_13 (by decide) ?_
      exact rt_i X hlk hr hI (fb_pr hF) dX0_localsOf_14
