abbrev rm_X5_thrown : Room := { frames := 0, cells := 0, slots := 0, locals := 0 }
def f_X5_thrown (σ : St) : Option Int32 :=
  some (gI σ 0)
set_option maxHeartbeats 4000000 in
set_option maxRecDepth 100000 in
theorem m_X5_thrown (l : Launch) (D : va_G) (ty : Nat → ClassId) (q : Nat → Nat) (σ : St) (sz : Nat) {rr : Int32} (hF : f_X5_thrown  σ = some rr) : Met l yX5_thrown (wsy yX5_thrown cX5_thrown 1 (some .int)) rm_X5_thrown (Pcw D ty FxM (wM ty q σ) sz [.ref (q 0)]) (Qiw D ty (wM ty q) (va_A (wM ty q σ) sz) (rr, σ)) 0 0 (va_A (wM ty q σ) sz) := by
  refine en_w (Qc := fun A => Qiw D ty (wM ty q) A (rr, σ)) (by decide) (Nat.le_of_ble_eq_true rfl) ?_
  intro p e s m args below meth c A X hlk hr _ H locs hI ls hl
  have X : CallFix p m c cX5_thrown 1 s args tb RX5 := X
  have hl : lv_has ls 1 [(0, .ref (q 0))] := hl
  unfold f_X5_thrown at hF
  refine lv_aload_n X.1 X.2.1 dX5_thrown_0 rfl (lv_at hl 0 rfl) ?_
  refine g_X5_code (v := gI σ 0) X hI rfl dX5_thrown_1 ?_
  exact rt_i X hlk hr hI (fb_pr hF) dX5_thrown_4
abbrev rm_X5_isSegment : Room := { frames := 0, cells := 0, slots := 0, locals := 0 }
def f_X5_isSegment (x0 : Int32) (σ : St) : Option Int32 :=
  if x0 < 0 then
    some 0
  else
    if 5 ≤ x0 then
      some 0
    else
      some 1
set_option maxHeartbeats 4000000 in
set_option maxRecDepth 100000 in
theorem m_X5_isSegment (l : Launch) (D : va_G) (ty : Nat → ClassId) (q : Nat → Nat) (σ : St) (sz : Nat) (x0 : Int32) {rr : Int32} (hF : f_X5_isSegment x0 σ = some rr) : Met l yX5_isSegment (wsy yX5_isSegment cX5_isSegment 1 (some .boolean)) rm_X5_isSegment (Pcw D ty FxM (wM ty q σ) sz [.int x0]) (Qiw D ty (wM ty q) (va_A (wM ty q σ) sz) (rr, σ)) 0 0 (va_A (wM ty q σ) sz) := by
  refine en_w (Qc := fun A => Qiw D ty (wM ty q) A (rr, σ)) (by decide) (Nat.le_of_ble_eq_true rfl) ?_
  intro p e s m args below meth c A X hlk hr _ H locs hI ls hl
  have X : CallFix p m c cX5_isSegment 1 s args tb RX5 := X
  have hl : lv_has ls 1 [(0, .int x0)] := hl
  unfold f_X5_isSegment at hF
  refine lv_iload_n X.1 X.2.1 dX5_isSegment_0 rfl (lv_at hl 0 rfl) ?_
  refine lv_if_lt (tgt := 13) X.1 X.2.1 dX5_isSegment_1 (by decide) (fun c1 => ?_) (fun c1 => ?_)
  · replace hF := fb_pos c1 hF
    refine lv_iconst (v := 0) X.1 X.2.1 dX5_isSegment_13 (by decide) ?_
    exact rt_z X hlk hr hI rfl (fb_pr hF) dX5_isSegment_14
  · replace hF := fb_neg c1 hF
    refine lv_iload_n X.1 X.2.1 dX5_isSegment_4 rfl (lv_at hl 0 rfl) ?_
    refine lv_iconst (v := 5) X.1 X.2.1 dX5_isSegment_5 (by decide) ?_
    refine lv_icmp_ge (tgt := 13) X.1 X.2.1 dX5_isSegment_6 (by decide) (fun c2 => ?_) (fun c2 => ?_)
    · replace hF := fb_pos c2 hF
      refine lv_iconst (v := 0) X.1 X.2.1 dX5_isSegment_13 (by decide) ?_
      exact rt_z X hlk hr hI rfl (fb_pr hF) dX5_isSegment_14
    · replace hF := fb_neg c2 hF
      refine lv_iconst (v := 1) X.1 X.2.1 dX5_isSegment_9 (by decide) ?_
      refine lv_goto (tgt := 14) X.1 X.2.1 dX5_isSegment_10 (by decide) ?_
      exact rt_z X hlk hr hI rfl (fb_pr hF) dX5_isSegment_14
abbrev rm_X5_code : Room := { frames := 1, cells := 0, slots := 0, locals := 20 }
def b_X5_code_28 (x1 x2 z0 : Int32) (σ : St) : Option (Int32 × St) :=
  if z0 ≤ 0 then
    if inB x1 5 = true then
      if inB ((80 * x1) + (gA σ 1 x1)) 400 = true then
        if inB x1 5 = true then
          if inB x1 5 = true then
            if inB x1 5 = true then
              some (gA (sA (sA (sI σ 0 z0) 0 ((80 * x1) + (gA σ 1 x1)) x2) 1 x1 ((gA σ 1 x1) + 1)) 1 x1, sI (sA (sA (sI σ 0 z0) 0 ((80 * x1) + (gA σ 1 x1)) x2) 1 x1 ((gA σ 1 x1) + 1)) 1 0)
            else none
          else none
        else none
      else none
    else none
  else
    some (0, sI σ 0 z0)
set_option maxHeartbeats 4000000 in
set_option maxRecDepth 100000 in
theorem w_b_X5_code_28 {l : Launch} {p : Program} {e : Env} {s : State} {m : MethodId} {args : Array Value} {below : List Frame} {meth : Method} {c : Code} {A : Nat → Prop} {D : va_G} {ty : Nat → ClassId} {q : Nat → Nat} {res : Int32 × St} (X : CallFix p m c cX5_code 3 s args tb RX5) (hlk : meth.locks = false) (hr : meth.sig.returnType = (some .int)) {σ : St} {H : Heap} {locs : List Loc} (hI : Inw D ty FxM (wM ty q σ) A s H locs) (x1 x2 z0 : Int32) (hF : b_X5_code_28 x1 x2 z0 σ = some res) (ls : Array Slot) (hl : lv_has ls 3 [(0, .ref (q 0)), (1, .int x1), (2, .int x2)]) : W p l e rm_X5_code s m args below meth c H locs 0 0 (MQ below (Qiw D ty (wM ty q) A res) args s 0 0 A) (F0 m 28 ls [.int z0, .ref (q 0)]) := by
  unfold b_X5_code_28 at hF
  refine p_X5_code X hI dX5_code_28 (fun H locs hI => ?_)
  refine lv_aload_n X.1 X.2.1 dX5_code_31 rfl (lv_at hl 0 rfl) ?_
  refine g_X5_code (v := z0) X hI rfl dX5_code_32 ?_
  refine lv_if_le (tgt := 40) X.1 X.2.1 dX5_code_35 (by decide) (fun c6 => ?_) (fun c6 => ?_)
  · replace hF := fb_pos c6 hF
    refine lv_aload_n X.1 X.2.1 dX5_code_40 rfl (lv_at hl 0 rfl) ?_
    refine g_X5_disk X hI dX5_code_41 ?_
    refine lv_bipush (v := 80) X.1 X.2.1 dX5_code_44 (by decide) ?_
    refine lv_iload_n X.1 X.2.1 dX5_code_46 rfl (lv_at hl 1 rfl) ?_
    refine lv_imul X.1 X.2.1 dX5_code_47 ?_
    refine lv_aload_n X.1 X.2.1 dX5_code_48 rfl (lv_at hl 0 rfl) ?_
    refine g_X5_length X hI dX5_code_49 ?_
    refine lv_iload_n X.1 X.2.1 dX5_code_52 rfl (lv_at hl 1 rfl) ?_
    obtain ⟨h7, hF⟩ := fb_chk hF
    refine aM_1 (v := gA σ 1 x1) X hI rfl h7 dX5_code_53 ?_
    refine lv_iadd X.1 X.2.1 dX5_code_54 ?_
    refine lv_iload_n X.1 X.2.1 dX5_code_55 rfl (lv_at hl 2 rfl) ?_
    obtain ⟨h8, hF⟩ := fb_chk hF
    refine sM_0 X hI h8 dX5_code_56 (fun H locs hI => ?_)
    refine lv_aload_n X.1 X.2.1 dX5_code_57 rfl (lv_at hl 0 rfl) ?_
    refine g_X5_length X hI dX5_code_58 ?_
    refine lv_iload_n X.1 X.2.1 dX5_code_61 rfl (lv_at hl 1 rfl) ?_
    refine lv_dup2_11 X.1 X.2.1 dX5_code_62 rfl rfl ?_
    obtain ⟨h9, hF⟩ := fb_chk hF
    refine aM_1 (v := gA σ 1 x1) X hI rfl h9 dX5_code_63 ?_
    refine lv_iconst (v := 1) X.1 X.2.1 dX5_code_64 (by decide) ?_
    refine lv_iadd X.1 X.2.1 dX5_code_65 ?_
    obtain ⟨h10, hF⟩ := fb_chk hF
    refine sM_1 X hI h10 dX5_code_66 (fun H locs hI => ?_)
    refine lv_aload_n X.1 X.2.1 dX5_code_67 rfl (lv_at hl 0 rfl) ?_
    refine lv_iconst (v := 0) X.1 X.2.1 dX5_code_68 (by decide) ?_
    refine p_X5_state X hI dX5_code_69 (fun H locs hI => ?_)
    refine lv_aload_n X.1 X.2.1 dX5_code_72 rfl (lv_at hl 0 rfl) ?_
    refine g_X5_length X hI dX5_code_73 ?_
    refine lv_iload_n X.1 X.2.1 dX5_code_76 rfl (lv_at hl 1 rfl) ?_
    obtain ⟨h11, hF⟩ := fb_chk hF
    refine aM_1 (v := gA (sA (sA (sI σ 0 z0) 0 ((80 * x1) + (gA σ 1 x1)) x2) 1 x1 ((gA σ 1 x1) + 1)) 1 x1) X hI rfl h11 dX5_code_77 ?_
    exact rt_i X hlk hr hI hF dX5_code_78
  · replace hF := fb_neg c6 hF
    refine lv_iconst (v := 0) X.1 X.2.1 dX5_code_38 (by decide) ?_
    exact rt_i X hlk hr hI hF dX5_code_39
def f_X5_code (x1 x2 : Int32) (σ : St) : Option (Int32 × St) :=
  (f_X5_isSegment x1 σ).bind fun u1 =>
  if u1 = 0 then
    b_X5_code_28 x1 x2 1 σ
  else
    if inB x1 5 = true then
      if (gA σ 1 x1) = 80 then
        b_X5_code_28 x1 x2 2 σ
      else
        b_X5_code_28 x1 x2 0 σ
    else none
set_option maxHeartbeats 4000000 in
set_option maxRecDepth 100000 in
theorem m_X5_code (l : Launch) (D : va_G) (ty : Nat → ClassId) (q : Nat → Nat) (σ : St) (sz : Nat) (x1 x2 : Int32) {res : Int32 × St} (hF : f_X5_code x1 x2 σ = some res) : Met l yX5_code (wsy yX5_code cX5_code 3 (some .int)) rm_X5_code (Pcw D ty FxM (wM ty q σ) sz [.ref (q 0), .int x1, .int x2]) (Qiw D ty (wM ty q) (va_A (wM ty q σ) sz) res) 0 0 (va_A (wM ty q σ) sz) := by
  refine en_w (Qc := fun A => Qiw D ty (wM ty q) A res) (by decide) (Nat.le_of_ble_eq_true rfl) ?_
  intro p e s m args below meth c A X hlk hr _ H locs hI ls hl
  have X : CallFix p m c cX5_code 3 s args tb RX5 := X
  have hl : lv_has ls 3 [(0, .ref (q 0)), (1, .int x1), (2, .int x2)] := hl
  unfold f_X5_code at hF
  refine lv_aload_n X.1 X.2.1 dX5_code_0 rfl (lv_at hl 0 rfl) ?_
  refine lv_iload_n X.1 X.2.1 dX5_code_1 rfl (lv_at hl 1 rfl) ?_
  obtain ⟨u1, h2, hF⟩ := fb_bnd hF
  refine cs_i (w := wM ty q) (σ := σ) (rest := [.ref (q 0)]) X fxM hI (m_X5_isSegment l D ty q σ _ x1 h2) ok_X5_isSegment ml_X5_48 ⟨rfl, rfl, Nat.le_of_ble_eq_true rfl, Nat.le_of_ble_eq_true rfl⟩ rfl hl.1 rfl (Nat.le_of_ble_eq_true rfl) ⟨Nat.le_of_ble_eq_true rfl, Nat.le_of_ble_eq_true rfl⟩ dX5_code_2 (fun H locs hI => ?_)
  refine lv_if_ne (tgt := 12) X.1 X.2.1 dX5_code_5 (by decide) (fun c3 => ?_) (fun c3 => ?_)
  · replace hF := fb_neg c3 hF
    refine lv_aload_n X.1 X.2.1 dX5_code_12 rfl (lv_at hl 0 rfl) ?_
    refine g_X5_length X hI dX5_code_13 ?_
    refine lv_iload_n X.1 X.2.1 dX5_code_16 rfl (lv_at hl 1 rfl) ?_
    obtain ⟨h4, hF⟩ := fb_chk hF
    refine aM_1 (v := gA σ 1 x1) X hI rfl h4 dX5_code_17 ?_
    refine lv_bipush (v := 80) X.1 X.2.1 dX5_code_18 (by decide) ?_
    refine lv_icmp_ne (tgt := 27) X.1 X.2.1 dX5_code_20 (by decide) (fun c5 => ?_) (fun c5 => ?_)
    · replace hF := fb_neg c5 hF
      refine lv_iconst (v := 0) X.1 X.2.1 dX5_code_27 (by decide) ?_
      exact w_b_X5_code_28 X hlk hr hI x1 x2 0 hF ls (lv_sub hl [0, 1, 2] rfl)
    · replace hF := fb_pos c5 hF
      refine lv_iconst (v := 2) X.1 X.2.1 dX5_code_23 (by decide) ?_
      refine lv_goto (tgt := 28) X.1 X.2.1 dX5_code_24 (by decide) ?_
      exact w_b_X5_code_28 X hlk hr hI x1 x2 2 hF ls (lv_sub hl [0, 1, 2] rfl)
  · replace hF := fb_pos c3 hF
    refine lv_iconst (v := 1) X.1 X.2.1 dX5_code_8 (by decide) ?_
    refine lv_goto (tgt := 28) X.1 X.2.1 dX5_code_9 (by decide) ?_
    exact w_b_X5_code_28 X hlk hr hI x1 x2 1 hF ls (lv_sub hl [0, 1, 2] rfl)
abbrev rm_X5_clear : Room := { frames := 1, cells := 0, slots := 0, locals := 20 }
def f_X5_clear (x1 : Int32) (σ : St) : Option (Int32 × St) :=
  (f_X5_isSegment x1 σ).bind fun u1 =>
  if u1 = 0 then
    some (0, sI σ 0 1)
  else
    if inB x1 5 = true then
      some (0, sI (sA (sI σ 0 0) 1 x1 0) 1 0)
    else none
set_option maxHeartbeats 4000000 in
set_option maxRecDepth 100000 in
theorem m_X5_clear (l : Launch) (D : va_G) (ty : Nat → ClassId) (q : Nat → Nat) (σ : St) (sz : Nat) (x1 : Int32) {res : Int32 × St} (hF : f_X5_clear x1 σ = some res) : Met l yX5_clear (wsy yX5_clear cX5_clear 2 none) rm_X5_clear (Pcw D ty FxM (wM ty q σ) sz [.ref (q 0), .int x1]) (Qvw D ty (wM ty q) (va_A (wM ty q σ) sz) res) 0 0 (va_A (wM ty q σ) sz) := by
  refine en_w (Qc := fun A => Qvw D ty (wM ty q) A res) (by decide) (Nat.le_of_ble_eq_true rfl) ?_
  intro p e s m args below meth c A X hlk hr _ H locs hI ls hl
  have X : CallFix p m c cX5_clear 2 s args tb RX5 := X
  have hl : lv_has ls 2 [(0, .ref (q 0)), (1, .int x1)] := hl
  unfold f_X5_clear at hF
  refine lv_aload_n X.1 X.2.1 dX5_clear_0 rfl (lv_at hl 0 rfl) ?_
  refine lv_iload_n X.1 X.2.1 dX5_clear_1 rfl (lv_at hl 1 rfl) ?_
  obtain ⟨u1, h2, hF⟩ := fb_bnd hF
  refine cs_i (w := wM ty q) (σ := σ) (rest := [.ref (q 0)]) X fxM hI (m_X5_isSegment l D ty q σ _ x1 h2) ok_X5_isSegment ml_X5_48 ⟨rfl, rfl, Nat.le_of_ble_eq_true rfl, Nat.le_of_ble_eq_true rfl⟩ rfl hl.1 rfl (Nat.le_of_ble_eq_true rfl) ⟨Nat.le_of_ble_eq_true rfl, Nat.le_of_ble_eq_true rfl⟩ dX5_clear_2 (fun H locs hI => ?_)
  refine lv_if_eq (tgt := 12) X.1 X.2.1 dX5_clear_5 (by decide) (fun c3 => ?_) (fun c3 => ?_)
  · replace hF := fb_pos c3 hF
    refine lv_iconst (v := 1) X.1 X.2.1 dX5_clear_12 (by decide) ?_
    refine p_X5_code X hI dX5_clear_13 (fun H locs hI => ?_)
    refine lv_aload_n X.1 X.2.1 dX5_clear_16 rfl (lv_at hl 0 rfl) ?_
    refine g_X5_code (v := 1) X hI rfl dX5_clear_17 ?_
    refine lv_if_le (tgt := 24) X.1 X.2.1 dX5_clear_20 (by decide) (fun c => absurd c (by decide)) (fun _ => ?_)
    exact rt_v X hlk hr hI hF dX5_clear_23
  · replace hF := fb_neg c3 hF
    refine lv_iconst (v := 0) X.1 X.2.1 dX5_clear_8 (by decide) ?_
    refine lv_goto (tgt := 13) X.1 X.2.1 dX5_clear_9 (by decide) ?_
    refine p_X5_code X hI dX5_clear_13 (fun H locs hI => ?_)
    refine lv_aload_n X.1 X.2.1 dX5_clear_16 rfl (lv_at hl 0 rfl) ?_
    refine g_X5_code (v := 0) X hI rfl dX5_clear_17 ?_
    refine lv_if_le (tgt := 24) X.1 X.2.1 dX5_clear_20 (by decide) (fun _ => ?_) (fun c => absurd (by decide) c)
    refine lv_aload_n X.1 X.2.1 dX5_clear_24 rfl (lv_at hl 0 rfl) ?_
    refine g_X5_length X hI dX5_clear_25 ?_
    refine lv_iload_n X.1 X.2.1 dX5_clear_28 rfl (lv_at hl 1 rfl) ?_
    refine lv_iconst (v := 0) X.1 X.2.1 dX5_clear_29 (by decide) ?_
    obtain ⟨h4, hF⟩ := fb_chk hF
    refine sM_1 X hI h4 dX5_clear_30 (fun H locs hI => ?_)
    refine lv_aload_n X.1 X.2.1 dX5_clear_31 rfl (lv_at hl 0 rfl) ?_
    refine lv_iconst (v := 0) X.1 X.2.1 dX5_clear_32 (by decide) ?_
    refine p_X5_state X hI dX5_clear_33 (fun H locs hI => ?_)
    exact rt_v X hlk hr hI hF dX5_clear_36
abbrev rm_X5_procedures : Room := { frames := 1, cells := 0, slots := 0, locals := 20 }
def b_X5_procedures_57 : Nat → Int32 → Int32 → Int32 → Int32 → St → Option Int32
  | 0, _, _, _, _, _ => none
  | n + 1, x1, x2, x3, x4, σ =>
    if x2 < x4 then
      if x3 = 0 then
        some 0
      else
        some x2
    else
      if x3 = 0 then
        if x3 = 0 then
          some 0
        else
          some x2
      else
        if inB ((80 * x1) + x4) 400 = true then
          if ((gA σ 0 ((80 * x1) + x4)) &&& 255) ≤ x2 then
            b_X5_procedures_57 n x1 x2 0 (x4 + 1) σ
          else
            if inB x1 5 = true then
              if (gA σ 1 x1) ≤ ((gA σ 0 ((80 * x1) + x4)) &&& 255) then
                b_X5_procedures_57 n x1 x2 0 (x4 + 1) σ
              else
                b_X5_procedures_57 n x1 x2 1 (x4 + 1) σ
            else none
        else none
set_option maxHeartbeats 4000000 in
set_option maxRecDepth 100000 in
theorem w_b_X5_procedures_57 {l : Launch} {p : Program} {e : Env} {s : State} {m : MethodId} {args : Array Value} {below : List Frame} {meth : Method} {c : Code} {A : Nat → Prop} {D : va_G} {ty : Nat → ClassId} {q : Nat → Nat} {rr : Int32} (X : CallFix p m c cX5_procedures 6 s args tb RX5) (hlk : meth.locks = false) (hr : meth.sig.returnType = (some .int)) : ∀ (n : Nat) (x1 x2 x3 x4 : Int32) (σ : St) (H : Heap) (locs : List Loc) (ls : Array Slot), b_X5_procedures_57 n x1 x2 x3 x4 σ = some rr → Inw D ty FxM (wM ty q σ) A s H locs → lv_has ls 6 [(0, .ref (q 0)), (1, .int x1), (2, .int x2), (3, .int x3), (4, .int x4)] → W p l e rm_X5_procedures s m args below meth c H locs 0 0 (MQ below (Qiw D ty (wM ty q) A (rr, σ)) args s 0 0 A) (F0 m 57 ls []) := by
  intro n
  induction n with
  | zero =>
    intro x1 x2 x3 x4 σ H locs ls hF
    cases hF
  | succ n ih =>
    intro x1 x2 x3 x4 σ H locs ls hF hI hl
    rw [b_X5_procedures_57] at hF
    refine lv_iload X.1 X.2.1 dX5_procedures_57 (lv_at hl 4 rfl) ?_
    refine lv_iload_n X.1 X.2.1 dX5_procedures_59 rfl (lv_at hl 2 rfl) ?_
    refine lv_icmp_gt (tgt := 114) X.1 X.2.1 dX5_procedures_60 (by decide) (fun c8 => ?_) (fun c8 => ?_)
    · replace hF := fb_pos c8 hF
      refine lv_iload_n X.1 X.2.1 dX5_procedures_114 rfl (lv_at hl 3 rfl) ?_
      refine lv_if_eq (tgt := 122) X.1 X.2.1 dX5_procedures_115 (by decide) (fun c9 => ?_) (fun c9 => ?_)
      · replace hF := fb_pos c9 hF
        refine lv_iconst (v := 0) X.1 X.2.1 dX5_procedures_122 (by decide) ?_
        exact rt_i X hlk hr hI (fb_pr hF) dX5_procedures_123
      · replace hF := fb_neg c9 hF
        refine lv_iload_n X.1 X.2.1 dX5_procedures_118 rfl (lv_at hl 2 rfl) ?_
        refine lv_goto (tgt := 123) X.1 X.2.1 dX5_procedures_119 (by decide) ?_
        exact rt_i X hlk hr hI (fb_pr hF) dX5_procedures_123
    · replace hF := fb_neg c8 hF
      refine lv_iload_n X.1 X.2.1 dX5_procedures_63 rfl (lv_at hl 3 rfl) ?_
      refine lv_if_eq (tgt := 114) X.1 X.2.1 dX5_procedures_64 (by decide) (fun c10 => ?_) (fun c10 => ?_)
      · replace hF := fb_pos c10 hF
        refine lv_iload_n X.1 X.2.1 dX5_procedures_114 rfl (lv_at hl 3 rfl) ?_
        refine lv_if_eq (tgt := 122) X.1 X.2.1 dX5_procedures_115 (by decide) (fun c11 => ?_) (fun c11 => ?_)
        · replace hF := fb_pos c11 hF
          refine lv_iconst (v := 0) X.1 X.2.1 dX5_procedures_122 (by decide) ?_
          exact rt_i X hlk hr hI (fb_pr hF) dX5_procedures_123
        · replace hF := fb_neg c11 hF
          refine lv_iload_n X.1 X.2.1 dX5_procedures_118 rfl (lv_at hl 2 rfl) ?_
          refine lv_goto (tgt := 123) X.1 X.2.1 dX5_procedures_119 (by decide) ?_
          exact rt_i X hlk hr hI (fb_pr hF) dX5_procedures_123
      · replace hF := fb_neg c10 hF
        refine lv_aload_n X.1 X.2.1 dX5_procedures_67 rfl (lv_at hl 0 rfl) ?_
        refine g_X5_disk X hI dX5_procedures_68 ?_
        refine lv_bipush (v := 80) X.1 X.2.1 dX5_procedures_71 (by decide) ?_
        refine lv_iload_n X.1 X.2.1 dX5_procedures_73 rfl (lv_at hl 1 rfl) ?_
        refine lv_imul X.1 X.2.1 dX5_procedures_74 ?_
        refine lv_iload X.1 X.2.1 dX5_procedures_75 (lv_at hl 4 rfl) ?_
        refine lv_iadd X.1 X.2.1 dX5_procedures_77 ?_
        obtain ⟨h12, hF⟩ := fb_chk hF
        refine aM_0 (v := gA σ 0 ((80 * x1) + x4)) X hI rfl h12 dX5_procedures_78 ?_
        refine lv_sipush (v := 255) X.1 X.2.1 dX5_procedures_79 (by decide) ?_
        refine lv_iand X.1 X.2.1 dX5_procedures_82 ?_
        refine lv_istore (lv' := [(5, .int ((gA σ 0 ((80 * x1) + x4)) &&& 255)), (0, .ref (q 0)), (1, .int x1), (2, .int x2), (3, .int x3), (4, .int x4)]) X.1 X.2.1 dX5_procedures_83 hl (by decide) rfl (fun ls hl => ?_)
        refine lv_iload X.1 X.2.1 dX5_procedures_85 (lv_at hl 0 rfl) ?_
        refine lv_iload_n X.1 X.2.1 dX5_procedures_87 rfl (lv_at hl 3 rfl) ?_
        refine lv_icmp_le (tgt := 106) X.1 X.2.1 dX5_procedures_88 (by decide) (fun c13 => ?_) (fun c13 => ?_)
        · replace hF := fb_pos c13 hF
          refine lv_iconst (v := 0) X.1 X.2.1 dX5_procedures_106 (by decide) ?_
          refine lv_istore_n (lv' := [(3, .int 0), (5, .int ((gA σ 0 ((80 * x1) + x4)) &&& 255)), (0, .ref (q 0)), (1, .int x1), (2, .int x2), (4, .int x4)]) X.1 X.2.1 dX5_procedures_107 rfl hl (by decide) rfl (fun ls hl => ?_)
          refine lv_iinc (v := x4 + 1) (lv' := [(4, .int (x4 + 1)), (3, .int 0), (5, .int ((gA σ 0 ((80 * x1) + x4)) &&& 255)), (0, .ref (q 0)), (1, .int x1), (2, .int x2)]) X.1 X.2.1 dX5_procedures_108 hl (k := 5) rfl rfl (by decide) rfl (fun ls hl => ?_)
          refine lv_goto (tgt := 57) X.1 X.2.1 dX5_procedures_111 (by decide) ?_
          exact ih x1 x2 0 (x4 + 1) _ _ _ ls hF hI (lv_sub hl [3, 4, 5, 1, 0] rfl)
        · replace hF := fb_neg c13 hF
          refine lv_iload X.1 X.2.1 dX5_procedures_91 (lv_at hl 0 rfl) ?_
          refine lv_aload_n X.1 X.2.1 dX5_procedures_93 rfl (lv_at hl 1 rfl) ?_
          refine g_X5_length X hI dX5_procedures_94 ?_
          refine lv_iload_n X.1 X.2.1 dX5_procedures_97 rfl (lv_at hl 2 rfl) ?_
          obtain ⟨h14, hF⟩ := fb_chk hF
          refine aM_1 (v := gA σ 1 x1) X hI rfl h14 dX5_procedures_98 ?_
          refine lv_icmp_ge (tgt := 106) X.1 X.2.1 dX5_procedures_99 (by decide) (fun c15 => ?_) (fun c15 => ?_)
          · replace hF := fb_pos c15 hF
            refine lv_iconst (v := 0) X.1 X.2.1 dX5_procedures_106 (by decide) ?_
            refine lv_istore_n (lv' := [(3, .int 0), (5, .int ((gA σ 0 ((80 * x1) + x4)) &&& 255)), (0, .ref (q 0)), (1, .int x1), (2, .int x2), (4, .int x4)]) X.1 X.2.1 dX5_procedures_107 rfl hl (by decide) rfl (fun ls hl => ?_)
            refine lv_iinc (v := x4 + 1) (lv' := [(4, .int (x4 + 1)), (3, .int 0), (5, .int ((gA σ 0 ((80 * x1) + x4)) &&& 255)), (0, .ref (q 0)), (1, .int x1), (2, .int x2)]) X.1 X.2.1 dX5_procedures_108 hl (k := 5) rfl rfl (by decide) rfl (fun ls hl => ?_)
            refine lv_goto (tgt := 57) X.1 X.2.1 dX5_procedures_111 (by decide) ?_
            exact ih x1 x2 0 (x4 + 1) _ _ _ ls hF hI (lv_sub hl [3, 4, 5, 1, 0] rfl)
          · replace hF := fb_neg c15 hF
            refine lv_iconst (v := 1) X.1 X.2.1 dX5_procedures_102 (by decide) ?_
            refine lv_goto (tgt := 107) X.1 X.2.1 dX5_procedures_103 (by decide) ?_
            refine lv_istore_n (lv' := [(3, .int 1), (5, .int ((gA σ 0 ((80 * x1) + x4)) &&& 255)), (0, .ref (q 0)), (1, .int x1), (2, .int x2), (4, .int x4)]) X.1 X.2.1 dX5_procedures_107 rfl hl (by decide) rfl (fun ls hl => ?_)
            refine lv_iinc (v := x4 + 1) (lv' := [(4, .int (x4 + 1)), (3, .int 1), (5, .int ((gA σ 0 ((80 * x1) + x4)) &&& 255)), (0, .ref (q 0)), (1, .int x1), (2, .int x2)]) X.1 X.2.1 dX5_procedures_108 hl (k := 5) rfl rfl (by decide) rfl (fun ls hl => ?_)
            refine lv_goto (tgt := 57) X.1 X.2.1 dX5_procedures_111 (by decide) ?_
            exact ih x1 x2 1 (x4 + 1) _ _ _ ls hF hI (lv_sub hl [3, 4, 5, 1, 0] rfl)
def b_X5_procedures_53 (x1 x2 z0 : Int32) (σ : St) : Option Int32 :=
  b_X5_procedures_57 6 x1 x2 z0 1 σ
set_option maxHeartbeats 4000000 in
set_option maxRecDepth 100000 in
theorem w_b_X5_procedures_53 {l : Launch} {p : Program} {e : Env} {s : State} {m : MethodId} {args : Array Value} {below : List Frame} {meth : Method} {c : Code} {A : Nat → Prop} {D : va_G} {ty : Nat → ClassId} {q : Nat → Nat} {rr : Int32} (X : CallFix p m c cX5_procedures 6 s args tb RX5) (hlk : meth.locks = false) (hr : meth.sig.returnType = (some .int)) {σ : St} {H : Heap} {locs : List Loc} (hI : Inw D ty FxM (wM ty q σ) A s H locs) (x1 x2 z0 : Int32) (hF : b_X5_procedures_53 x1 x2 z0 σ = some rr) (ls : Array Slot) (hl : lv_has ls 6 [(0, .ref (q 0)), (1, .int x1), (2, .int x2)]) : W p l e rm_X5_procedures s m args below meth c H locs 0 0 (MQ below (Qiw D ty (wM ty q) A (rr, σ)) args s 0 0 A) (F0 m 53 ls [.int z0]) := by
  unfold b_X5_procedures_53 at hF
  refine lv_istore_n (lv' := [(3, .int z0), (0, .ref (q 0)), (1, .int x1), (2, .int x2)]) X.1 X.2.1 dX5_procedures_53 rfl hl (by decide) rfl (fun ls hl => ?_)
  refine lv_iconst (v := 1) X.1 X.2.1 dX5_procedures_54 (by decide) ?_
  refine lv_istore (lv' := [(4, .int 1), (3, .int z0), (0, .ref (q 0)), (1, .int x1), (2, .int x2)]) X.1 X.2.1 dX5_procedures_55 hl (by decide) rfl (fun ls hl => ?_)
  exact w_b_X5_procedures_57 X hlk hr 6 x1 x2 z0 1 _ _ _ ls hF hI (lv_sub hl [2, 3, 4, 1, 0] rfl)
def b_X5_procedures_52 (x1 x2 : Int32) (σ : St) : Option Int32 :=
  b_X5_procedures_53 x1 x2 0 σ
set_option maxHeartbeats 4000000 in
set_option maxRecDepth 100000 in
theorem w_b_X5_procedures_52 {l : Launch} {p : Program} {e : Env} {s : State} {m : MethodId} {args : Array Value} {below : List Frame} {meth : Method} {c : Code} {A : Nat → Prop} {D : va_G} {ty : Nat → ClassId} {q : Nat → Nat} {rr : Int32} (X : CallFix p m c cX5_procedures 6 s args tb RX5) (hlk : meth.locks = false) (hr : meth.sig.returnType = (some .int)) {σ : St} {H : Heap} {locs : List Loc} (hI : Inw D ty FxM (wM ty q σ) A s H locs) (x1 x2 : Int32) (hF : b_X5_procedures_52 x1 x2 σ = some rr) (ls : Array Slot) (hl : lv_has ls 6 [(0, .ref (q 0)), (1, .int x1), (2, .int x2)]) : W p l e rm_X5_procedures s m args below meth c H locs 0 0 (MQ below (Qiw D ty (wM ty q) A (rr, σ)) args s 0 0 A) (F0 m 52 ls []) := by
  unfold b_X5_procedures_52 at hF
  refine lv_iconst (v := 0) X.1 X.2.1 dX5_procedures_52 (by decide) ?_
  exact w_b_X5_procedures_53 X hlk hr hI x1 x2 0 hF ls (lv_sub hl [0, 1, 2] rfl)
def f_X5_procedures (x1 : Int32) (σ : St) : Option Int32 :=
  (f_X5_isSegment x1 σ).bind fun u1 =>
  if u1 = 0 then
    some 0
  else
    if inB x1 5 = true then
      if (gA σ 1 x1) = 0 then
        some 0
      else
        if inB (80 * x1) 400 = true then
          if (gA σ 0 (80 * x1)) < 1 then
            b_X5_procedures_52 x1 (gA σ 0 (80 * x1)) σ
          else
            if 4 < (gA σ 0 (80 * x1)) then
              b_X5_procedures_52 x1 (gA σ 0 (80 * x1)) σ
            else
              if inB x1 5 = true then
                if (gA σ 1 x1) ≤ (gA σ 0 (80 * x1)) then
                  b_X5_procedures_52 x1 (gA σ 0 (80 * x1)) σ
                else
                  b_X5_procedures_53 x1 (gA σ 0 (80 * x1)) 1 σ
              else none
        else none
    else none
set_option maxHeartbeats 4000000 in
set_option maxRecDepth 100000 in
theorem m_X5_procedures (l : Launch) (D : va_G) (ty : Nat → ClassId) (q : Nat → Nat) (σ : St) (sz : Nat) (x1 : Int32) {rr : Int32} (hF : f_X5_procedures x1 σ = some rr) : Met l yX5_procedures (wsy yX5_procedures cX5_procedures 6 (some .int)) rm_X5_procedures (Pcw D ty FxM (wM ty q σ) sz [.ref (q 0), .int x1]) (Qiw D ty (wM ty q) (va_A (wM ty q σ) sz) (rr, σ)) 0 0 (va_A (wM ty q σ) sz) := by
  refine en_w (Qc := fun A => Qiw D ty (wM ty q) A (rr, σ)) (by decide) (Nat.le_of_ble_eq_true rfl) ?_
  intro p e s m args below meth c A X hlk hr _ H locs hI ls hl
  have X : CallFix p m c cX5_procedures 6 s args tb RX5 := X
  have hl : lv_has ls 6 [(0, .ref (q 0)), (1, .int x1)] := hl
  unfold f_X5_procedures at hF
  refine lv_iload_n X.1 X.2.1 dX5_procedures_0 rfl (lv_at hl 1 rfl) ?_
  obtain ⟨u1, h2, hF⟩ := fb_bnd hF
  refine cs_i (w := wM ty q) (σ := σ) (rest := []) X fxM hI (m_X5_isSegment l D ty q σ _ x1 h2) ok_X5_isSegment ml_X5_48 ⟨rfl, rfl, Nat.le_of_ble_eq_true rfl, Nat.le_of_ble_eq_true rfl⟩ rfl hl.1 rfl (Nat.le_of_ble_eq_true rfl) ⟨Nat.le_of_ble_eq_true rfl, Nat.le_of_ble_eq_true rfl⟩ dX5_procedures_1 (fun H locs hI => ?_)
  refine lv_if_eq (tgt := 16) X.1 X.2.1 dX5_procedures_4 (by decide) (fun c3 => ?_) (fun c3 => ?_)
  · replace hF := fb_pos c3 hF
    refine lv_iconst (v := 0) X.1 X.2.1 dX5_procedures_16 (by decide) ?_
    exact rt_i X hlk hr hI (fb_pr hF) dX5_procedures_17
  · replace hF := fb_neg c3 hF
    refine lv_aload_n X.1 X.2.1 dX5_procedures_7 rfl (lv_at hl 0 rfl) ?_
    refine g_X5_length X hI dX5_procedures_8 ?_
    refine lv_iload_n X.1 X.2.1 dX5_procedures_11 rfl (lv_at hl 1 rfl) ?_
    obtain ⟨h4, hF⟩ := fb_chk hF
    refine aM_1 (v := gA σ 1 x1) X hI rfl h4 dX5_procedures_12 ?_
    refine lv_if_ne (tgt := 18) X.1 X.2.1 dX5_procedures_13 (by decide) (fun c5 => ?_) (fun c5 => ?_)
    · replace hF := fb_neg c5 hF
      refine lv_aload_n X.1 X.2.1 dX5_procedures_18 rfl (lv_at hl 0 rfl) ?_
      refine g_X5_disk X hI dX5_procedures_19 ?_
      refine lv_bipush (v := 80) X.1 X.2.1 dX5_procedures_22 (by decide) ?_
      refine lv_iload_n X.1 X.2.1 dX5_procedures_24 rfl (lv_at hl 1 rfl) ?_
      refine lv_imul X.1 X.2.1 dX5_procedures_25 ?_
      obtain ⟨h6, hF⟩ := fb_chk hF
      refine aM_0 (v := gA σ 0 (80 * x1)) X hI rfl h6 dX5_procedures_26 ?_
      refine lv_istore_n (lv' := [(2, .int (gA σ 0 (80 * x1))), (0, .ref (q 0)), (1, .int x1)]) X.1 X.2.1 dX5_procedures_27 rfl hl (by decide) rfl (fun ls hl => ?_)
      refine lv_iload_n X.1 X.2.1 dX5_procedures_28 rfl (lv_at hl 0 rfl) ?_
      refine lv_iconst (v := 1) X.1 X.2.1 dX5_procedures_29 (by decide) ?_
      refine lv_icmp_lt (tgt := 52) X.1 X.2.1 dX5_procedures_30 (by decide) (fun c7 => ?_) (fun c7 => ?_)
      · replace hF := fb_pos c7 hF
        exact w_b_X5_procedures_52 X hlk hr hI x1 (gA σ 0 (80 * x1)) hF ls (lv_sub hl [1, 2, 0] rfl)
      · replace hF := fb_neg c7 hF
        refine lv_iload_n X.1 X.2.1 dX5_procedures_33 rfl (lv_at hl 0 rfl) ?_
        refine lv_iconst (v := 4) X.1 X.2.1 dX5_procedures_34 (by decide) ?_
        refine lv_icmp_gt (tgt := 52) X.1 X.2.1 dX5_procedures_35 (by decide) (fun c16 => ?_) (fun c16 => ?_)
        · replace hF := fb_pos c16 hF
          exact w_b_X5_procedures_52 X hlk hr hI x1 (gA σ 0 (80 * x1)) hF ls (lv_sub hl [1, 2, 0] rfl)
        · replace hF := fb_neg c16 hF
          refine lv_iload_n X.1 X.2.1 dX5_procedures_38 rfl (lv_at hl 0 rfl) ?_
          refine lv_aload_n X.1 X.2.1 dX5_procedures_39 rfl (lv_at hl 1 rfl) ?_
          refine g_X5_length X hI dX5_procedures_40 ?_
          refine lv_iload_n X.1 X.2.1 dX5_procedures_43 rfl (lv_at hl 2 rfl) ?_
          obtain ⟨h17, hF⟩ := fb_chk hF
          refine aM_1 (v := gA σ 1 x1) X hI rfl h17 dX5_procedures_44 ?_
          refine lv_icmp_ge (tgt := 52) X.1 X.2.1 dX5_procedures_45 (by decide) (fun c18 => ?_) (fun c18 => ?_)
          · replace hF := fb_pos c18 hF
            exact w_b_X5_procedures_52 X hlk hr hI x1 (gA σ 0 (80 * x1)) hF ls (lv_sub hl [1, 2, 0] rfl)
          · replace hF := fb_neg c18 hF
            refine lv_iconst (v := 1) X.1 X.2.1 dX5_procedures_48 (by decide) ?_
            refine lv_goto (tgt := 53) X.1 X.2.1 dX5_procedures_49 (by decide) ?_
            exact w_b_X5_procedures_53 X hlk hr hI x1 (gA σ 0 (80 * x1)) 1 hF ls (lv_sub hl [1, 2, 0] rfl)
    · replace hF := fb_pos c5 hF
      refine lv_iconst (v := 0) X.1 X.2.1 dX5_procedures_16 (by decide) ?_
      exact rt_i X hlk hr hI (fb_pr hF) dX5_procedures_17
abbrev rm_X5_good : Room := { frames := 2, cells := 0, slots := 0, locals := 45 }
def b_X5_good_13 (x1 z0 : Int32) (σ : St) : Option (Int32 × St) :=
  if z0 ≤ 0 then
    (f_X5_procedures x1 (sI σ 0 z0)).bind fun u5 =>
    some (u5, sI σ 0 z0)
  else
    some (0, sI σ 0 z0)
set_option maxHeartbeats 4000000 in
set_option maxRecDepth 100000 in
theorem w_b_X5_good_13 {l : Launch} {p : Program} {e : Env} {s : State} {m : MethodId} {args : Array Value} {below : List Frame} {meth : Method} {c : Code} {A : Nat → Prop} {D : va_G} {ty : Nat → ClassId} {q : Nat → Nat} {res : Int32 × St} (X : CallFix p m c cX5_good 2 s args tb RX5) (hlk : meth.locks = false) (hr : meth.sig.returnType = (some .int)) {σ : St} {H : Heap} {locs : List Loc} (hI : Inw D ty FxM (wM ty q σ) A s H locs) (x1 z0 : Int32) (hF : b_X5_good_13 x1 z0 σ = some res) (ls : Array Slot) (hl : lv_has ls 2 [(0, .ref (q 0)), (1, .int x1)]) : W p l e rm_X5_good s m args below meth c H locs 0 0 (MQ below (Qiw D ty (wM ty q) A res) args s 0 0 A) (F0 m 13 ls [.int z0, .ref (q 0)]) := by
  unfold b_X5_good_13 at hF
  refine p_X5_code X hI dX5_good_13 (fun H locs hI => ?_)
  refine lv_aload_n X.1 X.2.1 dX5_good_16 rfl (lv_at hl 0 rfl) ?_
  refine g_X5_code (v := z0) X hI rfl dX5_good_17 ?_
  refine lv_if_le (tgt := 27) X.1 X.2.1 dX5_good_20 (by decide) (fun c4 => ?_) (fun c4 => ?_)
  · replace hF := fb_pos c4 hF
    refine lv_aload_n X.1 X.2.1 dX5_good_27 rfl (lv_at hl 0 rfl) ?_
    refine lv_iload_n X.1 X.2.1 dX5_good_28 rfl (lv_at hl 1 rfl) ?_
    obtain ⟨u5, h6, hF⟩ := fb_bnd hF
    refine cl_i (w := wM ty q) (σ := sI σ 0 z0) (rest := []) X fxM hI (m_X5_procedures l D ty q (sI σ 0 z0) _ x1 h6) ok_X5_procedures ml_X5_55 ⟨rfl, rfl, Nat.le_of_ble_eq_true rfl, Nat.le_of_ble_eq_true rfl⟩ 0 rc_X5 rfl rfl hl.1 rfl (Nat.le_of_ble_eq_true rfl) ⟨Nat.le_of_ble_eq_true rfl, Nat.le_of_ble_eq_true rfl⟩ dX5_good_29 (fun H locs hI => ?_)
    exact rt_i X hlk hr hI hF dX5_good_32
  · replace hF := fb_neg c4 hF
    refine lv_iconst (v := 0) X.1 X.2.1 dX5_good_23 (by decide) ?_
    refine lv_goto (tgt := 32) X.1 X.2.1 dX5_good_24 (by decide) ?_
    exact rt_i X hlk hr hI hF dX5_good_32
def f_X5_good (x1 : Int32) (σ : St) : Option (Int32 × St) :=
  (f_X5_isSegment x1 σ).bind fun u1 =>
  if u1 = 0 then
    b_X5_good_13 x1 1 σ
  else
    b_X5_good_13 x1 0 σ
set_option maxHeartbeats 4000000 in
set_option maxRecDepth 100000 in
theorem m_X5_good (l : Launch) (D : va_G) (ty : Nat → ClassId) (q : Nat → Nat) (σ : St) (sz : Nat) (x1 : Int32) {res : Int32 × St} (hF : f_X5_good x1 σ = some res) : Met l yX5_good (wsy yX5_good cX5_good 2 (some .int)) rm_X5_good (Pcw D ty FxM (wM ty q σ) sz [.ref (q 0), .int x1]) (Qiw D ty (wM ty q) (va_A (wM ty q σ) sz) res) 0 0 (va_A (wM ty q σ) sz) := by
  refine en_w (Qc := fun A => Qiw D ty (wM ty q) A res) (by decide) (Nat.le_of_ble_eq_true rfl) ?_
  intro p e s m args below meth c A X hlk hr _ H locs hI ls hl
  have X : CallFix p m c cX5_good 2 s args tb RX5 := X
  have hl : lv_has ls 2 [(0, .ref (q 0)), (1, .int x1)] := hl
  unfold f_X5_good at hF
  refine lv_aload_n X.1 X.2.1 dX5_good_0 rfl (lv_at hl 0 rfl) ?_
  refine lv_iload_n X.1 X.2.1 dX5_good_1 rfl (lv_at hl 1 rfl) ?_
  obtain ⟨u1, h2, hF⟩ := fb_bnd hF
  refine cs_i (w := wM ty q) (σ := σ) (rest := [.ref (q 0)]) X fxM hI (m_X5_isSegment l D ty q σ _ x1 h2) ok_X5_isSegment ml_X5_48 ⟨rfl, rfl, Nat.le_of_ble_eq_true rfl, Nat.le_of_ble_eq_true rfl⟩ rfl hl.1 rfl (Nat.le_of_ble_eq_true rfl) ⟨Nat.le_of_ble_eq_true rfl, Nat.le_of_ble_eq_true rfl⟩ dX5_good_2 (fun H locs hI => ?_)
  refine lv_if_eq (tgt := 12) X.1 X.2.1 dX5_good_5 (by decide) (fun c3 => ?_) (fun c3 => ?_)
  · replace hF := fb_pos c3 hF
    refine lv_iconst (v := 1) X.1 X.2.1 dX5_good_12 (by decide) ?_
    exact w_b_X5_good_13 X hlk hr hI x1 1 hF ls (lv_sub hl [0, 1] rfl)
  · replace hF := fb_neg c3 hF
    refine lv_iconst (v := 0) X.1 X.2.1 dX5_good_8 (by decide) ?_
    refine lv_goto (tgt := 13) X.1 X.2.1 dX5_good_9 (by decide) ?_
    exact w_b_X5_good_13 X hlk hr hI x1 0 hF ls (lv_sub hl [0, 1] rfl)
abbrev rm_X5_held : Room := { frames := 0, cells := 0, slots := 0, locals := 0 }
def b_X5_held_39 : Nat → Int32 → Int32 → St → Option Int32
  | 0, _, _, _ => none
  | n + 1, x1, x2, σ =>
    if 5 ≤ x2 then
      some x1
    else
      if inB x2 5 = true then
        if (gA σ 2 x2) = 0 then
          b_X5_held_39 n (x1 + 0) (x2 + 1) σ
        else
          if inB x2 5 = true then
            b_X5_held_39 n (x1 + (gA σ 1 x2)) (x2 + 1) σ
          else none
      else none
set_option maxHeartbeats 4000000 in
set_option maxRecDepth 100000 in
theorem w_b_X5_held_39 {l : Launch} {p : Program} {e : Env} {s : State} {m : MethodId} {args : Array Value} {below : List Frame} {meth : Method} {c : Code} {A : Nat → Prop} {D : va_G} {ty : Nat → ClassId} {q : Nat → Nat} {rr : Int32} (X : CallFix p m c cX5_held 3 s args tb RX5) (hlk : meth.locks = false) (hr : meth.sig.returnType = (some .int)) : ∀ (n : Nat) (x1 x2 : Int32) (σ : St) (H : Heap) (locs : List Loc) (ls : Array Slot), b_X5_held_39 n x1 x2 σ = some rr → Inw D ty FxM (wM ty q σ) A s H locs → lv_has ls 3 [(0, .ref (q 0)), (1, .int x1), (2, .int x2)] → W p l e rm_X5_held s m args below meth c H locs 0 0 (MQ below (Qiw D ty (wM ty q) A (rr, σ)) args s 0 0 A) (F0 m 39 ls []) := by
  intro n
  induction n with
  | zero =>
    intro x1 x2 σ H locs ls hF
    cases hF
  | succ n ih =>
    intro x1 x2 σ H locs ls hF hI hl
    rw [b_X5_held_39] at hF
    refine lv_iload_n X.1 X.2.1 dX5_held_39 rfl (lv_at hl 2 rfl) ?_
    refine lv_iconst (v := 5) X.1 X.2.1 dX5_held_40 (by decide) ?_
    refine lv_icmp_ge (tgt := 72) X.1 X.2.1 dX5_held_41 (by decide) (fun c2 => ?_) (fun c2 => ?_)
    · replace hF := fb_pos c2 hF
      refine lv_iload_n X.1 X.2.1 dX5_held_72 rfl (lv_at hl 1 rfl) ?_
      exact rt_i X hlk hr hI (fb_pr hF) dX5_held_73
    · replace hF := fb_neg c2 hF
      refine lv_iload_n X.1 X.2.1 dX5_held_44 rfl (lv_at hl 1 rfl) ?_
      refine lv_aload_n X.1 X.2.1 dX5_held_45 rfl (lv_at hl 0 rfl) ?_
      refine g_X5_resident X hI dX5_held_46 ?_
      refine lv_iload_n X.1 X.2.1 dX5_held_49 rfl (lv_at hl 2 rfl) ?_
      obtain ⟨h3, hF⟩ := fb_chk hF
      refine aM_2 (v := gA σ 2 x2) X hI rfl h3 dX5_held_50 ?_
      refine lv_if_eq (tgt := 63) X.1 X.2.1 dX5_held_51 (by decide) (fun c4 => ?_) (fun c4 => ?_)
      · replace hF := fb_pos c4 hF
        refine lv_iconst (v := 0) X.1 X.2.1 dX5_held_63 (by decide) ?_
        refine lv_iadd X.1 X.2.1 dX5_held_64 ?_
        refine lv_istore_n (lv' := [(1, .int (x1 + 0)), (0, .ref (q 0)), (2, .int x2)]) X.1 X.2.1 dX5_held_65 rfl hl (by decide) rfl (fun ls hl => ?_)
        refine lv_iinc (v := x2 + 1) (lv' := [(2, .int (x2 + 1)), (1, .int (x1 + 0)), (0, .ref (q 0))]) X.1 X.2.1 dX5_held_66 hl (k := 2) rfl rfl (by decide) rfl (fun ls hl => ?_)
        refine lv_goto (tgt := 39) X.1 X.2.1 dX5_held_69 (by decide) ?_
        exact ih (x1 + 0) (x2 + 1) _ _ _ ls hF hI (lv_sub hl [2, 1, 0] rfl)
      · replace hF := fb_neg c4 hF
        refine lv_aload_n X.1 X.2.1 dX5_held_54 rfl (lv_at hl 0 rfl) ?_
        refine g_X5_length X hI dX5_held_55 ?_
        refine lv_iload_n X.1 X.2.1 dX5_held_58 rfl (lv_at hl 2 rfl) ?_
        obtain ⟨h5, hF⟩ := fb_chk hF
        refine aM_1 (v := gA σ 1 x2) X hI rfl h5 dX5_held_59 ?_
        refine lv_goto (tgt := 64) X.1 X.2.1 dX5_held_60 (by decide) ?_
        refine lv_iadd X.1 X.2.1 dX5_held_64 ?_
        refine lv_istore_n (lv' := [(1, .int (x1 + (gA σ 1 x2))), (0, .ref (q 0)), (2, .int x2)]) X.1 X.2.1 dX5_held_65 rfl hl (by decide) rfl (fun ls hl => ?_)
        refine lv_iinc (v := x2 + 1) (lv' := [(2, .int (x2 + 1)), (1, .int (x1 + (gA σ 1 x2))), (0, .ref (q 0))]) X.1 X.2.1 dX5_held_66 hl (k := 2) rfl rfl (by decide) rfl (fun ls hl => ?_)
        refine lv_goto (tgt := 39) X.1 X.2.1 dX5_held_69 (by decide) ?_
        exact ih (x1 + (gA σ 1 x2)) (x2 + 1) _ _ _ ls hF hI (lv_sub hl [2, 1, 0] rfl)
def b_X5_held_9 : Nat → Int32 → Int32 → St → Option Int32
  | 0, _, _, _ => none
  | n + 1, x1, x2, σ =>
    if (gI σ 7) ≤ x2 then
      b_X5_held_39 600 x1 0 σ
    else
      if inB x2 520 = true then
        b_X5_held_9 n (x1 + (8 + (4 * (gA σ 6 x2)))) (x2 + 1) σ
      else none
set_option maxHeartbeats 4000000 in
set_option maxRecDepth 100000 in
theorem w_b_X5_held_9 {l : Launch} {p : Program} {e : Env} {s : State} {m : MethodId} {args : Array Value} {below : List Frame} {meth : Method} {c : Code} {A : Nat → Prop} {D : va_G} {ty : Nat → ClassId} {q : Nat → Nat} {rr : Int32} (X : CallFix p m c cX5_held 3 s args tb RX5) (hlk : meth.locks = false) (hr : meth.sig.returnType = (some .int)) : ∀ (n : Nat) (x1 x2 : Int32) (σ : St) (H : Heap) (locs : List Loc) (ls : Array Slot), b_X5_held_9 n x1 x2 σ = some rr → Inw D ty FxM (wM ty q σ) A s H locs → lv_has ls 3 [(0, .ref (q 0)), (1, .int x1), (2, .int x2)] → W p l e rm_X5_held s m args below meth c H locs 0 0 (MQ below (Qiw D ty (wM ty q) A (rr, σ)) args s 0 0 A) (F0 m 9 ls []) := by
  intro n
  induction n with
  | zero =>
    intro x1 x2 σ H locs ls hF
    cases hF
  | succ n ih =>
    intro x1 x2 σ H locs ls hF hI hl
    rw [b_X5_held_9] at hF
    refine lv_iload_n X.1 X.2.1 dX5_held_9 rfl (lv_at hl 2 rfl) ?_
    refine lv_aload_n X.1 X.2.1 dX5_held_10 rfl (lv_at hl 0 rfl) ?_
    refine g_X5_frames (v := gI σ 7) X hI rfl dX5_held_11 ?_
    refine lv_icmp_ge (tgt := 37) X.1 X.2.1 dX5_held_14 (by decide) (fun c1 => ?_) (fun c1 => ?_)
    · replace hF := fb_pos c1 hF
      refine lv_iconst (v := 0) X.1 X.2.1 dX5_held_37 (by decide) ?_
      refine lv_istore_n (lv' := [(2, .int 0), (0, .ref (q 0)), (1, .int x1)]) X.1 X.2.1 dX5_held_38 rfl hl (by decide) rfl (fun ls hl => ?_)
      exact w_b_X5_held_39 X hlk hr 600 x1 0 _ _ _ ls hF hI (lv_sub hl [1, 2, 0] rfl)
    · replace hF := fb_neg c1 hF
      refine lv_iload_n X.1 X.2.1 dX5_held_17 rfl (lv_at hl 1 rfl) ?_
      refine lv_bipush (v := 8) X.1 X.2.1 dX5_held_18 (by decide) ?_
      refine lv_iconst (v := 4) X.1 X.2.1 dX5_held_20 (by decide) ?_
      refine lv_aload_n X.1 X.2.1 dX5_held_21 rfl (lv_at hl 0 rfl) ?_
      refine g_X5_locals X hI dX5_held_22 ?_
      refine lv_iload_n X.1 X.2.1 dX5_held_25 rfl (lv_at hl 2 rfl) ?_
      obtain ⟨h6, hF⟩ := fb_chk hF
      refine aM_6 (v := gA σ 6 x2) X hI rfl h6 dX5_held_26 ?_
      refine lv_imul X.1 X.2.1 dX5_held_27 ?_
      refine lv_iadd X.1 X.2.1 dX5_held_28 ?_
      refine lv_iadd X.1 X.2.1 dX5_held_29 ?_
      refine lv_istore_n (lv' := [(1, .int (x1 + (8 + (4 * (gA σ 6 x2))))), (0, .ref (q 0)), (2, .int x2)]) X.1 X.2.1 dX5_held_30 rfl hl (by decide) rfl (fun ls hl => ?_)
      refine lv_iinc (v := x2 + 1) (lv' := [(2, .int (x2 + 1)), (1, .int (x1 + (8 + (4 * (gA σ 6 x2))))), (0, .ref (q 0))]) X.1 X.2.1 dX5_held_31 hl (k := 2) rfl rfl (by decide) rfl (fun ls hl => ?_)
      refine lv_goto (tgt := 9) X.1 X.2.1 dX5_held_34 (by decide) ?_
      exact ih (x1 + (8 + (4 * (gA σ 6 x2)))) (x2 + 1) _ _ _ ls hF hI (lv_sub hl [2, 1, 0] rfl)
def f_X5_held (σ : St) : Option Int32 :=
  b_X5_held_9 600 (4 * (gI σ 8)) 0 σ
set_option maxHeartbeats 4000000 in
set_option maxRecDepth 100000 in
theorem m_X5_held (l : Launch) (D : va_G) (ty : Nat → ClassId) (q : Nat → Nat) (σ : St) (sz : Nat) {rr : Int32} (hF : f_X5_held  σ = some rr) : Met l yX5_held (wsy yX5_held cX5_held 3 (some .int)) rm_X5_held (Pcw D ty FxM (wM ty q σ) sz [.ref (q 0)]) (Qiw D ty (wM ty q) (va_A (wM ty q σ) sz) (rr, σ)) 0 0 (va_A (wM ty q σ) sz) := by
  refine en_w (Qc := fun A => Qiw D ty (wM ty q) A (rr, σ)) (by decide) (Nat.le_of_ble_eq_true rfl) ?_
  intro p e s m args below meth c A X hlk hr _ H locs hI ls hl
  have X : CallFix p m c cX5_held 3 s args tb RX5 := X
  have hl : lv_has ls 3 [(0, .ref (q 0))] := hl
  unfold f_X5_held at hF
  refine lv_iconst (v := 4) X.1 X.2.1 dX5_held_0 (by decide) ?_
  refine lv_aload_n X.1 X.2.1 dX5_held_1 rfl (lv_at hl 0 rfl) ?_
  refine g_X5_numbers (v := gI σ 8) X hI rfl dX5_held_2 ?_
  refine lv_imul X.1 X.2.1 dX5_held_5 ?_
  refine lv_istore_n (lv' := [(1, .int (4 * (gI σ 8))), (0, .ref (q 0))]) X.1 X.2.1 dX5_held_6 rfl hl (by decide) rfl (fun ls hl => ?_)
  refine lv_iconst (v := 0) X.1 X.2.1 dX5_held_7 (by decide) ?_
  refine lv_istore_n (lv' := [(2, .int 0), (1, .int (4 * (gI σ 8))), (0, .ref (q 0))]) X.1 X.2.1 dX5_held_8 rfl hl (by decide) rfl (fun ls hl => ?_)
  exact w_b_X5_held_9 X hlk hr 600 (4 * (gI σ 8)) 0 _ _ _ ls hF hI (lv_sub hl [2, 1, 0] rfl)
abbrev rm_X5_isActive : Room := { frames := 0, cells := 0, slots := 0, locals := 0 }
def b_X5_isActive_4 : Nat → Int32 → Int32 → Int32 → St → Option Int32
  | 0, _, _, _, _ => none
  | n + 1, x1, x2, x3, σ =>
    if (gI σ 7) ≤ x3 then
      some (vp_nar .boolean x2)
    else
      if x2 = 0 then
        if inB x3 520 = true then
          if (gA σ 4 x3) = x1 then
            b_X5_isActive_4 n x1 1 (x3 + 1) σ
          else
            b_X5_isActive_4 n x1 0 (x3 + 1) σ
        else none
      else
        b_X5_isActive_4 n x1 1 (x3 + 1) σ
set_option maxHeartbeats 4000000 in
set_option maxRecDepth 100000 in
theorem w_b_X5_isActive_4 {l : Launch} {p : Program} {e : Env} {s : State} {m : MethodId} {args : Array Value} {below : List Frame} {meth : Method} {c : Code} {A : Nat → Prop} {D : va_G} {ty : Nat → ClassId} {q : Nat → Nat} {rr : Int32} (X : CallFix p m c cX5_isActive 4 s args tb RX5) (hlk : meth.locks = false) (hr : meth.sig.returnType = (some .boolean)) : ∀ (n : Nat) (x1 x2 x3 : Int32) (σ : St) (H : Heap) (locs : List Loc) (ls : Array Slot), b_X5_isActive_4 n x1 x2 x3 σ = some rr → Inw D ty FxM (wM ty q σ) A s H locs → lv_has ls 4 [(0, .ref (q 0)), (1, .int x1), (2, .int x2), (3, .int x3)] → W p l e rm_X5_isActive s m args below meth c H locs 0 0 (MQ below (Qiw D ty (wM ty q) A (rr, σ)) args s 0 0 A) (F0 m 4 ls []) := by
  intro n
  induction n with
  | zero =>
    intro x1 x2 x3 σ H locs ls hF
    cases hF
  | succ n ih =>
    intro x1 x2 x3 σ H locs ls hF hI hl
    rw [b_X5_isActive_4] at hF
    refine lv_iload_n X.1 X.2.1 dX5_isActive_4 rfl (lv_at hl 3 rfl) ?_
    refine lv_aload_n X.1 X.2.1 dX5_isActive_5 rfl (lv_at hl 0 rfl) ?_
    refine g_X5_frames (v := gI σ 7) X hI rfl dX5_isActive_6 ?_
    refine lv_icmp_ge (tgt := 38) X.1 X.2.1 dX5_isActive_9 (by decide) (fun c1 => ?_) (fun c1 => ?_)
    · replace hF := fb_pos c1 hF
      refine lv_iload_n X.1 X.2.1 dX5_isActive_38 rfl (lv_at hl 2 rfl) ?_
      exact rt_b X hlk hr hI (fb_pr hF) dX5_isActive_39
    · replace hF := fb_neg c1 hF
      refine lv_iload_n X.1 X.2.1 dX5_isActive_12 rfl (lv_at hl 2 rfl) ?_
      refine lv_if_ne (tgt := 26) X.1 X.2.1 dX5_isActive_13 (by decide) (fun c2 => ?_) (fun c2 => ?_)
      · replace hF := fb_neg c2 hF
        refine lv_iconst (v := 1) X.1 X.2.1 dX5_isActive_26 (by decide) ?_
        refine lv_goto (tgt := 31) X.1 X.2.1 dX5_isActive_27 (by decide) ?_
        refine lv_istore_n (lv' := [(2, .int 1), (0, .ref (q 0)), (1, .int x1), (3, .int x3)]) X.1 X.2.1 dX5_isActive_31 rfl hl (by decide) rfl (fun ls hl => ?_)
        refine lv_iinc (v := x3 + 1) (lv' := [(3, .int (x3 + 1)), (2, .int 1), (0, .ref (q 0)), (1, .int x1)]) X.1 X.2.1 dX5_isActive_32 hl (k := 3) rfl rfl (by decide) rfl (fun ls hl => ?_)
        refine lv_goto (tgt := 4) X.1 X.2.1 dX5_isActive_35 (by decide) ?_
        exact ih x1 1 (x3 + 1) _ _ _ ls hF hI (lv_sub hl [2, 3, 1, 0] rfl)
      · replace hF := fb_pos c2 hF
        refine lv_aload_n X.1 X.2.1 dX5_isActive_16 rfl (lv_at hl 0 rfl) ?_
        refine g_X5_segment X hI dX5_isActive_17 ?_
        refine lv_iload_n X.1 X.2.1 dX5_isActive_20 rfl (lv_at hl 3 rfl) ?_
        obtain ⟨h3, hF⟩ := fb_chk hF
        refine aM_4 (v := gA σ 4 x3) X hI rfl h3 dX5_isActive_21 ?_
        refine lv_iload_n X.1 X.2.1 dX5_isActive_22 rfl (lv_at hl 1 rfl) ?_
        refine lv_icmp_ne (tgt := 30) X.1 X.2.1 dX5_isActive_23 (by decide) (fun c4 => ?_) (fun c4 => ?_)
        · replace hF := fb_neg c4 hF
          refine lv_iconst (v := 0) X.1 X.2.1 dX5_isActive_30 (by decide) ?_
          refine lv_istore_n (lv' := [(2, .int 0), (0, .ref (q 0)), (1, .int x1), (3, .int x3)]) X.1 X.2.1 dX5_isActive_31 rfl hl (by decide) rfl (fun ls hl => ?_)
          refine lv_iinc (v := x3 + 1) (lv' := [(3, .int (x3 + 1)), (2, .int 0), (0, .ref (q 0)), (1, .int x1)]) X.1 X.2.1 dX5_isActive_32 hl (k := 3) rfl rfl (by decide) rfl (fun ls hl => ?_)
          refine lv_goto (tgt := 4) X.1 X.2.1 dX5_isActive_35 (by decide) ?_
          exact ih x1 0 (x3 + 1) _ _ _ ls hF hI (lv_sub hl [2, 3, 1, 0] rfl)
        · replace hF := fb_pos c4 hF
          refine lv_iconst (v := 1) X.1 X.2.1 dX5_isActive_26 (by decide) ?_
          refine lv_goto (tgt := 31) X.1 X.2.1 dX5_isActive_27 (by decide) ?_
          refine lv_istore_n (lv' := [(2, .int 1), (0, .ref (q 0)), (1, .int x1), (3, .int x3)]) X.1 X.2.1 dX5_isActive_31 rfl hl (by decide) rfl (fun ls hl => ?_)
          refine lv_iinc (v := x3 + 1) (lv' := [(3, .int (x3 + 1)), (2, .int 1), (0, .ref (q 0)), (1, .int x1)]) X.1 X.2.1 dX5_isActive_32 hl (k := 3) rfl rfl (by decide) rfl (fun ls hl => ?_)
          refine lv_goto (tgt := 4) X.1 X.2.1 dX5_isActive_35 (by decide) ?_
          exact ih x1 1 (x3 + 1) _ _ _ ls hF hI (lv_sub hl [2, 3, 1, 0] rfl)
def f_X5_isActive (x1 : Int32) (σ : St) : Option Int32 :=
  b_X5_isActive_4 600 x1 0 0 σ
set_option maxHeartbeats 4000000 in
set_option maxRecDepth 100000 in
theorem m_X5_isActive (l : Launch) (D : va_G) (ty : Nat → ClassId) (q : Nat → Nat) (σ : St) (sz : Nat) (x1 : Int32) {rr : Int32} (hF : f_X5_isActive x1 σ = some rr) : Met l yX5_isActive (wsy yX5_isActive cX5_isActive 4 (some .boolean)) rm_X5_isActive (Pcw D ty FxM (wM ty q σ) sz [.ref (q 0), .int x1]) (Qiw D ty (wM ty q) (va_A (wM ty q σ) sz) (rr, σ)) 0 0 (va_A (wM ty q σ) sz) := by
  refine en_w (Qc := fun A => Qiw D ty (wM ty q) A (rr, σ)) (by decide) (Nat.le_of_ble_eq_true rfl) ?_
  intro p e s m args below meth c A X hlk hr _ H locs hI ls hl
  have X : CallFix p m c cX5_isActive 4 s args tb RX5 := X
  have hl : lv_has ls 4 [(0, .ref (q 0)), (1, .int x1)] := hl
  unfold f_X5_isActive at hF
  refine lv_iconst (v := 0) X.1 X.2.1 dX5_isActive_0 (by decide) ?_
  refine lv_istore_n (lv' := [(2, .int 0), (0, .ref (q 0)), (1, .int x1)]) X.1 X.2.1 dX5_isActive_1 rfl hl (by decide) rfl (fun ls hl => ?_)
  refine lv_iconst (v := 0) X.1 X.2.1 dX5_isActive_2 (by decide) ?_
  refine lv_istore_n (lv' := [(3, .int 0), (2, .int 0), (0, .ref (q 0)), (1, .int x1)]) X.1 X.2.1 dX5_isActive_3 rfl hl (by decide) rfl (fun ls hl => ?_)
  exact w_b_X5_isActive_4 X hlk hr 600 x1 0 0 _ _ _ ls hF hI (lv_sub hl [2, 3, 1, 0] rfl)
abbrev rm_X5_room : Room := { frames := 1, cells := 0, slots := 0, locals := 23 }
def b_X5_room_18 (kk : Int32 → Int32 → Int32 → St → Option (Int32 × St)) : Nat → Int32 → Int32 → Int32 → Int32 → St → Option (Int32 × St)
  | 0, _, _, _, _, _ => none
  | n + 1, x1, x2, x3, x4, σ =>
    if 5 ≤ x4 then
      kk x1 x2 x3 σ
    else
      if inB x4 5 = true then
        if (gA σ 2 x4) = 0 then
          b_X5_room_18 kk n x1 x2 x3 (x4 + 1) σ
        else
          if x4 = x2 then
            b_X5_room_18 kk n x1 x2 x3 (x4 + 1) σ
          else
            (f_X5_isActive x4 σ).bind fun u8 =>
            if u8 = 0 then
              if x3 < 0 then
                b_X5_room_18 kk n x1 x2 x4 (x4 + 1) σ
              else
                if inB x4 5 = true then
                  if inB x3 5 = true then
                    if (gA σ 3 x3) ≤ (gA σ 3 x4) then
                      b_X5_room_18 kk n x1 x2 x3 (x4 + 1) σ
                    else
                      b_X5_room_18 kk n x1 x2 x4 (x4 + 1) σ
                  else none
                else none
            else
              b_X5_room_18 kk n x1 x2 x3 (x4 + 1) σ
      else none
set_option maxHeartbeats 4000000 in
set_option maxRecDepth 100000 in
theorem w_b_X5_room_18 {l : Launch} {p : Program} {e : Env} {s : State} {m : MethodId} {args : Array Value} {below : List Frame} {meth : Method} {c : Code} {A : Nat → Prop} {D : va_G} {ty : Nat → ClassId} {q : Nat → Nat} {res : Int32 × St} (X : CallFix p m c cX5_room 6 s args tb RX5) (hlk : meth.locks = false) (hr : meth.sig.returnType = (some .boolean)) {kk : Int32 → Int32 → Int32 → St → Option (Int32 × St)} (hk : ∀ (y1 y2 y3 : Int32) (σ : St) (H : Heap) (locs : List Loc) (ls : Array Slot), kk y1 y2 y3 σ = some res → Inw D ty FxM (wM ty q σ) A s H locs → lv_has ls 6 [(0, .ref (q 0)), (1, .int y1), (2, .int y2), (3, .int y3)] → W p l e rm_X5_room s m args below meth c H locs 0 0 (MQ below (Qiw D ty (wM ty q) A res) args s 0 0 A) (F0 m 90 ls [])) : ∀ (n : Nat) (x1 x2 x3 x4 : Int32) (σ : St) (H : Heap) (locs : List Loc) (ls : Array Slot), b_X5_room_18 kk n x1 x2 x3 x4 σ = some res → Inw D ty FxM (wM ty q σ) A s H locs → lv_has ls 6 [(0, .ref (q 0)), (1, .int x1), (2, .int x2), (3, .int x3), (4, .int x4)] → W p l e rm_X5_room s m args below meth c H locs 0 0 (MQ below (Qiw D ty (wM ty q) A res) args s 0 0 A) (F0 m 18 ls []) := by
  intro n
  induction n with
  | zero =>
    intro x1 x2 x3 x4 σ H locs ls hF
    cases hF
  | succ n ih =>
    intro x1 x2 x3 x4 σ H locs ls hF hI hl
    rw [b_X5_room_18] at hF
    refine lv_iload X.1 X.2.1 dX5_room_18 (lv_at hl 4 rfl) ?_
    refine lv_iconst (v := 5) X.1 X.2.1 dX5_room_20 (by decide) ?_
    refine lv_icmp_ge (tgt := 90) X.1 X.2.1 dX5_room_21 (by decide) (fun c4 => ?_) (fun c4 => ?_)
    · replace hF := fb_pos c4 hF
      exact hk x1 x2 x3 _ _ _ ls hF hI (lv_sub hl [0, 1, 2, 3] rfl)
    · replace hF := fb_neg c4 hF
      refine lv_aload_n X.1 X.2.1 dX5_room_24 rfl (lv_at hl 0 rfl) ?_
      refine g_X5_resident X hI dX5_room_25 ?_
      refine lv_iload X.1 X.2.1 dX5_room_28 (lv_at hl 4 rfl) ?_
      obtain ⟨h5, hF⟩ := fb_chk hF
      refine aM_2 (v := gA σ 2 x4) X hI rfl h5 dX5_room_30 ?_
      refine lv_if_eq (tgt := 53) X.1 X.2.1 dX5_room_31 (by decide) (fun c6 => ?_) (fun c6 => ?_)
      · replace hF := fb_pos c6 hF
        refine lv_iconst (v := 0) X.1 X.2.1 dX5_room_53 (by decide) ?_
        refine lv_istore (lv' := [(5, .int 0), (0, .ref (q 0)), (1, .int x1), (2, .int x2), (3, .int x3), (4, .int x4)]) X.1 X.2.1 dX5_room_54 hl (by decide) rfl (fun ls hl => ?_)
        refine lv_iload X.1 X.2.1 dX5_room_56 (lv_at hl 0 rfl) ?_
        refine lv_if_eq (tgt := 84) X.1 X.2.1 dX5_room_58 (by decide) (fun _ => ?_) (fun c => absurd (by decide) c)
        refine lv_iinc (v := x4 + 1) (lv' := [(4, .int (x4 + 1)), (5, .int 0), (0, .ref (q 0)), (1, .int x1), (2, .int x2), (3, .int x3)]) X.1 X.2.1 dX5_room_84 hl (k := 5) rfl rfl (by decide) rfl (fun ls hl => ?_)
        refine lv_goto (tgt := 18) X.1 X.2.1 dX5_room_87 (by decide) ?_
        exact ih x1 x2 x3 (x4 + 1) _ _ _ ls hF hI (lv_sub hl [2, 3, 4, 5, 0] rfl)
      · replace hF := fb_neg c6 hF
        refine lv_iload X.1 X.2.1 dX5_room_34 (lv_at hl 4 rfl) ?_
        refine lv_iload_n X.1 X.2.1 dX5_room_36 rfl (lv_at hl 2 rfl) ?_
        refine lv_icmp_eq (tgt := 53) X.1 X.2.1 dX5_room_37 (by decide) (fun c7 => ?_) (fun c7 => ?_)
        · replace hF := fb_pos c7 hF
          refine lv_iconst (v := 0) X.1 X.2.1 dX5_room_53 (by decide) ?_
          refine lv_istore (lv' := [(5, .int 0), (0, .ref (q 0)), (1, .int x1), (2, .int x2), (3, .int x3), (4, .int x4)]) X.1 X.2.1 dX5_room_54 hl (by decide) rfl (fun ls hl => ?_)
          refine lv_iload X.1 X.2.1 dX5_room_56 (lv_at hl 0 rfl) ?_
          refine lv_if_eq (tgt := 84) X.1 X.2.1 dX5_room_58 (by decide) (fun _ => ?_) (fun c => absurd (by decide) c)
          refine lv_iinc (v := x4 + 1) (lv' := [(4, .int (x4 + 1)), (5, .int 0), (0, .ref (q 0)), (1, .int x1), (2, .int x2), (3, .int x3)]) X.1 X.2.1 dX5_room_84 hl (k := 5) rfl rfl (by decide) rfl (fun ls hl => ?_)
          refine lv_goto (tgt := 18) X.1 X.2.1 dX5_room_87 (by decide) ?_
          exact ih x1 x2 x3 (x4 + 1) _ _ _ ls hF hI (lv_sub hl [2, 3, 4, 5, 0] rfl)
        · replace hF := fb_neg c7 hF
          refine lv_aload_n X.1 X.2.1 dX5_room_40 rfl (lv_at hl 0 rfl) ?_
          refine lv_iload X.1 X.2.1 dX5_room_41 (lv_at hl 4 rfl) ?_
          obtain ⟨u8, h9, hF⟩ := fb_bnd hF
          refine cl_i (w := wM ty q) (σ := σ) (rest := []) X fxM hI (m_X5_isActive l D ty q σ _ x4 h9) ok_X5_isActive ml_X5_72 ⟨rfl, rfl, Nat.le_of_ble_eq_true rfl, Nat.le_of_ble_eq_true rfl⟩ 0 rc_X5 rfl rfl hl.1 rfl (Nat.le_of_ble_eq_true rfl) ⟨Nat.le_of_ble_eq_true rfl, Nat.le_of_ble_eq_true rfl⟩ dX5_room_43 (fun H locs hI => ?_)
          refine lv_if_ne (tgt := 53) X.1 X.2.1 dX5_room_46 (by decide) (fun c10 => ?_) (fun c10 => ?_)
          · replace hF := fb_neg c10 hF
            refine lv_iconst (v := 0) X.1 X.2.1 dX5_room_53 (by decide) ?_
            refine lv_istore (lv' := [(5, .int 0), (0, .ref (q 0)), (1, .int x1), (2, .int x2), (3, .int x3), (4, .int x4)]) X.1 X.2.1 dX5_room_54 hl (by decide) rfl (fun ls hl => ?_)
            refine lv_iload X.1 X.2.1 dX5_room_56 (lv_at hl 0 rfl) ?_
            refine lv_if_eq (tgt := 84) X.1 X.2.1 dX5_room_58 (by decide) (fun _ => ?_) (fun c => absurd (by decide) c)
            refine lv_iinc (v := x4 + 1) (lv' := [(4, .int (x4 + 1)), (5, .int 0), (0, .ref (q 0)), (1, .int x1), (2, .int x2), (3, .int x3)]) X.1 X.2.1 dX5_room_84 hl (k := 5) rfl rfl (by decide) rfl (fun ls hl => ?_)
            refine lv_goto (tgt := 18) X.1 X.2.1 dX5_room_87 (by decide) ?_
            exact ih x1 x2 x3 (x4 + 1) _ _ _ ls hF hI (lv_sub hl [2, 3, 4, 5, 0] rfl)
          · replace hF := fb_pos c10 hF
            refine lv_iconst (v := 1) X.1 X.2.1 dX5_room_49 (by decide) ?_
            refine lv_goto (tgt := 54) X.1 X.2.1 dX5_room_50 (by decide) ?_
            refine lv_istore (lv' := [(5, .int 1), (0, .ref (q 0)), (1, .int x1), (2, .int x2), (3, .int x3), (4, .int x4)]) X.1 X.2.1 dX5_room_54 hl (by decide) rfl (fun ls hl => ?_)
            refine lv_iload X.1 X.2.1 dX5_room_56 (lv_at hl 0 rfl) ?_
            refine lv_if_eq (tgt := 84) X.1 X.2.1 dX5_room_58 (by decide) (fun c => absurd c (by decide)) (fun _ => ?_)
            refine lv_iload_n X.1 X.2.1 dX5_room_61 rfl (lv_at hl 4 rfl) ?_
            refine lv_if_lt (tgt := 81) X.1 X.2.1 dX5_room_62 (by decide) (fun c11 => ?_) (fun c11 => ?_)
            · replace hF := fb_pos c11 hF
              refine lv_iload X.1 X.2.1 dX5_room_81 (lv_at hl 5 rfl) ?_
              refine lv_istore_n (lv' := [(3, .int x4), (5, .int 1), (0, .ref (q 0)), (1, .int x1), (2, .int x2), (4, .int x4)]) X.1 X.2.1 dX5_room_83 rfl hl (by decide) rfl (fun ls hl => ?_)
              refine lv_iinc (v := x4 + 1) (lv' := [(4, .int (x4 + 1)), (3, .int x4), (5, .int 1), (0, .ref (q 0)), (1, .int x1), (2, .int x2)]) X.1 X.2.1 dX5_room_84 hl (k := 5) rfl rfl (by decide) rfl (fun ls hl => ?_)
              refine lv_goto (tgt := 18) X.1 X.2.1 dX5_room_87 (by decide) ?_
              exact ih x1 x2 x4 (x4 + 1) _ _ _ ls hF hI (lv_sub hl [3, 4, 5, 1, 0] rfl)
            · replace hF := fb_neg c11 hF
              refine lv_aload_n X.1 X.2.1 dX5_room_65 rfl (lv_at hl 1 rfl) ?_
              refine g_X5_called X hI dX5_room_66 ?_
              refine lv_iload X.1 X.2.1 dX5_room_69 (lv_at hl 5 rfl) ?_
              obtain ⟨h12, hF⟩ := fb_chk hF
              refine aM_3 (v := gA σ 3 x4) X hI rfl h12 dX5_room_71 ?_
              refine lv_aload_n X.1 X.2.1 dX5_room_72 rfl (lv_at hl 1 rfl) ?_
              refine g_X5_called X hI dX5_room_73 ?_
              refine lv_iload_n X.1 X.2.1 dX5_room_76 rfl (lv_at hl 4 rfl) ?_
              obtain ⟨h13, hF⟩ := fb_chk hF
              refine aM_3 (v := gA σ 3 x3) X hI rfl h13 dX5_room_77 ?_
              refine lv_icmp_ge (tgt := 84) X.1 X.2.1 dX5_room_78 (by decide) (fun c14 => ?_) (fun c14 => ?_)
              · replace hF := fb_pos c14 hF
                refine lv_iinc (v := x4 + 1) (lv' := [(4, .int (x4 + 1)), (5, .int 1), (0, .ref (q 0)), (1, .int x1), (2, .int x2), (3, .int x3)]) X.1 X.2.1 dX5_room_84 hl (k := 5) rfl rfl (by decide) rfl (fun ls hl => ?_)
                refine lv_goto (tgt := 18) X.1 X.2.1 dX5_room_87 (by decide) ?_
                exact ih x1 x2 x3 (x4 + 1) _ _ _ ls hF hI (lv_sub hl [2, 3, 4, 5, 0] rfl)
              · replace hF := fb_neg c14 hF
                refine lv_iload X.1 X.2.1 dX5_room_81 (lv_at hl 5 rfl) ?_
                refine lv_istore_n (lv' := [(3, .int x4), (5, .int 1), (0, .ref (q 0)), (1, .int x1), (2, .int x2), (4, .int x4)]) X.1 X.2.1 dX5_room_83 rfl hl (by decide) rfl (fun ls hl => ?_)
                refine lv_iinc (v := x4 + 1) (lv' := [(4, .int (x4 + 1)), (3, .int x4), (5, .int 1), (0, .ref (q 0)), (1, .int x1), (2, .int x2)]) X.1 X.2.1 dX5_room_84 hl (k := 5) rfl rfl (by decide) rfl (fun ls hl => ?_)
                refine lv_goto (tgt := 18) X.1 X.2.1 dX5_room_87 (by decide) ?_
                exact ih x1 x2 x4 (x4 + 1) _ _ _ ls hF hI (lv_sub hl [3, 4, 5, 1, 0] rfl)
def b_X5_room_0 : Nat → Int32 → Int32 → St → Option (Int32 × St)
  | 0, _, _, _ => none
  | n + 1, x1, x2, σ =>
    (f_X5_held σ).bind fun u1 =>
    if (u1 + x1) ≤ (gI σ 2) then
      some (1, σ)
    else
      b_X5_room_18 (fun (y1 y2 y3 : Int32) (σ : St) =>
          if 0 ≤ y3 then
            if inB y3 5 = true then
              b_X5_room_0 n y1 y2 (sI (sA σ 2 y3 (vp_nar .boolean 0)) 6 ((gI σ 6) + 1))
            else none
          else
            some (0, sI σ 1 4))
        7 x1 x2 (-1) 0 σ
set_option maxHeartbeats 4000000 in
set_option maxRecDepth 100000 in
theorem w_b_X5_room_0 {l : Launch} {p : Program} {e : Env} {s : State} {m : MethodId} {args : Array Value} {below : List Frame} {meth : Method} {c : Code} {A : Nat → Prop} {D : va_G} {ty : Nat → ClassId} {q : Nat → Nat} {res : Int32 × St} (X : CallFix p m c cX5_room 6 s args tb RX5) (hlk : meth.locks = false) (hr : meth.sig.returnType = (some .boolean)) : ∀ (n : Nat) (x1 x2 : Int32) (σ : St) (H : Heap) (locs : List Loc) (ls : Array Slot), b_X5_room_0 n x1 x2 σ = some res → Inw D ty FxM (wM ty q σ) A s H locs → lv_has ls 6 [(0, .ref (q 0)), (1, .int x1), (2, .int x2)] → W p l e rm_X5_room s m args below meth c H locs 0 0 (MQ below (Qiw D ty (wM ty q) A res) args s 0 0 A) (F0 m 0 ls []) := by
  intro n
  induction n with
  | zero =>
    intro x1 x2 σ H locs ls hF
    cases hF
  | succ n ih =>
    intro x1 x2 σ H locs ls hF hI hl
    rw [b_X5_room_0] at hF
    refine lv_aload_n X.1 X.2.1 dX5_room_0 rfl (lv_at hl 0 rfl) ?_
    obtain ⟨u1, h2, hF⟩ := fb_bnd hF
    refine cl_i (w := wM ty q) (σ := σ) (rest := []) X fxM hI (m_X5_held l D ty q σ _  h2) ok_X5_held ml_X5_65 ⟨rfl, rfl, Nat.le_of_ble_eq_true rfl, Nat.le_of_ble_eq_true rfl⟩ 0 rc_X5 rfl rfl hl.1 rfl (Nat.le_of_ble_eq_true rfl) ⟨Nat.le_of_ble_eq_true rfl, Nat.le_of_ble_eq_true rfl⟩ dX5_room_1 (fun H locs hI => ?_)
    refine lv_iload_n X.1 X.2.1 dX5_room_4 rfl (lv_at hl 1 rfl) ?_
    refine lv_iadd X.1 X.2.1 dX5_room_5 ?_
    refine lv_aload_n X.1 X.2.1 dX5_room_6 rfl (lv_at hl 0 rfl) ?_
    refine g_X5_limit (v := gI σ 2) X hI rfl dX5_room_7 ?_
    refine lv_icmp_le (tgt := 121) X.1 X.2.1 dX5_room_10 (by decide) (fun c3 => ?_) (fun c3 => ?_)
    · replace hF := fb_pos c3 hF
      refine lv_iconst (v := 1) X.1 X.2.1 dX5_room_121 (by decide) ?_
      exact rt_z X hlk hr hI rfl hF dX5_room_122
    · replace hF := fb_neg c3 hF
      refine lv_iconst (v := (-1)) X.1 X.2.1 dX5_room_13 (by decide) ?_
      refine lv_istore_n (lv' := [(3, .int (-1)), (0, .ref (q 0)), (1, .int x1), (2, .int x2)]) X.1 X.2.1 dX5_room_14 rfl hl (by decide) rfl (fun ls hl => ?_)
      refine lv_iconst (v := 0) X.1 X.2.1 dX5_room_15 (by decide) ?_
      refine lv_istore (lv' := [(4, .int 0), (3, .int (-1)), (0, .ref (q 0)), (1, .int x1), (2, .int x2)]) X.1 X.2.1 dX5_room_16 hl (by decide) rfl (fun ls hl => ?_)
      refine w_b_X5_room_18 X hlk hr (fun y1 y2 y3 σ H locs ls hF hI hl => ?_) 7 x1 x2 (-1) 0 _ _ _ ls hF hI (lv_sub hl [2, 3, 4, 1, 0] rfl)
      refine lv_iload_n X.1 X.2.1 dX5_room_90 rfl (lv_at hl 3 rfl) ?_
      refine lv_if_ge (tgt := 101) X.1 X.2.1 dX5_room_91 (by decide) (fun c15 => ?_) (fun c15 => ?_)
      · replace hF := fb_pos c15 hF
        refine lv_aload_n X.1 X.2.1 dX5_room_101 rfl (lv_at hl 0 rfl) ?_
        refine g_X5_resident X hI dX5_room_102 ?_
        refine lv_iload_n X.1 X.2.1 dX5_room_105 rfl (lv_at hl 3 rfl) ?_
        refine lv_iconst (v := 0) X.1 X.2.1 dX5_room_106 (by decide) ?_
        obtain ⟨h16, hF⟩ := fb_chk hF
        refine sM_2 X hI h16 dX5_room_107 (fun H locs hI => ?_)
        refine lv_aload_n X.1 X.2.1 dX5_room_108 rfl (lv_at hl 0 rfl) ?_
        refine lv_dup X.1 X.2.1 dX5_room_109 rfl ?_
        refine g_X5_gone (v := gI σ 6) X hI rfl dX5_room_110 ?_
        refine lv_iconst (v := 1) X.1 X.2.1 dX5_room_113 (by decide) ?_
        refine lv_iadd X.1 X.2.1 dX5_room_114 ?_
        refine p_X5_gone X hI dX5_room_115 (fun H locs hI => ?_)
        refine lv_goto (tgt := 0) X.1 X.2.1 dX5_room_118 (by decide) ?_
        exact ih y1 y2 _ _ _ ls hF hI (lv_sub hl [0, 1, 2] rfl)
      · replace hF := fb_neg c15 hF
        refine lv_aload_n X.1 X.2.1 dX5_room_94 rfl (lv_at hl 0 rfl) ?_
        refine lv_iconst (v := 4) X.1 X.2.1 dX5_room_95 (by decide) ?_
        refine p_X5_state X hI dX5_room_96 (fun H locs hI => ?_)
        refine lv_iconst (v := 0) X.1 X.2.1 dX5_room_99 (by decide) ?_
        exact rt_z X hlk hr hI rfl hF dX5_room_100
def f_X5_room (x1 x2 : Int32) (σ : St) : Option (Int32 × St) :=
  b_X5_room_0 7 x1 x2 σ
set_option maxHeartbeats 4000000 in
set_option maxRecDepth 100000 in
theorem m_X5_room (l : Launch) (D : va_G) (ty : Nat → ClassId) (q : Nat → Nat) (σ : St) (sz : Nat) (x1 x2 : Int32) {res : Int32 × St} (hF : f_X5_room x1 x2 σ = some res) : Met l yX5_room (wsy yX5_room cX5_room 6 (some .boolean)) rm_X5_room (Pcw D ty FxM (wM ty q σ) sz [.ref (q 0), .int x1, .int x2]) (Qiw D ty (wM ty q) (va_A (wM ty q σ) sz) res) 0 0 (va_A (wM ty q σ) sz) := by
  refine en_w (Qc := fun A => Qiw D ty (wM ty q) A res) (by decide) (Nat.le_of_ble_eq_true rfl) ?_
  intro p e s m args below meth c A X hlk hr _ H locs hI ls hl
  have X : CallFix p m c cX5_room 6 s args tb RX5 := X
  have hl : lv_has ls 6 [(0, .ref (q 0)), (1, .int x1), (2, .int x2)] := hl
  unfold f_X5_room at hF
  exact w_b_X5_room_0 X hlk hr 7 x1 x2 _ _ _ ls hF hI (lv_sub hl [0, 1, 2] rfl)
abbrev rm_X5_grown : Room := { frames := 1, cells := 0, slots := 0, locals := 22 }
def f_X5_grown (σ : St) : Option (Int32 × St) :=
  (f_X5_held σ).bind fun u1 =>
  if u1 ≤ (gI σ 4) then
    some (0, sI σ 4 (gI σ 4))
  else
    some (0, sI σ 4 u1)
set_option maxHeartbeats 4000000 in
set_option maxRecDepth 100000 in
theorem m_X5_grown (l : Launch) (D : va_G) (ty : Nat → ClassId) (q : Nat → Nat) (σ : St) (sz : Nat) {res : Int32 × St} (hF : f_X5_grown  σ = some res) : Met l yX5_grown (wsy yX5_grown cX5_grown 2 none) rm_X5_grown (Pcw D ty FxM (wM ty q σ) sz [.ref (q 0)]) (Qvw D ty (wM ty q) (va_A (wM ty q σ) sz) res) 0 0 (va_A (wM ty q σ) sz) := by
  refine en_w (Qc := fun A => Qvw D ty (wM ty q) A res) (by decide) (Nat.le_of_ble_eq_true rfl) ?_
  intro p e s m args below meth c A X hlk hr _ H locs hI ls hl
  have X : CallFix p m c cX5_grown 2 s args tb RX5 := X
  have hl : lv_has ls 2 [(0, .ref (q 0))] := hl
  unfold f_X5_grown at hF
  refine lv_aload_n X.1 X.2.1 dX5_grown_0 rfl (lv_at hl 0 rfl) ?_
  obtain ⟨u1, h2, hF⟩ := fb_bnd hF
  refine cl_i (w := wM ty q) (σ := σ) (rest := []) X fxM hI (m_X5_held l D ty q σ _  h2) ok_X5_held ml_X5_65 ⟨rfl, rfl, Nat.le_of_ble_eq_true rfl, Nat.le_of_ble_eq_true rfl⟩ 0 rc_X5 rfl rfl hl.1 rfl (Nat.le_of_ble_eq_true rfl) ⟨Nat.le_of_ble_eq_true rfl, Nat.le_of_ble_eq_true rfl⟩ dX5_grown_1 (fun H locs hI => ?_)
  refine lv_istore_n (lv' := [(1, .int u1), (0, .ref (q 0))]) X.1 X.2.1 dX5_grown_4 rfl hl (by decide) rfl (fun ls hl => ?_)
  refine lv_aload_n X.1 X.2.1 dX5_grown_5 rfl (lv_at hl 1 rfl) ?_
  refine lv_iload_n X.1 X.2.1 dX5_grown_6 rfl (lv_at hl 0 rfl) ?_
  refine lv_aload_n X.1 X.2.1 dX5_grown_7 rfl (lv_at hl 1 rfl) ?_
  refine g_X5_most (v := gI σ 4) X hI rfl dX5_grown_8 ?_
  refine lv_icmp_le (tgt := 18) X.1 X.2.1 dX5_grown_11 (by decide) (fun c3 => ?_) (fun c3 => ?_)
  · replace hF := fb_pos c3 hF
    refine lv_aload_n X.1 X.2.1 dX5_grown_18 rfl (lv_at hl 1 rfl) ?_
    refine g_X5_most (v := gI σ 4) X hI rfl dX5_grown_19 ?_
    refine p_X5_most X hI dX5_grown_22 (fun H locs hI => ?_)
    exact rt_v X hlk hr hI hF dX5_grown_25
  · replace hF := fb_neg c3 hF
    refine lv_iload_n X.1 X.2.1 dX5_grown_14 rfl (lv_at hl 0 rfl) ?_
    refine lv_goto (tgt := 22) X.1 X.2.1 dX5_grown_15 (by decide) ?_
    refine p_X5_most X hI dX5_grown_22 (fun H locs hI => ?_)
    exact rt_v X hlk hr hI hF dX5_grown_25
abbrev rm_X5_push : Room := { frames := 2, cells := 0, slots := 0, locals := 48 }
def f_X5_push (x1 : Int32) (σ : St) : Option (Int32 × St) :=
  (f_X5_room 4 (-1) σ).bind fun u1 =>
  if u1.1 = 0 then
    some (0, u1.2)
  else
    if inB (gI u1.2 8) 1010 = true then
      (f_X5_grown (sI (sA u1.2 9 (gI u1.2 8) x1) 8 ((gI u1.2 8) + 1))).bind fun u5 =>
      some (1, u5.2)
    else none
set_option maxHeartbeats 4000000 in
set_option maxRecDepth 100000 in
theorem m_X5_push (l : Launch) (D : va_G) (ty : Nat → ClassId) (q : Nat → Nat) (σ : St) (sz : Nat) (x1 : Int32) {res : Int32 × St} (hF : f_X5_push x1 σ = some res) : Met l yX5_push (wsy yX5_push cX5_push 2 (some .boolean)) rm_X5_push (Pcw D ty FxM (wM ty q σ) sz [.ref (q 0), .int x1]) (Qiw D ty (wM ty q) (va_A (wM ty q σ) sz) res) 0 0 (va_A (wM ty q σ) sz) := by
  refine en_w (Qc := fun A => Qiw D ty (wM ty q) A res) (by decide) (Nat.le_of_ble_eq_true rfl) ?_
  intro p e s m args below meth c A X hlk hr _ H locs hI ls hl
  have X : CallFix p m c cX5_push 2 s args tb RX5 := X
  have hl : lv_has ls 2 [(0, .ref (q 0)), (1, .int x1)] := hl
  unfold f_X5_push at hF
  refine lv_aload_n X.1 X.2.1 dX5_push_0 rfl (lv_at hl 0 rfl) ?_
  refine lv_iconst (v := 4) X.1 X.2.1 dX5_push_1 (by decide) ?_
  refine lv_iconst (v := (-1)) X.1 X.2.1 dX5_push_2 (by decide) ?_
  obtain ⟨u1, h2, hF⟩ := fb_bnd hF
  refine cl_i (w := wM ty q) (σ := σ) (rest := []) X fxM hI (m_X5_room l D ty q σ _ 4 (-1) h2) ok_X5_room ml_X5_81 ⟨rfl, rfl, Nat.le_of_ble_eq_true rfl, Nat.le_of_ble_eq_true rfl⟩ 0 rc_X5 rfl rfl hl.1 rfl (Nat.le_of_ble_eq_true rfl) ⟨Nat.le_of_ble_eq_true rfl, Nat.le_of_ble_eq_true rfl⟩ dX5_push_3 (fun H locs hI => ?_)
  refine lv_if_ne (tgt := 11) X.1 X.2.1 dX5_push_6 (by decide) (fun c3 => ?_) (fun c3 => ?_)
  · replace hF := fb_neg c3 hF
    refine lv_aload_n X.1 X.2.1 dX5_push_11 rfl (lv_at hl 0 rfl) ?_
    refine g_X5_number X hI dX5_push_12 ?_
    refine lv_aload_n X.1 X.2.1 dX5_push_15 rfl (lv_at hl 0 rfl) ?_
    refine g_X5_numbers (v := gI u1.2 8) X hI rfl dX5_push_16 ?_
    refine lv_iload_n X.1 X.2.1 dX5_push_19 rfl (lv_at hl 1 rfl) ?_
    obtain ⟨h4, hF⟩ := fb_chk hF
    refine sM_9 X hI h4 dX5_push_20 (fun H locs hI => ?_)
    refine lv_aload_n X.1 X.2.1 dX5_push_21 rfl (lv_at hl 0 rfl) ?_
    refine lv_dup X.1 X.2.1 dX5_push_22 rfl ?_
    refine g_X5_numbers (v := gI u1.2 8) X hI rfl dX5_push_23 ?_
    refine lv_iconst (v := 1) X.1 X.2.1 dX5_push_26 (by decide) ?_
    refine lv_iadd X.1 X.2.1 dX5_push_27 ?_
    refine p_X5_numbers X hI dX5_push_28 (fun H locs hI => ?_)
    refine lv_aload_n X.1 X.2.1 dX5_push_31 rfl (lv_at hl 0 rfl) ?_
    obtain ⟨u5, h6, hF⟩ := fb_bnd hF
    refine cl_v (w := wM ty q) (σ := sI (sA u1.2 9 (gI u1.2 8) x1) 8 ((gI u1.2 8) + 1)) (rest := []) X fxM hI (m_X5_grown l D ty q (sI (sA u1.2 9 (gI u1.2 8) x1) 8 ((gI u1.2 8) + 1)) _  h6) ok_X5_grown ml_X5_85 ⟨rfl, rfl, Nat.le_of_ble_eq_true rfl, Nat.le_of_ble_eq_true rfl⟩ 0 rc_X5 rfl rfl hl.1 rfl (Nat.le_of_ble_eq_true rfl) ⟨Nat.le_of_ble_eq_true rfl, Nat.le_of_ble_eq_true rfl⟩ dX5_push_32 (fun H locs hI => ?_)
    refine lv_iconst (v := 1) X.1 X.2.1 dX5_push_35 (by decide) ?_
    exact rt_z X hlk hr hI rfl hF dX5_push_36
  · replace hF := fb_pos c3 hF
    refine lv_iconst (v := 0) X.1 X.2.1 dX5_push_9 (by decide) ?_
    exact rt_z X hlk hr hI rfl hF dX5_push_10
abbrev rm_X5_call : Room := { frames := 2, cells := 0, slots := 0, locals := 48 }
def b_X5_call_208 : Nat → Int32 → Int32 → Int32 → St → Option (Int32 × St)
  | 0, _, _, _, _ => none
  | n + 1, x3, x5, x6, σ =>
    if 6 ≤ x6 then
      (f_X5_grown (sI σ 7 ((gI σ 7) + 1))).bind fun u16 =>
      some (0, u16.2)
    else
      if x6 = 0 then
        if x5 ≤ 0 then
          if inB ((6 * (gI σ 7)) + x6) 3120 = true then
            b_X5_call_208 n x3 x5 (x6 + 1) (sA σ 7 ((6 * (gI σ 7)) + x6) 0)
          else none
        else
          if inB ((6 * (gI σ 7)) + x6) 3120 = true then
            b_X5_call_208 n x3 x5 (x6 + 1) (sA σ 7 ((6 * (gI σ 7)) + x6) x3)
          else none
      else
        if inB ((6 * (gI σ 7)) + x6) 3120 = true then
          b_X5_call_208 n x3 x5 (x6 + 1) (sA σ 7 ((6 * (gI σ 7)) + x6) 0)
        else none
set_option maxHeartbeats 4000000 in
set_option maxRecDepth 100000 in
theorem w_b_X5_call_208 {l : Launch} {p : Program} {e : Env} {s : State} {m : MethodId} {args : Array Value} {below : List Frame} {meth : Method} {c : Code} {A : Nat → Prop} {D : va_G} {ty : Nat → ClassId} {q : Nat → Nat} {res : Int32 × St} (X : CallFix p m c cX5_call 7 s args tb RX5) (hlk : meth.locks = false) (hr : meth.sig.returnType = none) : ∀ (n : Nat) (x3 x5 x6 : Int32) (σ : St) (H : Heap) (locs : List Loc) (ls : Array Slot), b_X5_call_208 n x3 x5 x6 σ = some res → Inw D ty FxM (wM ty q σ) A s H locs → lv_has ls 7 [(0, .ref (q 0)), (3, .int x3), (5, .int x5), (6, .int x6)] → W p l e rm_X5_call s m args below meth c H locs 0 0 (MQ below (Qvw D ty (wM ty q) A res) args s 0 0 A) (F0 m 208 ls []) := by
  intro n
  induction n with
  | zero =>
    intro x3 x5 x6 σ H locs ls hF
    cases hF
  | succ n ih =>
    intro x3 x5 x6 σ H locs ls hF hI hl
    rw [b_X5_call_208] at hF
    refine lv_iload X.1 X.2.1 dX5_call_208 (lv_at hl 3 rfl) ?_
    refine lv_bipush (v := 6) X.1 X.2.1 dX5_call_210 (by decide) ?_
    refine lv_icmp_ge (tgt := 251) X.1 X.2.1 dX5_call_212 (by decide) (fun c15 => ?_) (fun c15 => ?_)
    · replace hF := fb_pos c15 hF
      refine lv_aload_n X.1 X.2.1 dX5_call_251 rfl (lv_at hl 0 rfl) ?_
      refine lv_dup X.1 X.2.1 dX5_call_252 rfl ?_
      refine g_X5_frames (v := gI σ 7) X hI rfl dX5_call_253 ?_
      refine lv_iconst (v := 1) X.1 X.2.1 dX5_call_256 (by decide) ?_
      refine lv_iadd X.1 X.2.1 dX5_call_257 ?_
      refine p_X5_frames X hI dX5_call_258 (fun H locs hI => ?_)
      refine lv_aload_n X.1 X.2.1 dX5_call_261 rfl (lv_at hl 0 rfl) ?_
      obtain ⟨u16, h17, hF⟩ := fb_bnd hF
      refine cl_v (w := wM ty q) (σ := sI σ 7 ((gI σ 7) + 1)) (rest := []) X fxM hI (m_X5_grown l D ty q (sI σ 7 ((gI σ 7) + 1)) _  h17) ok_X5_grown ml_X5_85 ⟨rfl, rfl, Nat.le_of_ble_eq_true rfl, Nat.le_of_ble_eq_true rfl⟩ 0 rc_X5 rfl rfl hl.1 rfl (Nat.le_of_ble_eq_true rfl) ⟨Nat.le_of_ble_eq_true rfl, Nat.le_of_ble_eq_true rfl⟩ dX5_call_262 (fun H locs hI => ?_)
      exact rt_v X hlk hr hI hF dX5_call_265
    · replace hF := fb_neg c15 hF
      refine lv_aload_n X.1 X.2.1 dX5_call_215 rfl (lv_at hl 0 rfl) ?_
      refine g_X5_local X hI dX5_call_216 ?_
      refine lv_bipush (v := 6) X.1 X.2.1 dX5_call_219 (by decide) ?_
      refine lv_aload_n X.1 X.2.1 dX5_call_221 rfl (lv_at hl 0 rfl) ?_
      refine g_X5_frames (v := gI σ 7) X hI rfl dX5_call_222 ?_
      refine lv_imul X.1 X.2.1 dX5_call_225 ?_
      refine lv_iload X.1 X.2.1 dX5_call_226 (lv_at hl 3 rfl) ?_
      refine lv_iadd X.1 X.2.1 dX5_call_228 ?_
      refine lv_iload X.1 X.2.1 dX5_call_229 (lv_at hl 3 rfl) ?_
      refine lv_if_ne (tgt := 243) X.1 X.2.1 dX5_call_231 (by decide) (fun c18 => ?_) (fun c18 => ?_)
      · replace hF := fb_neg c18 hF
        refine lv_iconst (v := 0) X.1 X.2.1 dX5_call_243 (by decide) ?_
        obtain ⟨h19, hF⟩ := fb_chk hF
        refine sM_7 X hI h19 dX5_call_244 (fun H locs hI => ?_)
        refine lv_iinc (v := x6 + 1) (lv' := [(6, .int (x6 + 1)), (0, .ref (q 0)), (3, .int x3), (5, .int x5)]) X.1 X.2.1 dX5_call_245 hl (k := 3) rfl rfl (by decide) rfl (fun ls hl => ?_)
        refine lv_goto (tgt := 208) X.1 X.2.1 dX5_call_248 (by decide) ?_
        exact ih x3 x5 (x6 + 1) _ _ _ ls hF hI (lv_sub hl [1, 2, 3, 0] rfl)
      · replace hF := fb_pos c18 hF
        refine lv_iload X.1 X.2.1 dX5_call_234 (lv_at hl 2 rfl) ?_
        refine lv_if_le (tgt := 243) X.1 X.2.1 dX5_call_236 (by decide) (fun c20 => ?_) (fun c20 => ?_)
        · replace hF := fb_pos c20 hF
          refine lv_iconst (v := 0) X.1 X.2.1 dX5_call_243 (by decide) ?_
          obtain ⟨h21, hF⟩ := fb_chk hF
          refine sM_7 X hI h21 dX5_call_244 (fun H locs hI => ?_)
          refine lv_iinc (v := x6 + 1) (lv' := [(6, .int (x6 + 1)), (0, .ref (q 0)), (3, .int x3), (5, .int x5)]) X.1 X.2.1 dX5_call_245 hl (k := 3) rfl rfl (by decide) rfl (fun ls hl => ?_)
          refine lv_goto (tgt := 208) X.1 X.2.1 dX5_call_248 (by decide) ?_
          exact ih x3 x5 (x6 + 1) _ _ _ ls hF hI (lv_sub hl [1, 2, 3, 0] rfl)
        · replace hF := fb_neg c20 hF
          refine lv_iload_n X.1 X.2.1 dX5_call_239 rfl (lv_at hl 1 rfl) ?_
          refine lv_goto (tgt := 244) X.1 X.2.1 dX5_call_240 (by decide) ?_
          obtain ⟨h22, hF⟩ := fb_chk hF
          refine sM_7 X hI h22 dX5_call_244 (fun H locs hI => ?_)
          refine lv_iinc (v := x6 + 1) (lv' := [(6, .int (x6 + 1)), (0, .ref (q 0)), (3, .int x3), (5, .int x5)]) X.1 X.2.1 dX5_call_245 hl (k := 3) rfl rfl (by decide) rfl (fun ls hl => ?_)
          refine lv_goto (tgt := 208) X.1 X.2.1 dX5_call_248 (by decide) ?_
          exact ih x3 x5 (x6 + 1) _ _ _ ls hF hI (lv_sub hl [1, 2, 3, 0] rfl)
def b_X5_call_132 (x1 x3 x4 x5 : Int32) (σ : St) : Option (Int32 × St) :=
  if inB x1 5 = true then
    (f_X5_room (8 + (4 * x5)) x1 (sA σ 3 x1 (gI σ 3))).bind fun u8 =>
    if u8.1 = 0 then
      some (0, u8.2)
    else
      if inB (gI u8.2 7) 520 = true then
        if inB (gI u8.2 7) 520 = true then
          if inB (gI u8.2 7) 520 = true then
            if inB (gI u8.2 7) 520 = true then
              b_X5_call_208 7 x3 x5 0 (sA (sA (sA (sA u8.2 4 (gI u8.2 7) x1) 5 (gI u8.2 7) (x4 + 1)) 6 (gI u8.2 7) x5) 8 (gI u8.2 7) (gI u8.2 8))
            else none
          else none
        else none
      else none
  else none
set_option maxHeartbeats 4000000 in
set_option maxRecDepth 100000 in
theorem w_b_X5_call_132 {l : Launch} {p : Program} {e : Env} {s : State} {m : MethodId} {args : Array Value} {below : List Frame} {meth : Method} {c : Code} {A : Nat → Prop} {D : va_G} {ty : Nat → ClassId} {q : Nat → Nat} {res : Int32 × St} (X : CallFix p m c cX5_call 7 s args tb RX5) (hlk : meth.locks = false) (hr : meth.sig.returnType = none) {σ : St} {H : Heap} {locs : List Loc} (hI : Inw D ty FxM (wM ty q σ) A s H locs) (x1 x3 x4 x5 : Int32) (hF : b_X5_call_132 x1 x3 x4 x5 σ = some res) (ls : Array Slot) (hl : lv_has ls 7 [(0, .ref (q 0)), (1, .int x1), (3, .int x3), (4, .int x4), (5, .int x5)]) : W p l e rm_X5_call s m args below meth c H locs 0 0 (MQ below (Qvw D ty (wM ty q) A res) args s 0 0 A) (F0 m 132 ls []) := by
  unfold b_X5_call_132 at hF
  refine lv_aload_n X.1 X.2.1 dX5_call_132 rfl (lv_at hl 0 rfl) ?_
  refine g_X5_called X hI dX5_call_133 ?_
  refine lv_iload_n X.1 X.2.1 dX5_call_136 rfl (lv_at hl 1 rfl) ?_
  refine lv_aload_n X.1 X.2.1 dX5_call_137 rfl (lv_at hl 0 rfl) ?_
  refine g_X5_time (v := gI σ 3) X hI rfl dX5_call_138 ?_
  obtain ⟨h7, hF⟩ := fb_chk hF
  refine sM_3 X hI h7 dX5_call_141 (fun H locs hI => ?_)
  refine lv_aload_n X.1 X.2.1 dX5_call_142 rfl (lv_at hl 0 rfl) ?_
  refine lv_bipush (v := 8) X.1 X.2.1 dX5_call_143 (by decide) ?_
  refine lv_iconst (v := 4) X.1 X.2.1 dX5_call_145 (by decide) ?_
  refine lv_iload X.1 X.2.1 dX5_call_146 (lv_at hl 4 rfl) ?_
  refine lv_imul X.1 X.2.1 dX5_call_148 ?_
  refine lv_iadd X.1 X.2.1 dX5_call_149 ?_
  refine lv_iload_n X.1 X.2.1 dX5_call_150 rfl (lv_at hl 1 rfl) ?_
  obtain ⟨u8, h9, hF⟩ := fb_bnd hF
  refine cl_i (w := wM ty q) (σ := sA σ 3 x1 (gI σ 3)) (rest := []) X fxM hI (m_X5_room l D ty q (sA σ 3 x1 (gI σ 3)) _ (8 + (4 * x5)) x1 h9) ok_X5_room ml_X5_81 ⟨rfl, rfl, Nat.le_of_ble_eq_true rfl, Nat.le_of_ble_eq_true rfl⟩ 0 rc_X5 rfl rfl hl.1 rfl (Nat.le_of_ble_eq_true rfl) ⟨Nat.le_of_ble_eq_true rfl, Nat.le_of_ble_eq_true rfl⟩ dX5_call_151 (fun H locs hI => ?_)
  refine lv_if_ne (tgt := 158) X.1 X.2.1 dX5_call_154 (by decide) (fun c10 => ?_) (fun c10 => ?_)
  · replace hF := fb_neg c10 hF
    refine lv_aload_n X.1 X.2.1 dX5_call_158 rfl (lv_at hl 0 rfl) ?_
    refine g_X5_segment X hI dX5_call_159 ?_
    refine lv_aload_n X.1 X.2.1 dX5_call_162 rfl (lv_at hl 0 rfl) ?_
    refine g_X5_frames (v := gI u8.2 7) X hI rfl dX5_call_163 ?_
    refine lv_iload_n X.1 X.2.1 dX5_call_166 rfl (lv_at hl 1 rfl) ?_
    obtain ⟨h11, hF⟩ := fb_chk hF
    refine sM_4 X hI h11 dX5_call_167 (fun H locs hI => ?_)
    refine lv_aload_n X.1 X.2.1 dX5_call_168 rfl (lv_at hl 0 rfl) ?_
    refine g_X5_place X hI dX5_call_169 ?_
    refine lv_aload_n X.1 X.2.1 dX5_call_172 rfl (lv_at hl 0 rfl) ?_
    refine g_X5_frames (v := gI u8.2 7) X hI rfl dX5_call_173 ?_
    refine lv_iload X.1 X.2.1 dX5_call_176 (lv_at hl 3 rfl) ?_
    refine lv_iconst (v := 1) X.1 X.2.1 dX5_call_178 (by decide) ?_
    refine lv_iadd X.1 X.2.1 dX5_call_179 ?_
    obtain ⟨h12, hF⟩ := fb_chk hF
    refine sM_5 X hI h12 dX5_call_180 (fun H locs hI => ?_)
    refine lv_aload_n X.1 X.2.1 dX5_call_181 rfl (lv_at hl 0 rfl) ?_
    refine g_X5_locals X hI dX5_call_182 ?_
    refine lv_aload_n X.1 X.2.1 dX5_call_185 rfl (lv_at hl 0 rfl) ?_
    refine g_X5_frames (v := gI u8.2 7) X hI rfl dX5_call_186 ?_
    refine lv_iload X.1 X.2.1 dX5_call_189 (lv_at hl 4 rfl) ?_
    obtain ⟨h13, hF⟩ := fb_chk hF
    refine sM_6 X hI h13 dX5_call_191 (fun H locs hI => ?_)
    refine lv_aload_n X.1 X.2.1 dX5_call_192 rfl (lv_at hl 0 rfl) ?_
    refine g_X5_below X hI dX5_call_193 ?_
    refine lv_aload_n X.1 X.2.1 dX5_call_196 rfl (lv_at hl 0 rfl) ?_
    refine g_X5_frames (v := gI u8.2 7) X hI rfl dX5_call_197 ?_
    refine lv_aload_n X.1 X.2.1 dX5_call_200 rfl (lv_at hl 0 rfl) ?_
    refine g_X5_numbers (v := gI u8.2 8) X hI rfl dX5_call_201 ?_
    obtain ⟨h14, hF⟩ := fb_chk hF
    refine sM_8 X hI h14 dX5_call_204 (fun H locs hI => ?_)
    refine lv_iconst (v := 0) X.1 X.2.1 dX5_call_205 (by decide) ?_
    refine lv_istore (lv' := [(6, .int 0), (0, .ref (q 0)), (1, .int x1), (3, .int x3), (4, .int x4), (5, .int x5)]) X.1 X.2.1 dX5_call_206 hl (by decide) rfl (fun ls hl => ?_)
    exact w_b_X5_call_208 X hlk hr 7 x3 x5 0 _ _ _ ls hF hI (lv_sub hl [1, 3, 5, 0] rfl)
  · replace hF := fb_pos c10 hF
    exact rt_v X hlk hr hI hF dX5_call_157
def b_X5_call_57 (x1 x3 x4 z0 : Int32) (σ : St) : Option (Int32 × St) :=
  if z0 < 0 then
    some (0, sI σ 1 3)
  else
    if z0 ≤ 6 then
      if inB x1 5 = true then
        if (gA σ 2 x1) = 0 then
          if inB x1 5 = true then
            (f_X5_room (gA σ 1 x1) x1 (sI σ 3 ((gI σ 3) + 1))).bind fun u24 =>
            if u24.1 = 0 then
              some (0, u24.2)
            else
              if inB x1 5 = true then
                (f_X5_grown (sI (sA u24.2 2 x1 (vp_nar .boolean 1)) 5 ((gI u24.2 5) + 1))).bind fun u28 =>
                if inB x1 5 = true then
                  (f_X5_room (8 + (4 * z0)) x1 (sA u28.2 3 x1 (gI u28.2 3))).bind fun u31 =>
                  if u31.1 = 0 then
                    some (0, u31.2)
                  else
                    if inB (gI u31.2 7) 520 = true then
                      if inB (gI u31.2 7) 520 = true then
                        if inB (gI u31.2 7) 520 = true then
                          if inB (gI u31.2 7) 520 = true then
                            b_X5_call_208 7 x3 z0 0 (sA (sA (sA (sA u31.2 4 (gI u31.2 7) x1) 5 (gI u31.2 7) (x4 + 1)) 6 (gI u31.2 7) z0) 8 (gI u31.2 7) (gI u31.2 8))
                          else none
                        else none
                      else none
                    else none
                else none
              else none
          else none
        else
          b_X5_call_132 x1 x3 x4 z0 (sI σ 3 ((gI σ 3) + 1))
      else none
    else
      some (0, sI σ 1 3)
set_option maxHeartbeats 4000000 in
set_option maxRecDepth 100000 in
theorem w_b_X5_call_57 {l : Launch} {p : Program} {e : Env} {s : State} {m : MethodId} {args : Array Value} {below : List Frame} {meth : Method} {c : Code} {A : Nat → Prop} {D : va_G} {ty : Nat → ClassId} {q : Nat → Nat} {res : Int32 × St} (X : CallFix p m c cX5_call 7 s args tb RX5) (hlk : meth.locks = false) (hr : meth.sig.returnType = none) {σ : St} {H : Heap} {locs : List Loc} (hI : Inw D ty FxM (wM ty q σ) A s H locs) (x1 x3 x4 z0 : Int32) (hF : b_X5_call_57 x1 x3 x4 z0 σ = some res) (ls : Array Slot) (hl : lv_has ls 7 [(0, .ref (q 0)), (1, .int x1), (3, .int x3), (4, .int x4)]) : W p l e rm_X5_call s m args below meth c H locs 0 0 (MQ below (Qvw D ty (wM ty q) A res) args s 0 0 A) (F0 m 57 ls [.int z0]) := by
  unfold b_X5_call_57 at hF
  refine lv_istore (lv' := [(5, .int z0), (0, .ref (q 0)), (1, .int x1), (3, .int x3), (4, .int x4)]) X.1 X.2.1 dX5_call_57 hl (by decide) rfl (fun ls hl => ?_)
  refine lv_iload X.1 X.2.1 dX5_call_59 (lv_at hl 0 rfl) ?_
  refine lv_if_lt (tgt := 71) X.1 X.2.1 dX5_call_61 (by decide) (fun c3 => ?_) (fun c3 => ?_)
  · replace hF := fb_pos c3 hF
    refine lv_aload_n X.1 X.2.1 dX5_call_71 rfl (lv_at hl 1 rfl) ?_
    refine lv_iconst (v := 3) X.1 X.2.1 dX5_call_72 (by decide) ?_
    refine p_X5_state X hI dX5_call_73 (fun H locs hI => ?_)
    exact rt_v X hlk hr hI hF dX5_call_76
  · replace hF := fb_neg c3 hF
    refine lv_iload X.1 X.2.1 dX5_call_64 (lv_at hl 0 rfl) ?_
    refine lv_bipush (v := 6) X.1 X.2.1 dX5_call_66 (by decide) ?_
    refine lv_icmp_le (tgt := 77) X.1 X.2.1 dX5_call_68 (by decide) (fun c4 => ?_) (fun c4 => ?_)
    · replace hF := fb_pos c4 hF
      refine lv_aload_n X.1 X.2.1 dX5_call_77 rfl (lv_at hl 1 rfl) ?_
      refine lv_dup X.1 X.2.1 dX5_call_78 rfl ?_
      refine g_X5_time (v := gI σ 3) X hI rfl dX5_call_79 ?_
      refine lv_iconst (v := 1) X.1 X.2.1 dX5_call_82 (by decide) ?_
      refine lv_iadd X.1 X.2.1 dX5_call_83 ?_
      refine p_X5_time X hI dX5_call_84 (fun H locs hI => ?_)
      refine lv_aload_n X.1 X.2.1 dX5_call_87 rfl (lv_at hl 1 rfl) ?_
      refine g_X5_resident X hI dX5_call_88 ?_
      refine lv_iload_n X.1 X.2.1 dX5_call_91 rfl (lv_at hl 2 rfl) ?_
      obtain ⟨h5, hF⟩ := fb_chk hF
      refine aM_2 (v := gA σ 2 x1) X hI rfl h5 dX5_call_92 ?_
      refine lv_if_ne (tgt := 132) X.1 X.2.1 dX5_call_93 (by decide) (fun c6 => ?_) (fun c6 => ?_)
      · replace hF := fb_neg c6 hF
        exact w_b_X5_call_132 X hlk hr hI x1 x3 x4 z0 hF ls (lv_sub hl [1, 2, 3, 4, 0] rfl)
      · replace hF := fb_pos c6 hF
        refine lv_aload_n X.1 X.2.1 dX5_call_96 rfl (lv_at hl 1 rfl) ?_
        refine lv_aload_n X.1 X.2.1 dX5_call_97 rfl (lv_at hl 1 rfl) ?_
        refine g_X5_length X hI dX5_call_98 ?_
        refine lv_iload_n X.1 X.2.1 dX5_call_101 rfl (lv_at hl 2 rfl) ?_
        obtain ⟨h23, hF⟩ := fb_chk hF
        refine aM_1 (v := gA σ 1 x1) X hI rfl h23 dX5_call_102 ?_
        refine lv_iload_n X.1 X.2.1 dX5_call_103 rfl (lv_at hl 2 rfl) ?_
        obtain ⟨u24, h25, hF⟩ := fb_bnd hF
        refine cl_i (w := wM ty q) (σ := sI σ 3 ((gI σ 3) + 1)) (rest := []) X fxM hI (m_X5_room l D ty q (sI σ 3 ((gI σ 3) + 1)) _ (gA σ 1 x1) x1 h25) ok_X5_room ml_X5_81 ⟨rfl, rfl, Nat.le_of_ble_eq_true rfl, Nat.le_of_ble_eq_true rfl⟩ 0 rc_X5 rfl rfl hl.1 rfl (Nat.le_of_ble_eq_true rfl) ⟨Nat.le_of_ble_eq_true rfl, Nat.le_of_ble_eq_true rfl⟩ dX5_call_104 (fun H locs hI => ?_)
        refine lv_if_ne (tgt := 111) X.1 X.2.1 dX5_call_107 (by decide) (fun c26 => ?_) (fun c26 => ?_)
        · replace hF := fb_neg c26 hF
          refine lv_aload_n X.1 X.2.1 dX5_call_111 rfl (lv_at hl 1 rfl) ?_
          refine g_X5_resident X hI dX5_call_112 ?_
          refine lv_iload_n X.1 X.2.1 dX5_call_115 rfl (lv_at hl 2 rfl) ?_
          refine lv_iconst (v := 1) X.1 X.2.1 dX5_call_116 (by decide) ?_
          obtain ⟨h27, hF⟩ := fb_chk hF
          refine sM_2 X hI h27 dX5_call_117 (fun H locs hI => ?_)
          refine lv_aload_n X.1 X.2.1 dX5_call_118 rfl (lv_at hl 1 rfl) ?_
          refine lv_dup X.1 X.2.1 dX5_call_119 rfl ?_
          refine g_X5_loads (v := gI u24.2 5) X hI rfl dX5_call_120 ?_
          refine lv_iconst (v := 1) X.1 X.2.1 dX5_call_123 (by decide) ?_
          refine lv_iadd X.1 X.2.1 dX5_call_124 ?_
          refine p_X5_loads X hI dX5_call_125 (fun H locs hI => ?_)
          refine lv_aload_n X.1 X.2.1 dX5_call_128 rfl (lv_at hl 1 rfl) ?_
          obtain ⟨u28, h29, hF⟩ := fb_bnd hF
          refine cl_v (w := wM ty q) (σ := sI (sA u24.2 2 x1 (vp_nar .boolean 1)) 5 ((gI u24.2 5) + 1)) (rest := []) X fxM hI (m_X5_grown l D ty q (sI (sA u24.2 2 x1 (vp_nar .boolean 1)) 5 ((gI u24.2 5) + 1)) _  h29) ok_X5_grown ml_X5_85 ⟨rfl, rfl, Nat.le_of_ble_eq_true rfl, Nat.le_of_ble_eq_true rfl⟩ 0 rc_X5 rfl rfl hl.1 rfl (Nat.le_of_ble_eq_true rfl) ⟨Nat.le_of_ble_eq_true rfl, Nat.le_of_ble_eq_true rfl⟩ dX5_call_129 (fun H locs hI => ?_)
          refine lv_aload_n X.1 X.2.1 dX5_call_132 rfl (lv_at hl 1 rfl) ?_
          refine g_X5_called X hI dX5_call_133 ?_
          refine lv_iload_n X.1 X.2.1 dX5_call_136 rfl (lv_at hl 2 rfl) ?_
          refine lv_aload_n X.1 X.2.1 dX5_call_137 rfl (lv_at hl 1 rfl) ?_
          refine g_X5_time (v := gI u28.2 3) X hI rfl dX5_call_138 ?_
          obtain ⟨h30, hF⟩ := fb_chk hF
          refine sM_3 X hI h30 dX5_call_141 (fun H locs hI => ?_)
          refine lv_aload_n X.1 X.2.1 dX5_call_142 rfl (lv_at hl 1 rfl) ?_
          refine lv_bipush (v := 8) X.1 X.2.1 dX5_call_143 (by decide) ?_
          refine lv_iconst (v := 4) X.1 X.2.1 dX5_call_145 (by decide) ?_
          refine lv_iload X.1 X.2.1 dX5_call_146 (lv_at hl 0 rfl) ?_
          refine lv_imul X.1 X.2.1 dX5_call_148 ?_
          refine lv_iadd X.1 X.2.1 dX5_call_149 ?_
          refine lv_iload_n X.1 X.2.1 dX5_call_150 rfl (lv_at hl 2 rfl) ?_
          obtain ⟨u31, h32, hF⟩ := fb_bnd hF
          refine cl_i (w := wM ty q) (σ := sA u28.2 3 x1 (gI u28.2 3)) (rest := []) X fxM hI (m_X5_room l D ty q (sA u28.2 3 x1 (gI u28.2 3)) _ (8 + (4 * z0)) x1 h32) ok_X5_room ml_X5_81 ⟨rfl, rfl, Nat.le_of_ble_eq_true rfl, Nat.le_of_ble_eq_true rfl⟩ 0 rc_X5 rfl rfl hl.1 rfl (Nat.le_of_ble_eq_true rfl) ⟨Nat.le_of_ble_eq_true rfl, Nat.le_of_ble_eq_true rfl⟩ dX5_call_151 (fun H locs hI => ?_)
          refine lv_if_ne (tgt := 158) X.1 X.2.1 dX5_call_154 (by decide) (fun c33 => ?_) (fun c33 => ?_)
          · replace hF := fb_neg c33 hF
            refine lv_aload_n X.1 X.2.1 dX5_call_158 rfl (lv_at hl 1 rfl) ?_
            refine g_X5_segment X hI dX5_call_159 ?_
            refine lv_aload_n X.1 X.2.1 dX5_call_162 rfl (lv_at hl 1 rfl) ?_
            refine g_X5_frames (v := gI u31.2 7) X hI rfl dX5_call_163 ?_
            refine lv_iload_n X.1 X.2.1 dX5_call_166 rfl (lv_at hl 2 rfl) ?_
            obtain ⟨h34, hF⟩ := fb_chk hF
            refine sM_4 X hI h34 dX5_call_167 (fun H locs hI => ?_)
            refine lv_aload_n X.1 X.2.1 dX5_call_168 rfl (lv_at hl 1 rfl) ?_
            refine g_X5_place X hI dX5_call_169 ?_
            refine lv_aload_n X.1 X.2.1 dX5_call_172 rfl (lv_at hl 1 rfl) ?_
            refine g_X5_frames (v := gI u31.2 7) X hI rfl dX5_call_173 ?_
            refine lv_iload X.1 X.2.1 dX5_call_176 (lv_at hl 4 rfl) ?_
            refine lv_iconst (v := 1) X.1 X.2.1 dX5_call_178 (by decide) ?_
            refine lv_iadd X.1 X.2.1 dX5_call_179 ?_
            obtain ⟨h35, hF⟩ := fb_chk hF
            refine sM_5 X hI h35 dX5_call_180 (fun H locs hI => ?_)
            refine lv_aload_n X.1 X.2.1 dX5_call_181 rfl (lv_at hl 1 rfl) ?_
            refine g_X5_locals X hI dX5_call_182 ?_
            refine lv_aload_n X.1 X.2.1 dX5_call_185 rfl (lv_at hl 1 rfl) ?_
            refine g_X5_frames (v := gI u31.2 7) X hI rfl dX5_call_186 ?_
            refine lv_iload X.1 X.2.1 dX5_call_189 (lv_at hl 0 rfl) ?_
            obtain ⟨h36, hF⟩ := fb_chk hF
            refine sM_6 X hI h36 dX5_call_191 (fun H locs hI => ?_)
            refine lv_aload_n X.1 X.2.1 dX5_call_192 rfl (lv_at hl 1 rfl) ?_
            refine g_X5_below X hI dX5_call_193 ?_
            refine lv_aload_n X.1 X.2.1 dX5_call_196 rfl (lv_at hl 1 rfl) ?_
            refine g_X5_frames (v := gI u31.2 7) X hI rfl dX5_call_197 ?_
            refine lv_aload_n X.1 X.2.1 dX5_call_200 rfl (lv_at hl 1 rfl) ?_
            refine g_X5_numbers (v := gI u31.2 8) X hI rfl dX5_call_201 ?_
            obtain ⟨h37, hF⟩ := fb_chk hF
            refine sM_8 X hI h37 dX5_call_204 (fun H locs hI => ?_)
            refine lv_iconst (v := 0) X.1 X.2.1 dX5_call_205 (by decide) ?_
            refine lv_istore (lv' := [(6, .int 0), (5, .int z0), (0, .ref (q 0)), (1, .int x1), (3, .int x3), (4, .int x4)]) X.1 X.2.1 dX5_call_206 hl (by decide) rfl (fun ls hl => ?_)
            exact w_b_X5_call_208 X hlk hr 7 x3 z0 0 _ _ _ ls hF hI (lv_sub hl [2, 4, 1, 0] rfl)
          · replace hF := fb_pos c33 hF
            exact rt_v X hlk hr hI hF dX5_call_157
        · replace hF := fb_pos c26 hF
          exact rt_v X hlk hr hI hF dX5_call_110
    · replace hF := fb_neg c4 hF
      refine lv_aload_n X.1 X.2.1 dX5_call_71 rfl (lv_at hl 1 rfl) ?_
      refine lv_iconst (v := 3) X.1 X.2.1 dX5_call_72 (by decide) ?_
      refine p_X5_state X hI dX5_call_73 (fun H locs hI => ?_)
      exact rt_v X hlk hr hI hF dX5_call_76
def b_X5_call_34 (x1 x3 z0 : Int32) (σ : St) : Option (Int32 × St) :=
  if z0 ≤ 0 then
    b_X5_call_57 x1 x3 z0 (-1) σ
  else
    if inB ((80 * x1) + z0) 400 = true then
      b_X5_call_57 x1 x3 z0 (gA σ 0 ((80 * x1) + z0)) σ
    else none
set_option maxHeartbeats 4000000 in
set_option maxRecDepth 100000 in
theorem w_b_X5_call_34 {l : Launch} {p : Program} {e : Env} {s : State} {m : MethodId} {args : Array Value} {below : List Frame} {meth : Method} {c : Code} {A : Nat → Prop} {D : va_G} {ty : Nat → ClassId} {q : Nat → Nat} {res : Int32 × St} (X : CallFix p m c cX5_call 7 s args tb RX5) (hlk : meth.locks = false) (hr : meth.sig.returnType = none) {σ : St} {H : Heap} {locs : List Loc} (hI : Inw D ty FxM (wM ty q σ) A s H locs) (x1 x3 z0 : Int32) (hF : b_X5_call_34 x1 x3 z0 σ = some res) (ls : Array Slot) (hl : lv_has ls 7 [(0, .ref (q 0)), (1, .int x1), (3, .int x3)]) : W p l e rm_X5_call s m args below meth c H locs 0 0 (MQ below (Qvw D ty (wM ty q) A res) args s 0 0 A) (F0 m 34 ls [.int z0]) := by
  unfold b_X5_call_34 at hF
  refine lv_istore (lv' := [(4, .int z0), (0, .ref (q 0)), (1, .int x1), (3, .int x3)]) X.1 X.2.1 dX5_call_34 hl (by decide) rfl (fun ls hl => ?_)
  refine lv_iload X.1 X.2.1 dX5_call_36 (lv_at hl 0 rfl) ?_
  refine lv_if_le (tgt := 56) X.1 X.2.1 dX5_call_38 (by decide) (fun c2 => ?_) (fun c2 => ?_)
  · replace hF := fb_pos c2 hF
    refine lv_iconst (v := (-1)) X.1 X.2.1 dX5_call_56 (by decide) ?_
    exact w_b_X5_call_57 X hlk hr hI x1 x3 z0 (-1) hF ls (lv_sub hl [1, 2, 3, 0] rfl)
  · replace hF := fb_neg c2 hF
    refine lv_aload_n X.1 X.2.1 dX5_call_41 rfl (lv_at hl 1 rfl) ?_
    refine g_X5_disk X hI dX5_call_42 ?_
    refine lv_bipush (v := 80) X.1 X.2.1 dX5_call_45 (by decide) ?_
    refine lv_iload_n X.1 X.2.1 dX5_call_47 rfl (lv_at hl 2 rfl) ?_
    refine lv_imul X.1 X.2.1 dX5_call_48 ?_
    refine lv_iload X.1 X.2.1 dX5_call_49 (lv_at hl 0 rfl) ?_
    refine lv_iadd X.1 X.2.1 dX5_call_51 ?_
    obtain ⟨h38, hF⟩ := fb_chk hF
    refine aM_0 (v := gA σ 0 ((80 * x1) + z0)) X hI rfl h38 dX5_call_52 ?_
    refine lv_goto (tgt := 57) X.1 X.2.1 dX5_call_53 (by decide) ?_
    exact w_b_X5_call_57 X hlk hr hI x1 x3 z0 (gA σ 0 ((80 * x1) + z0)) hF ls (lv_sub hl [1, 2, 3, 0] rfl)
def b_X5_call_33 (x1 x3 : Int32) (σ : St) : Option (Int32 × St) :=
  b_X5_call_34 x1 x3 0 σ
set_option maxHeartbeats 4000000 in
set_option maxRecDepth 100000 in
theorem w_b_X5_call_33 {l : Launch} {p : Program} {e : Env} {s : State} {m : MethodId} {args : Array Value} {below : List Frame} {meth : Method} {c : Code} {A : Nat → Prop} {D : va_G} {ty : Nat → ClassId} {q : Nat → Nat} {res : Int32 × St} (X : CallFix p m c cX5_call 7 s args tb RX5) (hlk : meth.locks = false) (hr : meth.sig.returnType = none) {σ : St} {H : Heap} {locs : List Loc} (hI : Inw D ty FxM (wM ty q σ) A s H locs) (x1 x3 : Int32) (hF : b_X5_call_33 x1 x3 σ = some res) (ls : Array Slot) (hl : lv_has ls 7 [(0, .ref (q 0)), (1, .int x1), (3, .int x3)]) : W p l e rm_X5_call s m args below meth c H locs 0 0 (MQ below (Qvw D ty (wM ty q) A res) args s 0 0 A) (F0 m 33 ls []) := by
  unfold b_X5_call_33 at hF
  refine lv_iconst (v := 0) X.1 X.2.1 dX5_call_33 (by decide) ?_
  exact w_b_X5_call_34 X hlk hr hI x1 x3 0 hF ls (lv_sub hl [0, 1, 2] rfl)
def f_X5_call (x1 x2 x3 : Int32) (σ : St) : Option (Int32 × St) :=
  if x2 < 0 then
    b_X5_call_33 x1 x3 σ
  else
    (f_X5_procedures x1 σ).bind fun u39 =>
    if u39 ≤ x2 then
      b_X5_call_33 x1 x3 σ
    else
      if inB (((80 * x1) + 1) + x2) 400 = true then
        b_X5_call_34 x1 x3 ((gA σ 0 (((80 * x1) + 1) + x2)) &&& 255) σ
      else none
set_option maxHeartbeats 4000000 in
set_option maxRecDepth 100000 in
theorem m_X5_call (l : Launch) (D : va_G) (ty : Nat → ClassId) (q : Nat → Nat) (σ : St) (sz : Nat) (x1 x2 x3 : Int32) {res : Int32 × St} (hF : f_X5_call x1 x2 x3 σ = some res) : Met l yX5_call (wsy yX5_call cX5_call 7 none) rm_X5_call (Pcw D ty FxM (wM ty q σ) sz [.ref (q 0), .int x1, .int x2, .int x3]) (Qvw D ty (wM ty q) (va_A (wM ty q σ) sz) res) 0 0 (va_A (wM ty q σ) sz) := by
  refine en_w (Qc := fun A => Qvw D ty (wM ty q) A res) (by decide) (Nat.le_of_ble_eq_true rfl) ?_
  intro p e s m args below meth c A X hlk hr _ H locs hI ls hl
  have X : CallFix p m c cX5_call 7 s args tb RX5 := X
  have hl : lv_has ls 7 [(0, .ref (q 0)), (1, .int x1), (2, .int x2), (3, .int x3)] := hl
  unfold f_X5_call at hF
  refine lv_iload_n X.1 X.2.1 dX5_call_0 rfl (lv_at hl 2 rfl) ?_
  refine lv_if_lt (tgt := 33) X.1 X.2.1 dX5_call_1 (by decide) (fun c1 => ?_) (fun c1 => ?_)
  · replace hF := fb_pos c1 hF
    exact w_b_X5_call_33 X hlk hr hI x1 x3 hF ls (lv_sub hl [0, 1, 3] rfl)
  · replace hF := fb_neg c1 hF
    refine lv_iload_n X.1 X.2.1 dX5_call_4 rfl (lv_at hl 2 rfl) ?_
    refine lv_aload_n X.1 X.2.1 dX5_call_5 rfl (lv_at hl 0 rfl) ?_
    refine lv_iload_n X.1 X.2.1 dX5_call_6 rfl (lv_at hl 1 rfl) ?_
    obtain ⟨u39, h40, hF⟩ := fb_bnd hF
    refine cl_i (w := wM ty q) (σ := σ) (rest := [.int x2]) X fxM hI (m_X5_procedures l D ty q σ _ x1 h40) ok_X5_procedures ml_X5_55 ⟨rfl, rfl, Nat.le_of_ble_eq_true rfl, Nat.le_of_ble_eq_true rfl⟩ 0 rc_X5 rfl rfl hl.1 rfl (Nat.le_of_ble_eq_true rfl) ⟨Nat.le_of_ble_eq_true rfl, Nat.le_of_ble_eq_true rfl⟩ dX5_call_7 (fun H locs hI => ?_)
    refine lv_icmp_ge (tgt := 33) X.1 X.2.1 dX5_call_10 (by decide) (fun c41 => ?_) (fun c41 => ?_)
    · replace hF := fb_pos c41 hF
      exact w_b_X5_call_33 X hlk hr hI x1 x3 hF ls (lv_sub hl [0, 1, 3] rfl)
    · replace hF := fb_neg c41 hF
      refine lv_aload_n X.1 X.2.1 dX5_call_13 rfl (lv_at hl 0 rfl) ?_
      refine g_X5_disk X hI dX5_call_14 ?_
      refine lv_bipush (v := 80) X.1 X.2.1 dX5_call_17 (by decide) ?_
      refine lv_iload_n X.1 X.2.1 dX5_call_19 rfl (lv_at hl 1 rfl) ?_
      refine lv_imul X.1 X.2.1 dX5_call_20 ?_
      refine lv_iconst (v := 1) X.1 X.2.1 dX5_call_21 (by decide) ?_
      refine lv_iadd X.1 X.2.1 dX5_call_22 ?_
      refine lv_iload_n X.1 X.2.1 dX5_call_23 rfl (lv_at hl 2 rfl) ?_
      refine lv_iadd X.1 X.2.1 dX5_call_24 ?_
      obtain ⟨h42, hF⟩ := fb_chk hF
      refine aM_0 (v := gA σ 0 (((80 * x1) + 1) + x2)) X hI rfl h42 dX5_call_25 ?_
      refine lv_sipush (v := 255) X.1 X.2.1 dX5_call_26 (by decide) ?_
      refine lv_iand X.1 X.2.1 dX5_call_29 ?_
      refine lv_goto (tgt := 34) X.1 X.2.1 dX5_call_30 (by decide) ?_
      exact w_b_X5_call_34 X hlk hr hI x1 x3 ((gA σ 0 (((80 * x1) + 1) + x2)) &&& 255) hF ls (lv_sub hl [0, 1, 3] rfl)
abbrev rm_X5_start : Room := { frames := 3, cells := 0, slots := 0, locals := 74 }
def b_X5_start_100 : Nat → Int32 → Int32 → Int32 → St → Option (Int32 × St)
  | 0, _, _, _, _ => none
  | n + 1, x1, x2, x4, σ =>
    if 5 ≤ x4 then
      (f_X5_call x1 0 x2 σ).bind fun u6 =>
      some (0, u6.2)
    else
      if inB x4 5 = true then
        if inB x4 5 = true then
          b_X5_start_100 n x1 x2 (x4 + 1) (sA (sA σ 2 x4 (vp_nar .boolean 0)) 3 x4 0)
        else none
      else none
set_option maxHeartbeats 4000000 in
set_option maxRecDepth 100000 in
theorem w_b_X5_start_100 {l : Launch} {p : Program} {e : Env} {s : State} {m : MethodId} {args : Array Value} {below : List Frame} {meth : Method} {c : Code} {A : Nat → Prop} {D : va_G} {ty : Nat → ClassId} {q : Nat → Nat} {res : Int32 × St} (X : CallFix p m c cX5_start 5 s args tb RX5) (hlk : meth.locks = false) (hr : meth.sig.returnType = none) : ∀ (n : Nat) (x1 x2 x4 : Int32) (σ : St) (H : Heap) (locs : List Loc) (ls : Array Slot), b_X5_start_100 n x1 x2 x4 σ = some res → Inw D ty FxM (wM ty q σ) A s H locs → lv_has ls 5 [(0, .ref (q 0)), (1, .int x1), (2, .int x2), (4, .int x4)] → W p l e rm_X5_start s m args below meth c H locs 0 0 (MQ below (Qvw D ty (wM ty q) A res) args s 0 0 A) (F0 m 100 ls []) := by
  intro n
  induction n with
  | zero =>
    intro x1 x2 x4 σ H locs ls hF
    cases hF
  | succ n ih =>
    intro x1 x2 x4 σ H locs ls hF hI hl
    rw [b_X5_start_100] at hF
    refine lv_iload X.1 X.2.1 dX5_start_100 (lv_at hl 3 rfl) ?_
    refine lv_iconst (v := 5) X.1 X.2.1 dX5_start_102 (by decide) ?_
    refine lv_icmp_ge (tgt := 128) X.1 X.2.1 dX5_start_103 (by decide) (fun c5 => ?_) (fun c5 => ?_)
    · replace hF := fb_pos c5 hF
      refine lv_aload_n X.1 X.2.1 dX5_start_128 rfl (lv_at hl 0 rfl) ?_
      refine lv_iload_n X.1 X.2.1 dX5_start_129 rfl (lv_at hl 1 rfl) ?_
      refine lv_iconst (v := 0) X.1 X.2.1 dX5_start_130 (by decide) ?_
      refine lv_iload_n X.1 X.2.1 dX5_start_131 rfl (lv_at hl 2 rfl) ?_
      obtain ⟨u6, h7, hF⟩ := fb_bnd hF
      refine cl_v (w := wM ty q) (σ := σ) (rest := []) X fxM hI (m_X5_call l D ty q σ _ x1 0 x2 h7) ok_X5_call ml_X5_100 ⟨rfl, rfl, Nat.le_of_ble_eq_true rfl, Nat.le_of_ble_eq_true rfl⟩ 0 rc_X5 rfl rfl hl.1 rfl (Nat.le_of_ble_eq_true rfl) ⟨Nat.le_of_ble_eq_true rfl, Nat.le_of_ble_eq_true rfl⟩ dX5_start_132 (fun H locs hI => ?_)
      exact rt_v X hlk hr hI hF dX5_start_135
    · replace hF := fb_neg c5 hF
      refine lv_aload_n X.1 X.2.1 dX5_start_106 rfl (lv_at hl 0 rfl) ?_
      refine g_X5_resident X hI dX5_start_107 ?_
      refine lv_iload X.1 X.2.1 dX5_start_110 (lv_at hl 3 rfl) ?_
      refine lv_iconst (v := 0) X.1 X.2.1 dX5_start_112 (by decide) ?_
      obtain ⟨h8, hF⟩ := fb_chk hF
      refine sM_2 X hI h8 dX5_start_113 (fun H locs hI => ?_)
      refine lv_aload_n X.1 X.2.1 dX5_start_114 rfl (lv_at hl 0 rfl) ?_
      refine g_X5_called X hI dX5_start_115 ?_
      refine lv_iload X.1 X.2.1 dX5_start_118 (lv_at hl 3 rfl) ?_
      refine lv_iconst (v := 0) X.1 X.2.1 dX5_start_120 (by decide) ?_
      obtain ⟨h9, hF⟩ := fb_chk hF
      refine sM_3 X hI h9 dX5_start_121 (fun H locs hI => ?_)
      refine lv_iinc (v := x4 + 1) (lv' := [(4, .int (x4 + 1)), (0, .ref (q 0)), (1, .int x1), (2, .int x2)]) X.1 X.2.1 dX5_start_122 hl (k := 3) rfl rfl (by decide) rfl (fun ls hl => ?_)
      refine lv_goto (tgt := 100) X.1 X.2.1 dX5_start_125 (by decide) ?_
      exact ih x1 x2 (x4 + 1) _ _ _ ls hF hI (lv_sub hl [1, 2, 3, 0] rfl)
def b_X5_start_36 (x1 x2 x3 z0 : Int32) (σ : St) : Option (Int32 × St) :=
  if z0 ≤ 0 then
    b_X5_start_100 6 x1 x2 0 (sI (sI (sI (sI (sI (sI (sI (sI (sI (sI (sI σ 0 z0) 1 1) 2 x3) 3 0) 4 0) 5 0) 6 0) 7 0) 8 0) 9 0) 10 0)
  else
    some (0, sI σ 0 z0)
set_option maxHeartbeats 4000000 in
set_option maxRecDepth 100000 in
theorem w_b_X5_start_36 {l : Launch} {p : Program} {e : Env} {s : State} {m : MethodId} {args : Array Value} {below : List Frame} {meth : Method} {c : Code} {A : Nat → Prop} {D : va_G} {ty : Nat → ClassId} {q : Nat → Nat} {res : Int32 × St} (X : CallFix p m c cX5_start 5 s args tb RX5) (hlk : meth.locks = false) (hr : meth.sig.returnType = none) {σ : St} {H : Heap} {locs : List Loc} (hI : Inw D ty FxM (wM ty q σ) A s H locs) (x1 x2 x3 z0 : Int32) (hF : b_X5_start_36 x1 x2 x3 z0 σ = some res) (ls : Array Slot) (hl : lv_has ls 5 [(0, .ref (q 0)), (1, .int x1), (2, .int x2), (3, .int x3)]) : W p l e rm_X5_start s m args below meth c H locs 0 0 (MQ below (Qvw D ty (wM ty q) A res) args s 0 0 A) (F0 m 36 ls [.int z0, .ref (q 0)]) := by
  unfold b_X5_start_36 at hF
  refine p_X5_code X hI dX5_start_36 (fun H locs hI => ?_)
  refine lv_aload_n X.1 X.2.1 dX5_start_39 rfl (lv_at hl 0 rfl) ?_
  refine g_X5_code (v := z0) X hI rfl dX5_start_40 ?_
  refine lv_if_le (tgt := 47) X.1 X.2.1 dX5_start_43 (by decide) (fun c4 => ?_) (fun c4 => ?_)
  · replace hF := fb_pos c4 hF
    refine lv_aload_n X.1 X.2.1 dX5_start_47 rfl (lv_at hl 0 rfl) ?_
    refine lv_iconst (v := 1) X.1 X.2.1 dX5_start_48 (by decide) ?_
    refine p_X5_state X hI dX5_start_49 (fun H locs hI => ?_)
    refine lv_aload_n X.1 X.2.1 dX5_start_52 rfl (lv_at hl 0 rfl) ?_
    refine lv_iload_n X.1 X.2.1 dX5_start_53 rfl (lv_at hl 3 rfl) ?_
    refine p_X5_limit X hI dX5_start_54 (fun H locs hI => ?_)
    refine lv_aload_n X.1 X.2.1 dX5_start_57 rfl (lv_at hl 0 rfl) ?_
    refine lv_iconst (v := 0) X.1 X.2.1 dX5_start_58 (by decide) ?_
    refine p_X5_time X hI dX5_start_59 (fun H locs hI => ?_)
    refine lv_aload_n X.1 X.2.1 dX5_start_62 rfl (lv_at hl 0 rfl) ?_
    refine lv_iconst (v := 0) X.1 X.2.1 dX5_start_63 (by decide) ?_
    refine p_X5_most X hI dX5_start_64 (fun H locs hI => ?_)
    refine lv_aload_n X.1 X.2.1 dX5_start_67 rfl (lv_at hl 0 rfl) ?_
    refine lv_iconst (v := 0) X.1 X.2.1 dX5_start_68 (by decide) ?_
    refine p_X5_loads X hI dX5_start_69 (fun H locs hI => ?_)
    refine lv_aload_n X.1 X.2.1 dX5_start_72 rfl (lv_at hl 0 rfl) ?_
    refine lv_iconst (v := 0) X.1 X.2.1 dX5_start_73 (by decide) ?_
    refine p_X5_gone X hI dX5_start_74 (fun H locs hI => ?_)
    refine lv_aload_n X.1 X.2.1 dX5_start_77 rfl (lv_at hl 0 rfl) ?_
    refine lv_iconst (v := 0) X.1 X.2.1 dX5_start_78 (by decide) ?_
    refine p_X5_frames X hI dX5_start_79 (fun H locs hI => ?_)
    refine lv_aload_n X.1 X.2.1 dX5_start_82 rfl (lv_at hl 0 rfl) ?_
    refine lv_iconst (v := 0) X.1 X.2.1 dX5_start_83 (by decide) ?_
    refine p_X5_numbers X hI dX5_start_84 (fun H locs hI => ?_)
    refine lv_aload_n X.1 X.2.1 dX5_start_87 rfl (lv_at hl 0 rfl) ?_
    refine lv_iconst (v := 0) X.1 X.2.1 dX5_start_88 (by decide) ?_
    refine p_X5_result X hI dX5_start_89 (fun H locs hI => ?_)
    refine lv_aload_n X.1 X.2.1 dX5_start_92 rfl (lv_at hl 0 rfl) ?_
    refine lv_iconst (v := 0) X.1 X.2.1 dX5_start_93 (by decide) ?_
    refine p_X5_puts X hI dX5_start_94 (fun H locs hI => ?_)
    refine lv_iconst (v := 0) X.1 X.2.1 dX5_start_97 (by decide) ?_
    refine lv_istore (lv' := [(4, .int 0), (0, .ref (q 0)), (1, .int x1), (2, .int x2), (3, .int x3)]) X.1 X.2.1 dX5_start_98 hl (by decide) rfl (fun ls hl => ?_)
    exact w_b_X5_start_100 X hlk hr 6 x1 x2 0 _ _ _ ls hF hI (lv_sub hl [1, 2, 3, 0] rfl)
  · replace hF := fb_neg c4 hF
    exact rt_v X hlk hr hI hF dX5_start_46
def b_X5_start_19 (x1 x2 x3 : Int32) (σ : St) : Option (Int32 × St) :=
  b_X5_start_36 x1 x2 x3 1 σ
set_option maxHeartbeats 4000000 in
set_option maxRecDepth 100000 in
theorem w_b_X5_start_19 {l : Launch} {p : Program} {e : Env} {s : State} {m : MethodId} {args : Array Value} {below : List Frame} {meth : Method} {c : Code} {A : Nat → Prop} {D : va_G} {ty : Nat → ClassId} {q : Nat → Nat} {res : Int32 × St} (X : CallFix p m c cX5_start 5 s args tb RX5) (hlk : meth.locks = false) (hr : meth.sig.returnType = none) {σ : St} {H : Heap} {locs : List Loc} (hI : Inw D ty FxM (wM ty q σ) A s H locs) (x1 x2 x3 : Int32) (hF : b_X5_start_19 x1 x2 x3 σ = some res) (ls : Array Slot) (hl : lv_has ls 5 [(0, .ref (q 0)), (1, .int x1), (2, .int x2), (3, .int x3)]) : W p l e rm_X5_start s m args below meth c H locs 0 0 (MQ below (Qvw D ty (wM ty q) A res) args s 0 0 A) (F0 m 19 ls [.ref (q 0)]) := by
  unfold b_X5_start_19 at hF
  refine lv_iconst (v := 1) X.1 X.2.1 dX5_start_19 (by decide) ?_
  refine lv_goto (tgt := 36) X.1 X.2.1 dX5_start_20 (by decide) ?_
  exact w_b_X5_start_36 X hlk hr hI x1 x2 x3 1 hF ls (lv_sub hl [0, 1, 2, 3] rfl)
def f_X5_start (x1 x2 x3 : Int32) (σ : St) : Option (Int32 × St) :=
  (f_X5_isSegment x1 σ).bind fun u1 =>
  if u1 = 0 then
    b_X5_start_19 x1 x2 x3 σ
  else
    if x3 < 0 then
      b_X5_start_19 x1 x2 x3 σ
    else
      if x3 ≤ 4000 then
        (f_X5_procedures x1 σ).bind fun u12 =>
        if u12 = 0 then
          b_X5_start_36 x1 x2 x3 2 σ
        else
          b_X5_start_36 x1 x2 x3 0 σ
      else
        b_X5_start_19 x1 x2 x3 σ
set_option maxHeartbeats 4000000 in
set_option maxRecDepth 100000 in
theorem m_X5_start (l : Launch) (D : va_G) (ty : Nat → ClassId) (q : Nat → Nat) (σ : St) (sz : Nat) (x1 x2 x3 : Int32) {res : Int32 × St} (hF : f_X5_start x1 x2 x3 σ = some res) : Met l yX5_start (wsy yX5_start cX5_start 5 none) rm_X5_start (Pcw D ty FxM (wM ty q σ) sz [.ref (q 0), .int x1, .int x2, .int x3]) (Qvw D ty (wM ty q) (va_A (wM ty q σ) sz) res) 0 0 (va_A (wM ty q σ) sz) := by
  refine en_w (Qc := fun A => Qvw D ty (wM ty q) A res) (by decide) (Nat.le_of_ble_eq_true rfl) ?_
  intro p e s m args below meth c A X hlk hr _ H locs hI ls hl
  have X : CallFix p m c cX5_start 5 s args tb RX5 := X
  have hl : lv_has ls 5 [(0, .ref (q 0)), (1, .int x1), (2, .int x2), (3, .int x3)] := hl
  unfold f_X5_start at hF
  refine lv_aload_n X.1 X.2.1 dX5_start_0 rfl (lv_at hl 0 rfl) ?_
  refine lv_iload_n X.1 X.2.1 dX5_start_1 rfl (lv_at hl 1 rfl) ?_
  obtain ⟨u1, h2, hF⟩ := fb_bnd hF
  refine cs_i (w := wM ty q) (σ := σ) (rest := [.ref (q 0)]) X fxM hI (m_X5_isSegment l D ty q σ _ x1 h2) ok_X5_isSegment ml_X5_48 ⟨rfl, rfl, Nat.le_of_ble_eq_true rfl, Nat.le_of_ble_eq_true rfl⟩ rfl hl.1 rfl (Nat.le_of_ble_eq_true rfl) ⟨Nat.le_of_ble_eq_true rfl, Nat.le_of_ble_eq_true rfl⟩ dX5_start_2 (fun H locs hI => ?_)
  refine lv_if_eq (tgt := 19) X.1 X.2.1 dX5_start_5 (by decide) (fun c3 => ?_) (fun c3 => ?_)
  · replace hF := fb_pos c3 hF
    exact w_b_X5_start_19 X hlk hr hI x1 x2 x3 hF ls (lv_sub hl [0, 1, 2, 3] rfl)
  · replace hF := fb_neg c3 hF
    refine lv_iload_n X.1 X.2.1 dX5_start_8 rfl (lv_at hl 3 rfl) ?_
    refine lv_if_lt (tgt := 19) X.1 X.2.1 dX5_start_9 (by decide) (fun c10 => ?_) (fun c10 => ?_)
    · replace hF := fb_pos c10 hF
      exact w_b_X5_start_19 X hlk hr hI x1 x2 x3 hF ls (lv_sub hl [0, 1, 2, 3] rfl)
    · replace hF := fb_neg c10 hF
      refine lv_iload_n X.1 X.2.1 dX5_start_12 rfl (lv_at hl 3 rfl) ?_
      refine lv_sipush (v := 4000) X.1 X.2.1 dX5_start_13 (by decide) ?_
      refine lv_icmp_le (tgt := 23) X.1 X.2.1 dX5_start_16 (by decide) (fun c11 => ?_) (fun c11 => ?_)
      · replace hF := fb_pos c11 hF
        refine lv_aload_n X.1 X.2.1 dX5_start_23 rfl (lv_at hl 0 rfl) ?_
        refine lv_iload_n X.1 X.2.1 dX5_start_24 rfl (lv_at hl 1 rfl) ?_
        obtain ⟨u12, h13, hF⟩ := fb_bnd hF
        refine cl_i (w := wM ty q) (σ := σ) (rest := [.ref (q 0)]) X fxM hI (m_X5_procedures l D ty q σ _ x1 h13) ok_X5_procedures ml_X5_55 ⟨rfl, rfl, Nat.le_of_ble_eq_true rfl, Nat.le_of_ble_eq_true rfl⟩ 0 rc_X5 rfl rfl hl.1 rfl (Nat.le_of_ble_eq_true rfl) ⟨Nat.le_of_ble_eq_true rfl, Nat.le_of_ble_eq_true rfl⟩ dX5_start_25 (fun H locs hI => ?_)
        refine lv_if_ne (tgt := 35) X.1 X.2.1 dX5_start_28 (by decide) (fun c14 => ?_) (fun c14 => ?_)
        · replace hF := fb_neg c14 hF
          refine lv_iconst (v := 0) X.1 X.2.1 dX5_start_35 (by decide) ?_
          exact w_b_X5_start_36 X hlk hr hI x1 x2 x3 0 hF ls (lv_sub hl [0, 1, 2, 3] rfl)
        · replace hF := fb_pos c14 hF
          refine lv_iconst (v := 2) X.1 X.2.1 dX5_start_31 (by decide) ?_
          refine lv_goto (tgt := 36) X.1 X.2.1 dX5_start_32 (by decide) ?_
          exact w_b_X5_start_36 X hlk hr hI x1 x2 x3 2 hF ls (lv_sub hl [0, 1, 2, 3] rfl)
      · replace hF := fb_neg c11 hF
        exact w_b_X5_start_19 X hlk hr hI x1 x2 x3 hF ls (lv_sub hl [0, 1, 2, 3] rfl)
abbrev rm_X5_size : Room := { frames := 0, cells := 0, slots := 0, locals := 0 }
def f_X5_size (x0 : Int32) (σ : St) : Option Int32 :=
  if x0 = 10 then
    some 3
  else
    if x0 ≤ 0 then
      if x0 = 8 then
        some 2
      else
        if x0 = 9 then
          some 2
        else
          some 1
    else
      if x0 < 4 then
        some 2
      else
        if x0 = 8 then
          some 2
        else
          if x0 = 9 then
            some 2
          else
            some 1
set_option maxHeartbeats 4000000 in
set_option maxRecDepth 100000 in
theorem m_X5_size (l : Launch) (D : va_G) (ty : Nat → ClassId) (q : Nat → Nat) (σ : St) (sz : Nat) (x0 : Int32) {rr : Int32} (hF : f_X5_size x0 σ = some rr) : Met l yX5_size (wsy yX5_size cX5_size 1 (some .int)) rm_X5_size (Pcw D ty FxM (wM ty q σ) sz [.int x0]) (Qiw D ty (wM ty q) (va_A (wM ty q σ) sz) (rr, σ)) 0 0 (va_A (wM ty q σ) sz) := by
  refine en_w (Qc := fun A => Qiw D ty (wM ty q) A (rr, σ)) (by decide) (Nat.le_of_ble_eq_true rfl) ?_
  intro p e s m args below meth c A X hlk hr _ H locs hI ls hl
  have X : CallFix p m c cX5_size 1 s args tb RX5 := X
  have hl : lv_has ls 1 [(0, .int x0)] := hl
  unfold f_X5_size at hF
  refine lv_iload_n X.1 X.2.1 dX5_size_0 rfl (lv_at hl 0 rfl) ?_
  refine lv_bipush (v := 10) X.1 X.2.1 dX5_size_1 (by decide) ?_
  refine lv_icmp_ne (tgt := 10) X.1 X.2.1 dX5_size_3 (by decide) (fun c1 => ?_) (fun c1 => ?_)
  · replace hF := fb_neg c1 hF
    refine lv_iload_n X.1 X.2.1 dX5_size_10 rfl (lv_at hl 0 rfl) ?_
    refine lv_if_le (tgt := 19) X.1 X.2.1 dX5_size_11 (by decide) (fun c2 => ?_) (fun c2 => ?_)
    · replace hF := fb_pos c2 hF
      refine lv_iload_n X.1 X.2.1 dX5_size_19 rfl (lv_at hl 0 rfl) ?_
      refine lv_bipush (v := 8) X.1 X.2.1 dX5_size_20 (by decide) ?_
      refine lv_icmp_eq (tgt := 31) X.1 X.2.1 dX5_size_22 (by decide) (fun c3 => ?_) (fun c3 => ?_)
      · replace hF := fb_pos c3 hF
        refine lv_iconst (v := 2) X.1 X.2.1 dX5_size_31 (by decide) ?_
        refine lv_goto (tgt := 36) X.1 X.2.1 dX5_size_32 (by decide) ?_
        exact rt_i X hlk hr hI (fb_pr hF) dX5_size_36
      · replace hF := fb_neg c3 hF
        refine lv_iload_n X.1 X.2.1 dX5_size_25 rfl (lv_at hl 0 rfl) ?_
        refine lv_bipush (v := 9) X.1 X.2.1 dX5_size_26 (by decide) ?_
        refine lv_icmp_ne (tgt := 35) X.1 X.2.1 dX5_size_28 (by decide) (fun c4 => ?_) (fun c4 => ?_)
        · replace hF := fb_neg c4 hF
          refine lv_iconst (v := 1) X.1 X.2.1 dX5_size_35 (by decide) ?_
          exact rt_i X hlk hr hI (fb_pr hF) dX5_size_36
        · replace hF := fb_pos c4 hF
          refine lv_iconst (v := 2) X.1 X.2.1 dX5_size_31 (by decide) ?_
          refine lv_goto (tgt := 36) X.1 X.2.1 dX5_size_32 (by decide) ?_
          exact rt_i X hlk hr hI (fb_pr hF) dX5_size_36
    · replace hF := fb_neg c2 hF
      refine lv_iload_n X.1 X.2.1 dX5_size_14 rfl (lv_at hl 0 rfl) ?_
      refine lv_iconst (v := 4) X.1 X.2.1 dX5_size_15 (by decide) ?_
      refine lv_icmp_lt (tgt := 31) X.1 X.2.1 dX5_size_16 (by decide) (fun c5 => ?_) (fun c5 => ?_)
      · replace hF := fb_pos c5 hF
        refine lv_iconst (v := 2) X.1 X.2.1 dX5_size_31 (by decide) ?_
        refine lv_goto (tgt := 36) X.1 X.2.1 dX5_size_32 (by decide) ?_
        exact rt_i X hlk hr hI (fb_pr hF) dX5_size_36
      · replace hF := fb_neg c5 hF
        refine lv_iload_n X.1 X.2.1 dX5_size_19 rfl (lv_at hl 0 rfl) ?_
        refine lv_bipush (v := 8) X.1 X.2.1 dX5_size_20 (by decide) ?_
        refine lv_icmp_eq (tgt := 31) X.1 X.2.1 dX5_size_22 (by decide) (fun c6 => ?_) (fun c6 => ?_)
        · replace hF := fb_pos c6 hF
          refine lv_iconst (v := 2) X.1 X.2.1 dX5_size_31 (by decide) ?_
          refine lv_goto (tgt := 36) X.1 X.2.1 dX5_size_32 (by decide) ?_
          exact rt_i X hlk hr hI (fb_pr hF) dX5_size_36
        · replace hF := fb_neg c6 hF
          refine lv_iload_n X.1 X.2.1 dX5_size_25 rfl (lv_at hl 0 rfl) ?_
          refine lv_bipush (v := 9) X.1 X.2.1 dX5_size_26 (by decide) ?_
          refine lv_icmp_ne (tgt := 35) X.1 X.2.1 dX5_size_28 (by decide) (fun c7 => ?_) (fun c7 => ?_)
          · replace hF := fb_neg c7 hF
            refine lv_iconst (v := 1) X.1 X.2.1 dX5_size_35 (by decide) ?_
            exact rt_i X hlk hr hI (fb_pr hF) dX5_size_36
          · replace hF := fb_pos c7 hF
            refine lv_iconst (v := 2) X.1 X.2.1 dX5_size_31 (by decide) ?_
            refine lv_goto (tgt := 36) X.1 X.2.1 dX5_size_32 (by decide) ?_
            exact rt_i X hlk hr hI (fb_pr hF) dX5_size_36
  · replace hF := fb_pos c1 hF
    refine lv_iconst (v := 3) X.1 X.2.1 dX5_size_6 (by decide) ?_
    refine lv_goto (tgt := 36) X.1 X.2.1 dX5_size_7 (by decide) ?_
    exact rt_i X hlk hr hI (fb_pr hF) dX5_size_36
abbrev rm_X5_takes : Room := { frames := 0, cells := 0, slots := 0, locals := 0 }
def f_X5_takes (x0 : Int32) (σ : St) : Option Int32 :=
  if x0 ≤ 3 then
    if x0 = 3 then
      some 1
    else
      if x0 = 8 then
        some 1
      else
        if x0 ≤ 9 then
          some 0
        else
          some 1
  else
    if 8 ≤ x0 then
      if x0 = 3 then
        some 1
      else
        if x0 = 8 then
          some 1
        else
          if x0 ≤ 9 then
            some 0
          else
            some 1
    else
      some 2
set_option maxHeartbeats 4000000 in
set_option maxRecDepth 100000 in
theorem m_X5_takes (l : Launch) (D : va_G) (ty : Nat → ClassId) (q : Nat → Nat) (σ : St) (sz : Nat) (x0 : Int32) {rr : Int32} (hF : f_X5_takes x0 σ = some rr) : Met l yX5_takes (wsy yX5_takes cX5_takes 1 (some .int)) rm_X5_takes (Pcw D ty FxM (wM ty q σ) sz [.int x0]) (Qiw D ty (wM ty q) (va_A (wM ty q σ) sz) (rr, σ)) 0 0 (va_A (wM ty q σ) sz) := by
  refine en_w (Qc := fun A => Qiw D ty (wM ty q) A (rr, σ)) (by decide) (Nat.le_of_ble_eq_true rfl) ?_
  intro p e s m args below meth c A X hlk hr _ H locs hI ls hl
  have X : CallFix p m c cX5_takes 1 s args tb RX5 := X
  have hl : lv_has ls 1 [(0, .int x0)] := hl
  unfold f_X5_takes at hF
  refine lv_iload_n X.1 X.2.1 dX5_takes_0 rfl (lv_at hl 0 rfl) ?_
  refine lv_iconst (v := 3) X.1 X.2.1 dX5_takes_1 (by decide) ?_
  refine lv_icmp_le (tgt := 15) X.1 X.2.1 dX5_takes_2 (by decide) (fun c1 => ?_) (fun c1 => ?_)
  · replace hF := fb_pos c1 hF
    refine lv_iload_n X.1 X.2.1 dX5_takes_15 rfl (lv_at hl 0 rfl) ?_
    refine lv_iconst (v := 3) X.1 X.2.1 dX5_takes_16 (by decide) ?_
    refine lv_icmp_eq (tgt := 32) X.1 X.2.1 dX5_takes_17 (by decide) (fun c2 => ?_) (fun c2 => ?_)
    · replace hF := fb_pos c2 hF
      refine lv_iconst (v := 1) X.1 X.2.1 dX5_takes_32 (by decide) ?_
      refine lv_goto (tgt := 37) X.1 X.2.1 dX5_takes_33 (by decide) ?_
      exact rt_i X hlk hr hI (fb_pr hF) dX5_takes_37
    · replace hF := fb_neg c2 hF
      refine lv_iload_n X.1 X.2.1 dX5_takes_20 rfl (lv_at hl 0 rfl) ?_
      refine lv_bipush (v := 8) X.1 X.2.1 dX5_takes_21 (by decide) ?_
      refine lv_icmp_eq (tgt := 32) X.1 X.2.1 dX5_takes_23 (by decide) (fun c3 => ?_) (fun c3 => ?_)
      · replace hF := fb_pos c3 hF
        refine lv_iconst (v := 1) X.1 X.2.1 dX5_takes_32 (by decide) ?_
        refine lv_goto (tgt := 37) X.1 X.2.1 dX5_takes_33 (by decide) ?_
        exact rt_i X hlk hr hI (fb_pr hF) dX5_takes_37
      · replace hF := fb_neg c3 hF
        refine lv_iload_n X.1 X.2.1 dX5_takes_26 rfl (lv_at hl 0 rfl) ?_
        refine lv_bipush (v := 9) X.1 X.2.1 dX5_takes_27 (by decide) ?_
        refine lv_icmp_le (tgt := 36) X.1 X.2.1 dX5_takes_29 (by decide) (fun c4 => ?_) (fun c4 => ?_)
        · replace hF := fb_pos c4 hF
          refine lv_iconst (v := 0) X.1 X.2.1 dX5_takes_36 (by decide) ?_
          exact rt_i X hlk hr hI (fb_pr hF) dX5_takes_37
        · replace hF := fb_neg c4 hF
          refine lv_iconst (v := 1) X.1 X.2.1 dX5_takes_32 (by decide) ?_
          refine lv_goto (tgt := 37) X.1 X.2.1 dX5_takes_33 (by decide) ?_
          exact rt_i X hlk hr hI (fb_pr hF) dX5_takes_37
  · replace hF := fb_neg c1 hF
    refine lv_iload_n X.1 X.2.1 dX5_takes_5 rfl (lv_at hl 0 rfl) ?_
    refine lv_bipush (v := 8) X.1 X.2.1 dX5_takes_6 (by decide) ?_
    refine lv_icmp_ge (tgt := 15) X.1 X.2.1 dX5_takes_8 (by decide) (fun c5 => ?_) (fun c5 => ?_)
    · replace hF := fb_pos c5 hF
      refine lv_iload_n X.1 X.2.1 dX5_takes_15 rfl (lv_at hl 0 rfl) ?_
      refine lv_iconst (v := 3) X.1 X.2.1 dX5_takes_16 (by decide) ?_
      refine lv_icmp_eq (tgt := 32) X.1 X.2.1 dX5_takes_17 (by decide) (fun c6 => ?_) (fun c6 => ?_)
      · replace hF := fb_pos c6 hF
        refine lv_iconst (v := 1) X.1 X.2.1 dX5_takes_32 (by decide) ?_
        refine lv_goto (tgt := 37) X.1 X.2.1 dX5_takes_33 (by decide) ?_
        exact rt_i X hlk hr hI (fb_pr hF) dX5_takes_37
      · replace hF := fb_neg c6 hF
        refine lv_iload_n X.1 X.2.1 dX5_takes_20 rfl (lv_at hl 0 rfl) ?_
        refine lv_bipush (v := 8) X.1 X.2.1 dX5_takes_21 (by decide) ?_
        refine lv_icmp_eq (tgt := 32) X.1 X.2.1 dX5_takes_23 (by decide) (fun c7 => ?_) (fun c7 => ?_)
        · replace hF := fb_pos c7 hF
          refine lv_iconst (v := 1) X.1 X.2.1 dX5_takes_32 (by decide) ?_
          refine lv_goto (tgt := 37) X.1 X.2.1 dX5_takes_33 (by decide) ?_
          exact rt_i X hlk hr hI (fb_pr hF) dX5_takes_37
        · replace hF := fb_neg c7 hF
          refine lv_iload_n X.1 X.2.1 dX5_takes_26 rfl (lv_at hl 0 rfl) ?_
          refine lv_bipush (v := 9) X.1 X.2.1 dX5_takes_27 (by decide) ?_
          refine lv_icmp_le (tgt := 36) X.1 X.2.1 dX5_takes_29 (by decide) (fun c8 => ?_) (fun c8 => ?_)
          · replace hF := fb_pos c8 hF
            refine lv_iconst (v := 0) X.1 X.2.1 dX5_takes_36 (by decide) ?_
            exact rt_i X hlk hr hI (fb_pr hF) dX5_takes_37
          · replace hF := fb_neg c8 hF
            refine lv_iconst (v := 1) X.1 X.2.1 dX5_takes_32 (by decide) ?_
            refine lv_goto (tgt := 37) X.1 X.2.1 dX5_takes_33 (by decide) ?_
            exact rt_i X hlk hr hI (fb_pr hF) dX5_takes_37
    · replace hF := fb_neg c5 hF
      refine lv_iconst (v := 2) X.1 X.2.1 dX5_takes_11 (by decide) ?_
      refine lv_goto (tgt := 37) X.1 X.2.1 dX5_takes_12 (by decide) ?_
      exact rt_i X hlk hr hI (fb_pr hF) dX5_takes_37
abbrev rm_X5_pop : Room := { frames := 0, cells := 0, slots := 0, locals := 0 }
def f_X5_pop (σ : St) : Option (Int32 × St) :=
  if inB ((gI σ 8) - 1) 1010 = true then
    some (gA σ 9 ((gI σ 8) - 1), sI σ 8 ((gI σ 8) - 1))
  else none
set_option maxHeartbeats 4000000 in
set_option maxRecDepth 100000 in
theorem m_X5_pop (l : Launch) (D : va_G) (ty : Nat → ClassId) (q : Nat → Nat) (σ : St) (sz : Nat) {res : Int32 × St} (hF : f_X5_pop  σ = some res) : Met l yX5_pop (wsy yX5_pop cX5_pop 1 (some .int)) rm_X5_pop (Pcw D ty FxM (wM ty q σ) sz [.ref (q 0)]) (Qiw D ty (wM ty q) (va_A (wM ty q σ) sz) res) 0 0 (va_A (wM ty q σ) sz) := by
  refine en_w (Qc := fun A => Qiw D ty (wM ty q) A res) (by decide) (Nat.le_of_ble_eq_true rfl) ?_
  intro p e s m args below meth c A X hlk hr _ H locs hI ls hl
  have X : CallFix p m c cX5_pop 1 s args tb RX5 := X
  have hl : lv_has ls 1 [(0, .ref (q 0))] := hl
  unfold f_X5_pop at hF
  refine lv_aload_n X.1 X.2.1 dX5_pop_0 rfl (lv_at hl 0 rfl) ?_
  refine lv_dup X.1 X.2.1 dX5_pop_1 rfl ?_
  refine g_X5_numbers (v := gI σ 8) X hI rfl dX5_pop_2 ?_
  refine lv_iconst (v := 1) X.1 X.2.1 dX5_pop_5 (by decide) ?_
  refine lv_isub X.1 X.2.1 dX5_pop_6 ?_
  refine p_X5_numbers X hI dX5_pop_7 (fun H locs hI => ?_)
  refine lv_aload_n X.1 X.2.1 dX5_pop_10 rfl (lv_at hl 0 rfl) ?_
  refine g_X5_number X hI dX5_pop_11 ?_
  refine lv_aload_n X.1 X.2.1 dX5_pop_14 rfl (lv_at hl 0 rfl) ?_
  refine g_X5_numbers (v := ((gI σ 8) - 1)) X hI rfl dX5_pop_15 ?_
  obtain ⟨h1, hF⟩ := fb_chk hF
  refine aM_9 (v := gA σ 9 ((gI σ 8) - 1)) X hI rfl h1 dX5_pop_18 ?_
  exact rt_i X hlk hr hI hF dX5_pop_19
abbrev rm_X5_back : Room := { frames := 3, cells := 0, slots := 0, locals := 69 }
def f_X5_back (x1 : Int32) (σ : St) : Option (Int32 × St) :=
  if (gI σ 7) = 1 then
    some (0, sI (sI σ 9 x1) 1 2)
  else
    if inB ((gI σ 7) - 1) 520 = true then
      (f_X5_push x1 (sI (sI σ 7 ((gI σ 7) - 1)) 8 (gA σ 8 ((gI σ 7) - 1)))).bind fun u3 =>
      some (0, u3.2)
    else none
set_option maxHeartbeats 4000000 in
set_option maxRecDepth 100000 in
theorem m_X5_back (l : Launch) (D : va_G) (ty : Nat → ClassId) (q : Nat → Nat) (σ : St) (sz : Nat) (x1 : Int32) {res : Int32 × St} (hF : f_X5_back x1 σ = some res) : Met l yX5_back (wsy yX5_back cX5_back 3 none) rm_X5_back (Pcw D ty FxM (wM ty q σ) sz [.ref (q 0), .int x1]) (Qvw D ty (wM ty q) (va_A (wM ty q σ) sz) res) 0 0 (va_A (wM ty q σ) sz) := by
  refine en_w (Qc := fun A => Qvw D ty (wM ty q) A res) (by decide) (Nat.le_of_ble_eq_true rfl) ?_
  intro p e s m args below meth c A X hlk hr _ H locs hI ls hl
  have X : CallFix p m c cX5_back 3 s args tb RX5 := X
  have hl : lv_has ls 3 [(0, .ref (q 0)), (1, .int x1)] := hl
  unfold f_X5_back at hF
  refine lv_aload_n X.1 X.2.1 dX5_back_0 rfl (lv_at hl 0 rfl) ?_
  refine g_X5_frames (v := gI σ 7) X hI rfl dX5_back_1 ?_
  refine lv_iconst (v := 1) X.1 X.2.1 dX5_back_4 (by decide) ?_
  refine lv_icmp_ne (tgt := 19) X.1 X.2.1 dX5_back_5 (by decide) (fun c1 => ?_) (fun c1 => ?_)
  · replace hF := fb_neg c1 hF
    refine lv_aload_n X.1 X.2.1 dX5_back_19 rfl (lv_at hl 0 rfl) ?_
    refine lv_dup X.1 X.2.1 dX5_back_20 rfl ?_
    refine g_X5_frames (v := gI σ 7) X hI rfl dX5_back_21 ?_
    refine lv_iconst (v := 1) X.1 X.2.1 dX5_back_24 (by decide) ?_
    refine lv_isub X.1 X.2.1 dX5_back_25 ?_
    refine p_X5_frames X hI dX5_back_26 (fun H locs hI => ?_)
    refine lv_aload_n X.1 X.2.1 dX5_back_29 rfl (lv_at hl 0 rfl) ?_
    refine lv_aload_n X.1 X.2.1 dX5_back_30 rfl (lv_at hl 0 rfl) ?_
    refine g_X5_below X hI dX5_back_31 ?_
    refine lv_aload_n X.1 X.2.1 dX5_back_34 rfl (lv_at hl 0 rfl) ?_
    refine g_X5_frames (v := ((gI σ 7) - 1)) X hI rfl dX5_back_35 ?_
    obtain ⟨h2, hF⟩ := fb_chk hF
    refine aM_8 (v := gA σ 8 ((gI σ 7) - 1)) X hI rfl h2 dX5_back_38 ?_
    refine p_X5_numbers X hI dX5_back_39 (fun H locs hI => ?_)
    refine lv_aload_n X.1 X.2.1 dX5_back_42 rfl (lv_at hl 0 rfl) ?_
    refine lv_iload_n X.1 X.2.1 dX5_back_43 rfl (lv_at hl 1 rfl) ?_
    obtain ⟨u3, h4, hF⟩ := fb_bnd hF
    refine cl_i (w := wM ty q) (σ := sI (sI σ 7 ((gI σ 7) - 1)) 8 (gA σ 8 ((gI σ 7) - 1))) (rest := []) X fxM hI (m_X5_push l D ty q (sI (sI σ 7 ((gI σ 7) - 1)) 8 (gA σ 8 ((gI σ 7) - 1))) _ x1 h4) ok_X5_push ml_X5_113 ⟨rfl, rfl, Nat.le_of_ble_eq_true rfl, Nat.le_of_ble_eq_true rfl⟩ 0 rc_X5 rfl rfl hl.1 rfl (Nat.le_of_ble_eq_true rfl) ⟨Nat.le_of_ble_eq_true rfl, Nat.le_of_ble_eq_true rfl⟩ dX5_back_44 (fun H locs hI => ?_)
    refine lv_istore_n (lv' := [(2, .int u3.1), (0, .ref (q 0)), (1, .int x1)]) X.1 X.2.1 dX5_back_47 rfl hl (by decide) rfl (fun ls hl => ?_)
    exact rt_v X hlk hr hI hF dX5_back_48
  · replace hF := fb_pos c1 hF
    refine lv_aload_n X.1 X.2.1 dX5_back_8 rfl (lv_at hl 0 rfl) ?_
    refine lv_iload_n X.1 X.2.1 dX5_back_9 rfl (lv_at hl 1 rfl) ?_
    refine p_X5_result X hI dX5_back_10 (fun H locs hI => ?_)
    refine lv_aload_n X.1 X.2.1 dX5_back_13 rfl (lv_at hl 0 rfl) ?_
    refine lv_iconst (v := 2) X.1 X.2.1 dX5_back_14 (by decide) ?_
    refine p_X5_state X hI dX5_back_15 (fun H locs hI => ?_)
    exact rt_v X hlk hr hI hF dX5_back_18
abbrev rm_X5_one : Room := { frames := 4, cells := 0, slots := 0, locals := 91 }
def b_X5_one_384 (x1 x3 z0 : Int32) (σ : St) : Option (Int32 × St) :=
  (f_X5_push z0 σ).bind fun u36 =>
  if u36.1 = 0 then
    if inB x1 520 = true then
      if (gI u36.2 1) ≤ 1 then
        some (0, sA u36.2 5 x1 x3)
      else
        if (gI u36.2 7) ≤ x1 then
          some (0, sA u36.2 5 x1 x3)
        else
          if inB x1 520 = true then
            some (0, sA (sA u36.2 5 x1 x3) 5 x1 x3)
          else none
    else none
  else
    if (gI u36.2 1) ≤ 1 then
      some (0, u36.2)
    else
      if (gI u36.2 7) ≤ x1 then
        some (0, u36.2)
      else
        if inB x1 520 = true then
          some (0, sA u36.2 5 x1 x3)
        else none
set_option maxHeartbeats 4000000 in
set_option maxRecDepth 100000 in
theorem w_b_X5_one_384 {l : Launch} {p : Program} {e : Env} {s : State} {m : MethodId} {args : Array Value} {below : List Frame} {meth : Method} {c : Code} {A : Nat → Prop} {D : va_G} {ty : Nat → ClassId} {q : Nat → Nat} {res : Int32 × St} (X : CallFix p m c cX5_one 10 s args tb RX5) (hlk : meth.locks = false) (hr : meth.sig.returnType = none) {σ : St} {H : Heap} {locs : List Loc} (hI : Inw D ty FxM (wM ty q σ) A s H locs) (x1 x3 z0 : Int32) (hF : b_X5_one_384 x1 x3 z0 σ = some res) (ls : Array Slot) (hl : lv_has ls 10 [(0, .ref (q 0)), (1, .int x1), (3, .int x3)]) : W p l e rm_X5_one s m args below meth c H locs 0 0 (MQ below (Qvw D ty (wM ty q) A res) args s 0 0 A) (F0 m 384 ls [.int z0, .ref (q 0)]) := by
  unfold b_X5_one_384 at hF
  obtain ⟨u36, h37, hF⟩ := fb_bnd hF
  refine cl_i (w := wM ty q) (σ := σ) (rest := []) X fxM hI (m_X5_push l D ty q σ _ z0 h37) ok_X5_push ml_X5_113 ⟨rfl, rfl, Nat.le_of_ble_eq_true rfl, Nat.le_of_ble_eq_true rfl⟩ 0 rc_X5 rfl rfl hl.1 rfl (Nat.le_of_ble_eq_true rfl) ⟨Nat.le_of_ble_eq_true rfl, Nat.le_of_ble_eq_true rfl⟩ dX5_one_384 (fun H locs hI => ?_)
  refine lv_if_ne (tgt := 575) X.1 X.2.1 dX5_one_387 (by decide) (fun c38 => ?_) (fun c38 => ?_)
  · replace hF := fb_neg c38 hF
    refine lv_aload_n X.1 X.2.1 dX5_one_575 rfl (lv_at hl 0 rfl) ?_
    refine g_X5_state (v := gI u36.2 1) X hI rfl dX5_one_576 ?_
    refine lv_iconst (v := 1) X.1 X.2.1 dX5_one_579 (by decide) ?_
    refine lv_icmp_le (tgt := 598) X.1 X.2.1 dX5_one_580 (by decide) (fun c39 => ?_) (fun c39 => ?_)
    · replace hF := fb_pos c39 hF
      exact rt_v X hlk hr hI hF dX5_one_598
    · replace hF := fb_neg c39 hF
      refine lv_aload_n X.1 X.2.1 dX5_one_583 rfl (lv_at hl 0 rfl) ?_
      refine g_X5_frames (v := gI u36.2 7) X hI rfl dX5_one_584 ?_
      refine lv_iload_n X.1 X.2.1 dX5_one_587 rfl (lv_at hl 1 rfl) ?_
      refine lv_icmp_le (tgt := 598) X.1 X.2.1 dX5_one_588 (by decide) (fun c40 => ?_) (fun c40 => ?_)
      · replace hF := fb_pos c40 hF
        exact rt_v X hlk hr hI hF dX5_one_598
      · replace hF := fb_neg c40 hF
        refine lv_aload_n X.1 X.2.1 dX5_one_591 rfl (lv_at hl 0 rfl) ?_
        refine g_X5_place X hI dX5_one_592 ?_
        refine lv_iload_n X.1 X.2.1 dX5_one_595 rfl (lv_at hl 1 rfl) ?_
        refine lv_iload_n X.1 X.2.1 dX5_one_596 rfl (lv_at hl 2 rfl) ?_
        obtain ⟨h41, hF⟩ := fb_chk hF
        refine sM_5 X hI h41 dX5_one_597 (fun H locs hI => ?_)
        exact rt_v X hlk hr hI hF dX5_one_598
  · replace hF := fb_pos c38 hF
    refine lv_aload_n X.1 X.2.1 dX5_one_390 rfl (lv_at hl 0 rfl) ?_
    refine g_X5_place X hI dX5_one_391 ?_
    refine lv_iload_n X.1 X.2.1 dX5_one_394 rfl (lv_at hl 1 rfl) ?_
    refine lv_iload_n X.1 X.2.1 dX5_one_395 rfl (lv_at hl 2 rfl) ?_
    obtain ⟨h42, hF⟩ := fb_chk hF
    refine sM_5 X hI h42 dX5_one_396 (fun H locs hI => ?_)
    refine lv_goto (tgt := 575) X.1 X.2.1 dX5_one_397 (by decide) ?_
    refine lv_aload_n X.1 X.2.1 dX5_one_575 rfl (lv_at hl 0 rfl) ?_
    refine g_X5_state (v := gI u36.2 1) X hI rfl dX5_one_576 ?_
    refine lv_iconst (v := 1) X.1 X.2.1 dX5_one_579 (by decide) ?_
    refine lv_icmp_le (tgt := 598) X.1 X.2.1 dX5_one_580 (by decide) (fun c43 => ?_) (fun c43 => ?_)
    · replace hF := fb_pos c43 hF
      exact rt_v X hlk hr hI hF dX5_one_598
    · replace hF := fb_neg c43 hF
      refine lv_aload_n X.1 X.2.1 dX5_one_583 rfl (lv_at hl 0 rfl) ?_
      refine g_X5_frames (v := gI u36.2 7) X hI rfl dX5_one_584 ?_
      refine lv_iload_n X.1 X.2.1 dX5_one_587 rfl (lv_at hl 1 rfl) ?_
      refine lv_icmp_le (tgt := 598) X.1 X.2.1 dX5_one_588 (by decide) (fun c44 => ?_) (fun c44 => ?_)
      · replace hF := fb_pos c44 hF
        exact rt_v X hlk hr hI hF dX5_one_598
      · replace hF := fb_neg c44 hF
        refine lv_aload_n X.1 X.2.1 dX5_one_591 rfl (lv_at hl 0 rfl) ?_
        refine g_X5_place X hI dX5_one_592 ?_
        refine lv_iload_n X.1 X.2.1 dX5_one_595 rfl (lv_at hl 1 rfl) ?_
        refine lv_iload_n X.1 X.2.1 dX5_one_596 rfl (lv_at hl 2 rfl) ?_
        obtain ⟨h45, hF⟩ := fb_chk hF
        refine sM_5 X hI h45 dX5_one_597 (fun H locs hI => ?_)
        exact rt_v X hlk hr hI hF dX5_one_598
def b_X5_one_435 (x1 x3 z0 z1 z2 : Int32) (σ : St) : Option (Int32 × St) :=
  if inB z2 520 = true then
    if (gI σ 1) ≤ 1 then
      some (0, sA σ 5 z2 (z1 + z0))
    else
      if (gI σ 7) ≤ x1 then
        some (0, sA σ 5 z2 (z1 + z0))
      else
        if inB x1 520 = true then
          some (0, sA (sA σ 5 z2 (z1 + z0)) 5 x1 x3)
        else none
  else none
set_option maxHeartbeats 4000000 in
set_option maxRecDepth 100000 in
theorem w_b_X5_one_435 {l : Launch} {p : Program} {e : Env} {s : State} {m : MethodId} {args : Array Value} {below : List Frame} {meth : Method} {c : Code} {A : Nat → Prop} {D : va_G} {ty : Nat → ClassId} {q : Nat → Nat} {res : Int32 × St} (X : CallFix p m c cX5_one 10 s args tb RX5) (hlk : meth.locks = false) (hr : meth.sig.returnType = none) {σ : St} {H : Heap} {locs : List Loc} (hI : Inw D ty FxM (wM ty q σ) A s H locs) (x1 x3 z0 z1 z2 : Int32) (hF : b_X5_one_435 x1 x3 z0 z1 z2 σ = some res) (ls : Array Slot) (hl : lv_has ls 10 [(0, .ref (q 0)), (1, .int x1), (3, .int x3)]) : W p l e rm_X5_one s m args below meth c H locs 0 0 (MQ below (Qvw D ty (wM ty q) A res) args s 0 0 A) (F0 m 435 ls [.int z0, .int z1, .int z2, .ref (q 6)]) := by
  unfold b_X5_one_435 at hF
  refine lv_iadd X.1 X.2.1 dX5_one_435 ?_
  obtain ⟨h67, hF⟩ := fb_chk hF
  refine sM_5 X hI h67 dX5_one_436 (fun H locs hI => ?_)
  refine lv_goto (tgt := 575) X.1 X.2.1 dX5_one_437 (by decide) ?_
  refine lv_aload_n X.1 X.2.1 dX5_one_575 rfl (lv_at hl 0 rfl) ?_
  refine g_X5_state (v := gI σ 1) X hI rfl dX5_one_576 ?_
  refine lv_iconst (v := 1) X.1 X.2.1 dX5_one_579 (by decide) ?_
  refine lv_icmp_le (tgt := 598) X.1 X.2.1 dX5_one_580 (by decide) (fun c68 => ?_) (fun c68 => ?_)
  · replace hF := fb_pos c68 hF
    exact rt_v X hlk hr hI hF dX5_one_598
  · replace hF := fb_neg c68 hF
    refine lv_aload_n X.1 X.2.1 dX5_one_583 rfl (lv_at hl 0 rfl) ?_
    refine g_X5_frames (v := gI σ 7) X hI rfl dX5_one_584 ?_
    refine lv_iload_n X.1 X.2.1 dX5_one_587 rfl (lv_at hl 1 rfl) ?_
    refine lv_icmp_le (tgt := 598) X.1 X.2.1 dX5_one_588 (by decide) (fun c69 => ?_) (fun c69 => ?_)
    · replace hF := fb_pos c69 hF
      exact rt_v X hlk hr hI hF dX5_one_598
    · replace hF := fb_neg c69 hF
      refine lv_aload_n X.1 X.2.1 dX5_one_591 rfl (lv_at hl 0 rfl) ?_
      refine g_X5_place X hI dX5_one_592 ?_
      refine lv_iload_n X.1 X.2.1 dX5_one_595 rfl (lv_at hl 1 rfl) ?_
      refine lv_iload_n X.1 X.2.1 dX5_one_596 rfl (lv_at hl 2 rfl) ?_
      obtain ⟨h70, hF⟩ := fb_chk hF
      refine sM_5 X hI h70 dX5_one_597 (fun H locs hI => ?_)
      exact rt_v X hlk hr hI hF dX5_one_598
def b_X5_one_567 (x1 x3 z0 : Int32) (σ : St) : Option (Int32 × St) :=
  (f_X5_push z0 σ).bind fun u99 =>
  if (gI u99.2 1) ≤ 1 then
    some (0, u99.2)
  else
    if (gI u99.2 7) ≤ x1 then
      some (0, u99.2)
    else
      if inB x1 520 = true then
        some (0, sA u99.2 5 x1 x3)
      else none
set_option maxHeartbeats 4000000 in
set_option maxRecDepth 100000 in
theorem w_b_X5_one_567 {l : Launch} {p : Program} {e : Env} {s : State} {m : MethodId} {args : Array Value} {below : List Frame} {meth : Method} {c : Code} {A : Nat → Prop} {D : va_G} {ty : Nat → ClassId} {q : Nat → Nat} {res : Int32 × St} (X : CallFix p m c cX5_one 10 s args tb RX5) (hlk : meth.locks = false) (hr : meth.sig.returnType = none) {σ : St} {H : Heap} {locs : List Loc} (hI : Inw D ty FxM (wM ty q σ) A s H locs) (x1 x3 z0 : Int32) (hF : b_X5_one_567 x1 x3 z0 σ = some res) (ls : Array Slot) (hl : lv_has ls 10 [(0, .ref (q 0)), (1, .int x1), (3, .int x3)]) : W p l e rm_X5_one s m args below meth c H locs 0 0 (MQ below (Qvw D ty (wM ty q) A res) args s 0 0 A) (F0 m 567 ls [.int z0, .ref (q 0)]) := by
  unfold b_X5_one_567 at hF
  obtain ⟨u99, h100, hF⟩ := fb_bnd hF
  refine cl_i (w := wM ty q) (σ := σ) (rest := []) X fxM hI (m_X5_push l D ty q σ _ z0 h100) ok_X5_push ml_X5_113 ⟨rfl, rfl, Nat.le_of_ble_eq_true rfl, Nat.le_of_ble_eq_true rfl⟩ 0 rc_X5 rfl rfl hl.1 rfl (Nat.le_of_ble_eq_true rfl) ⟨Nat.le_of_ble_eq_true rfl, Nat.le_of_ble_eq_true rfl⟩ dX5_one_567 (fun H locs hI => ?_)
  refine lv_istore (lv' := [(9, .int u99.1), (0, .ref (q 0)), (1, .int x1), (3, .int x3)]) X.1 X.2.1 dX5_one_570 hl (by decide) rfl (fun ls hl => ?_)
  refine lv_goto (tgt := 575) X.1 X.2.1 dX5_one_572 (by decide) ?_
  refine lv_aload_n X.1 X.2.1 dX5_one_575 rfl (lv_at hl 1 rfl) ?_
  refine g_X5_state (v := gI u99.2 1) X hI rfl dX5_one_576 ?_
  refine lv_iconst (v := 1) X.1 X.2.1 dX5_one_579 (by decide) ?_
  refine lv_icmp_le (tgt := 598) X.1 X.2.1 dX5_one_580 (by decide) (fun c101 => ?_) (fun c101 => ?_)
  · replace hF := fb_pos c101 hF
    exact rt_v X hlk hr hI hF dX5_one_598
  · replace hF := fb_neg c101 hF
    refine lv_aload_n X.1 X.2.1 dX5_one_583 rfl (lv_at hl 1 rfl) ?_
    refine g_X5_frames (v := gI u99.2 7) X hI rfl dX5_one_584 ?_
    refine lv_iload_n X.1 X.2.1 dX5_one_587 rfl (lv_at hl 2 rfl) ?_
    refine lv_icmp_le (tgt := 598) X.1 X.2.1 dX5_one_588 (by decide) (fun c102 => ?_) (fun c102 => ?_)
    · replace hF := fb_pos c102 hF
      exact rt_v X hlk hr hI hF dX5_one_598
    · replace hF := fb_neg c102 hF
      refine lv_aload_n X.1 X.2.1 dX5_one_591 rfl (lv_at hl 1 rfl) ?_
      refine g_X5_place X hI dX5_one_592 ?_
      refine lv_iload_n X.1 X.2.1 dX5_one_595 rfl (lv_at hl 2 rfl) ?_
      refine lv_iload_n X.1 X.2.1 dX5_one_596 rfl (lv_at hl 3 rfl) ?_
      obtain ⟨h103, hF⟩ := fb_chk hF
      refine sM_5 X hI h103 dX5_one_597 (fun H locs hI => ?_)
      exact rt_v X hlk hr hI hF dX5_one_598
def b_X5_one_270 (x1 x2 x3 x5 x6 x7 z0 : Int32) (σ : St) : Option (Int32 × St) :=
  (f_X5_size x5 σ).bind fun u17 =>
  if inB x1 520 = true then
    if x5 = 0 then
      if (gI σ 7) ≤ x1 then
        some (0, sI (sA σ 5 x1 (x3 + u17)) 1 2)
      else
        if inB x1 520 = true then
          some (0, sA (sI (sA σ 5 x1 (x3 + u17)) 1 2) 5 x1 x3)
        else none
    else
    if x5 = 1 then
      if x5 = 1 then
        b_X5_one_384 x1 x3 x6 (sA σ 5 x1 (x3 + u17))
      else
        if inB ((6 * x1) + x6) 3120 = true then
          (f_X5_push (gA σ 7 ((6 * x1) + x6)) (sA σ 5 x1 (x3 + u17))).bind fun u26 =>
          if u26.1 = 0 then
            if inB x1 520 = true then
              if (gI u26.2 1) ≤ 1 then
                some (0, sA u26.2 5 x1 x3)
              else
                if (gI u26.2 7) ≤ x1 then
                  some (0, sA u26.2 5 x1 x3)
                else
                  if inB x1 520 = true then
                    some (0, sA (sA u26.2 5 x1 x3) 5 x1 x3)
                  else none
            else none
          else
            if (gI u26.2 1) ≤ 1 then
              some (0, u26.2)
            else
              if (gI u26.2 7) ≤ x1 then
                some (0, u26.2)
              else
                if inB x1 520 = true then
                  some (0, sA u26.2 5 x1 x3)
                else none
        else none
    else
    if x5 = 2 then
      if x5 = 1 then
        b_X5_one_384 x1 x3 x6 (sA σ 5 x1 (x3 + u17))
      else
        if inB ((6 * x1) + x6) 3120 = true then
          (f_X5_push (gA σ 7 ((6 * x1) + x6)) (sA σ 5 x1 (x3 + u17))).bind fun u49 =>
          if u49.1 = 0 then
            if inB x1 520 = true then
              if (gI u49.2 1) ≤ 1 then
                some (0, sA u49.2 5 x1 x3)
              else
                if (gI u49.2 7) ≤ x1 then
                  some (0, sA u49.2 5 x1 x3)
                else
                  if inB x1 520 = true then
                    some (0, sA (sA u49.2 5 x1 x3) 5 x1 x3)
                  else none
            else none
          else
            if (gI u49.2 1) ≤ 1 then
              some (0, u49.2)
            else
              if (gI u49.2 7) ≤ x1 then
                some (0, u49.2)
              else
                if inB x1 520 = true then
                  some (0, sA u49.2 5 x1 x3)
                else none
        else none
    else
    if x5 = 3 then
      if inB ((6 * x1) + x6) 3120 = true then
        if (gI σ 1) ≤ 1 then
          some (0, sA (sA σ 5 x1 (x3 + u17)) 7 ((6 * x1) + x6) x7)
        else
          if (gI σ 7) ≤ x1 then
            some (0, sA (sA σ 5 x1 (x3 + u17)) 7 ((6 * x1) + x6) x7)
          else
            if inB x1 520 = true then
              some (0, sA (sA (sA σ 5 x1 (x3 + u17)) 7 ((6 * x1) + x6) x7) 5 x1 x3)
            else none
      else none
    else
    if x5 = 8 then
      if inB x1 520 = true then
        if x7 = 0 then
          b_X5_one_435 x1 x3 x6 (gA (sA σ 5 x1 (x3 + u17)) 5 x1) x1 (sA σ 5 x1 (x3 + u17))
        else
          b_X5_one_435 x1 x3 0 (gA (sA σ 5 x1 (x3 + u17)) 5 x1) x1 (sA σ 5 x1 (x3 + u17))
      else none
    else
    if x5 = 9 then
      if inB x1 520 = true then
        if inB x1 520 = true then
          if (gI σ 1) ≤ 1 then
            some (0, sA (sA σ 5 x1 (x3 + u17)) 5 x1 ((gA (sA σ 5 x1 (x3 + u17)) 5 x1) + x6))
          else
            if (gI σ 7) ≤ x1 then
              some (0, sA (sA σ 5 x1 (x3 + u17)) 5 x1 ((gA (sA σ 5 x1 (x3 + u17)) 5 x1) + x6))
            else
              if inB x1 520 = true then
                some (0, sA (sA (sA σ 5 x1 (x3 + u17)) 5 x1 ((gA (sA σ 5 x1 (x3 + u17)) 5 x1) + x6)) 5 x1 x3)
              else none
        else none
      else none
    else
    if x5 = 10 then
      if inB (((80 * x2) + x3) + 2) 400 = true then
        (f_X5_call x6 (gA σ 0 (((80 * x2) + x3) + 2)) x7 (sA σ 5 x1 (x3 + u17))).bind fun u79 =>
        if (gI u79.2 1) ≤ 1 then
          some (0, u79.2)
        else
          if (gI u79.2 7) ≤ x1 then
            some (0, u79.2)
          else
            if inB x1 520 = true then
              some (0, sA u79.2 5 x1 x3)
            else none
      else none
    else
    if x5 = 11 then
      (f_X5_back x7 (sA σ 5 x1 (x3 + u17))).bind fun u85 =>
      if (gI u85.2 1) ≤ 1 then
        some (0, u85.2)
      else
        if (gI u85.2 7) ≤ x1 then
          some (0, u85.2)
        else
          if inB x1 520 = true then
            some (0, sA u85.2 5 x1 x3)
          else none
    else
    if x5 = 12 then
      if inB (gI σ 10) 40 = true then
        if (gI σ 1) ≤ 1 then
          some (0, sI (sA (sA σ 5 x1 (x3 + u17)) 10 (gI σ 10) x7) 10 ((gI σ 10) + 1))
        else
          if (gI σ 7) ≤ x1 then
            some (0, sI (sA (sA σ 5 x1 (x3 + u17)) 10 (gI σ 10) x7) 10 ((gI σ 10) + 1))
          else
            if inB x1 520 = true then
              some (0, sA (sI (sA (sA σ 5 x1 (x3 + u17)) 10 (gI σ 10) x7) 10 ((gI σ 10) + 1)) 5 x1 x3)
            else none
      else none
    else
    if x5 = 4 then
      b_X5_one_567 x1 x3 (z0 + x7) (sA σ 5 x1 (x3 + u17))
    else
      if x5 = 5 then
        b_X5_one_567 x1 x3 (z0 - x7) (sA σ 5 x1 (x3 + u17))
      else
        if x5 = 7 then
          b_X5_one_567 x1 x3 (z0 * x7) (sA σ 5 x1 (x3 + u17))
        else
          if x7 ≤ z0 then
            b_X5_one_567 x1 x3 0 (sA σ 5 x1 (x3 + u17))
          else
            b_X5_one_567 x1 x3 1 (sA σ 5 x1 (x3 + u17))
  else none
set_option maxHeartbeats 4000000 in
set_option maxRecDepth 100000 in
theorem w_b_X5_one_270 {l : Launch} {p : Program} {e : Env} {s : State} {m : MethodId} {args : Array Value} {below : List Frame} {meth : Method} {c : Code} {A : Nat → Prop} {D : va_G} {ty : Nat → ClassId} {q : Nat → Nat} {res : Int32 × St} (X : CallFix p m c cX5_one 10 s args tb RX5) (hlk : meth.locks = false) (hr : meth.sig.returnType = none) {σ : St} {H : Heap} {locs : List Loc} (hI : Inw D ty FxM (wM ty q σ) A s H locs) (x1 x2 x3 x5 x6 x7 z0 : Int32) (hF : b_X5_one_270 x1 x2 x3 x5 x6 x7 z0 σ = some res) (ls : Array Slot) (hl : lv_has ls 10 [(0, .ref (q 0)), (1, .int x1), (2, .int x2), (3, .int x3), (5, .int x5), (6, .int x6), (7, .int x7)]) : W p l e rm_X5_one s m args below meth c H locs 0 0 (MQ below (Qvw D ty (wM ty q) A res) args s 0 0 A) (F0 m 270 ls [.int z0]) := by
  unfold b_X5_one_270 at hF
  refine lv_istore (lv' := [(8, .int z0), (0, .ref (q 0)), (1, .int x1), (2, .int x2), (3, .int x3), (5, .int x5), (6, .int x6), (7, .int x7)]) X.1 X.2.1 dX5_one_270 hl (by decide) rfl (fun ls hl => ?_)
  refine lv_aload_n X.1 X.2.1 dX5_one_272 rfl (lv_at hl 1 rfl) ?_
  refine g_X5_place X hI dX5_one_273 ?_
  refine lv_iload_n X.1 X.2.1 dX5_one_276 rfl (lv_at hl 2 rfl) ?_
  refine lv_iload_n X.1 X.2.1 dX5_one_277 rfl (lv_at hl 4 rfl) ?_
  refine lv_iload X.1 X.2.1 dX5_one_278 (lv_at hl 5 rfl) ?_
  obtain ⟨u17, h18, hF⟩ := fb_bnd hF
  refine cs_i (w := wM ty q) (σ := σ) (rest := [.int x3, .int x1, .ref (q 6)]) X fxM hI (m_X5_size l D ty q σ _ x5 h18) ok_X5_size ml_X5_104 ⟨rfl, rfl, Nat.le_of_ble_eq_true rfl, Nat.le_of_ble_eq_true rfl⟩ rfl hl.1 rfl (Nat.le_of_ble_eq_true rfl) ⟨Nat.le_of_ble_eq_true rfl, Nat.le_of_ble_eq_true rfl⟩ dX5_one_280 (fun H locs hI => ?_)
  refine lv_iadd X.1 X.2.1 dX5_one_283 ?_
  obtain ⟨h19, hF⟩ := fb_chk hF
  refine sM_5 X hI h19 dX5_one_284 (fun H locs hI => ?_)
  refine lv_iload X.1 X.2.1 dX5_one_285 (lv_at hl 5 rfl) ?_
  by_cases c20 : x5 = 0
  · replace hF := fb_pos c20 hF
    refine lv_tableIn (tgt := 352) X.1 X.2.1 dX5_one_287 (by rw [c20]; decide) (by rw [c20]; decide) (by rw [c20]; rfl) (by decide) ?_
    refine lv_aload_n X.1 X.2.1 dX5_one_352 rfl (lv_at hl 1 rfl) ?_
    refine lv_iconst (v := 2) X.1 X.2.1 dX5_one_353 (by decide) ?_
    refine p_X5_state X hI dX5_one_354 (fun H locs hI => ?_)
    refine lv_goto (tgt := 575) X.1 X.2.1 dX5_one_357 (by decide) ?_
    refine lv_aload_n X.1 X.2.1 dX5_one_575 rfl (lv_at hl 1 rfl) ?_
    refine g_X5_state (v := 2) X hI rfl dX5_one_576 ?_
    refine lv_iconst (v := 1) X.1 X.2.1 dX5_one_579 (by decide) ?_
    refine lv_icmp_le (tgt := 598) X.1 X.2.1 dX5_one_580 (by decide) (fun c => absurd c (by decide)) (fun _ => ?_)
    refine lv_aload_n X.1 X.2.1 dX5_one_583 rfl (lv_at hl 1 rfl) ?_
    refine g_X5_frames (v := gI σ 7) X hI rfl dX5_one_584 ?_
    refine lv_iload_n X.1 X.2.1 dX5_one_587 rfl (lv_at hl 2 rfl) ?_
    refine lv_icmp_le (tgt := 598) X.1 X.2.1 dX5_one_588 (by decide) (fun c21 => ?_) (fun c21 => ?_)
    · replace hF := fb_pos c21 hF
      exact rt_v X hlk hr hI hF dX5_one_598
    · replace hF := fb_neg c21 hF
      refine lv_aload_n X.1 X.2.1 dX5_one_591 rfl (lv_at hl 1 rfl) ?_
      refine g_X5_place X hI dX5_one_592 ?_
      refine lv_iload_n X.1 X.2.1 dX5_one_595 rfl (lv_at hl 2 rfl) ?_
      refine lv_iload_n X.1 X.2.1 dX5_one_596 rfl (lv_at hl 4 rfl) ?_
      obtain ⟨h22, hF⟩ := fb_chk hF
      refine sM_5 X hI h22 dX5_one_597 (fun H locs hI => ?_)
      exact rt_v X hlk hr hI hF dX5_one_598
  replace hF := fb_neg c20 hF
  by_cases c23 : x5 = 1
  · replace hF := fb_pos c23 hF
    refine lv_tableIn (tgt := 360) X.1 X.2.1 dX5_one_287 (by rw [c23]; decide) (by rw [c23]; decide) (by rw [c23]; rfl) (by decide) ?_
    refine lv_aload_n X.1 X.2.1 dX5_one_360 rfl (lv_at hl 1 rfl) ?_
    refine lv_iload X.1 X.2.1 dX5_one_361 (lv_at hl 5 rfl) ?_
    refine lv_iconst (v := 1) X.1 X.2.1 dX5_one_363 (by decide) ?_
    refine lv_icmp_ne (tgt := 372) X.1 X.2.1 dX5_one_364 (by decide) (fun c24 => ?_) (fun c24 => ?_)
    · replace hF := fb_neg c24 hF
      refine lv_aload_n X.1 X.2.1 dX5_one_372 rfl (lv_at hl 1 rfl) ?_
      refine g_X5_local X hI dX5_one_373 ?_
      refine lv_bipush (v := 6) X.1 X.2.1 dX5_one_376 (by decide) ?_
      refine lv_iload_n X.1 X.2.1 dX5_one_378 rfl (lv_at hl 2 rfl) ?_
      refine lv_imul X.1 X.2.1 dX5_one_379 ?_
      refine lv_iload X.1 X.2.1 dX5_one_380 (lv_at hl 6 rfl) ?_
      refine lv_iadd X.1 X.2.1 dX5_one_382 ?_
      obtain ⟨h25, hF⟩ := fb_chk hF
      refine aM_7 (v := gA σ 7 ((6 * x1) + x6)) X hI rfl h25 dX5_one_383 ?_
      obtain ⟨u26, h27, hF⟩ := fb_bnd hF
      refine cl_i (w := wM ty q) (σ := sA σ 5 x1 (x3 + u17)) (rest := []) X fxM hI (m_X5_push l D ty q (sA σ 5 x1 (x3 + u17)) _ (gA σ 7 ((6 * x1) + x6)) h27) ok_X5_push ml_X5_113 ⟨rfl, rfl, Nat.le_of_ble_eq_true rfl, Nat.le_of_ble_eq_true rfl⟩ 0 rc_X5 rfl rfl hl.1 rfl (Nat.le_of_ble_eq_true rfl) ⟨Nat.le_of_ble_eq_true rfl, Nat.le_of_ble_eq_true rfl⟩ dX5_one_384 (fun H locs hI => ?_)
      refine lv_if_ne (tgt := 575) X.1 X.2.1 dX5_one_387 (by decide) (fun c28 => ?_) (fun c28 => ?_)
      · replace hF := fb_neg c28 hF
        refine lv_aload_n X.1 X.2.1 dX5_one_575 rfl (lv_at hl 1 rfl) ?_
        refine g_X5_state (v := gI u26.2 1) X hI rfl dX5_one_576 ?_
        refine lv_iconst (v := 1) X.1 X.2.1 dX5_one_579 (by decide) ?_
        refine lv_icmp_le (tgt := 598) X.1 X.2.1 dX5_one_580 (by decide) (fun c29 => ?_) (fun c29 => ?_)
        · replace hF := fb_pos c29 hF
          exact rt_v X hlk hr hI hF dX5_one_598
        · replace hF := fb_neg c29 hF
          refine lv_aload_n X.1 X.2.1 dX5_one_583 rfl (lv_at hl 1 rfl) ?_
          refine g_X5_frames (v := gI u26.2 7) X hI rfl dX5_one_584 ?_
          refine lv_iload_n X.1 X.2.1 dX5_one_587 rfl (lv_at hl 2 rfl) ?_
          refine lv_icmp_le (tgt := 598) X.1 X.2.1 dX5_one_588 (by decide) (fun c30 => ?_) (fun c30 => ?_)
          · replace hF := fb_pos c30 hF
            exact rt_v X hlk hr hI hF dX5_one_598
          · replace hF := fb_neg c30 hF
            refine lv_aload_n X.1 X.2.1 dX5_one_591 rfl (lv_at hl 1 rfl) ?_
            refine g_X5_place X hI dX5_one_592 ?_
            refine lv_iload_n X.1 X.2.1 dX5_one_595 rfl (lv_at hl 2 rfl) ?_
            refine lv_iload_n X.1 X.2.1 dX5_one_596 rfl (lv_at hl 4 rfl) ?_
            obtain ⟨h31, hF⟩ := fb_chk hF
            refine sM_5 X hI h31 dX5_one_597 (fun H locs hI => ?_)
            exact rt_v X hlk hr hI hF dX5_one_598
      · replace hF := fb_pos c28 hF
        refine lv_aload_n X.1 X.2.1 dX5_one_390 rfl (lv_at hl 1 rfl) ?_
        refine g_X5_place X hI dX5_one_391 ?_
        refine lv_iload_n X.1 X.2.1 dX5_one_394 rfl (lv_at hl 2 rfl) ?_
        refine lv_iload_n X.1 X.2.1 dX5_one_395 rfl (lv_at hl 4 rfl) ?_
        obtain ⟨h32, hF⟩ := fb_chk hF
        refine sM_5 X hI h32 dX5_one_396 (fun H locs hI => ?_)
        refine lv_goto (tgt := 575) X.1 X.2.1 dX5_one_397 (by decide) ?_
        refine lv_aload_n X.1 X.2.1 dX5_one_575 rfl (lv_at hl 1 rfl) ?_
        refine g_X5_state (v := gI u26.2 1) X hI rfl dX5_one_576 ?_
        refine lv_iconst (v := 1) X.1 X.2.1 dX5_one_579 (by decide) ?_
        refine lv_icmp_le (tgt := 598) X.1 X.2.1 dX5_one_580 (by decide) (fun c33 => ?_) (fun c33 => ?_)
        · replace hF := fb_pos c33 hF
          exact rt_v X hlk hr hI hF dX5_one_598
        · replace hF := fb_neg c33 hF
          refine lv_aload_n X.1 X.2.1 dX5_one_583 rfl (lv_at hl 1 rfl) ?_
          refine g_X5_frames (v := gI u26.2 7) X hI rfl dX5_one_584 ?_
          refine lv_iload_n X.1 X.2.1 dX5_one_587 rfl (lv_at hl 2 rfl) ?_
          refine lv_icmp_le (tgt := 598) X.1 X.2.1 dX5_one_588 (by decide) (fun c34 => ?_) (fun c34 => ?_)
          · replace hF := fb_pos c34 hF
            exact rt_v X hlk hr hI hF dX5_one_598
          · replace hF := fb_neg c34 hF
            refine lv_aload_n X.1 X.2.1 dX5_one_591 rfl (lv_at hl 1 rfl) ?_
            refine g_X5_place X hI dX5_one_592 ?_
            refine lv_iload_n X.1 X.2.1 dX5_one_595 rfl (lv_at hl 2 rfl) ?_
            refine lv_iload_n X.1 X.2.1 dX5_one_596 rfl (lv_at hl 4 rfl) ?_
            obtain ⟨h35, hF⟩ := fb_chk hF
            refine sM_5 X hI h35 dX5_one_597 (fun H locs hI => ?_)
            exact rt_v X hlk hr hI hF dX5_one_598
    · replace hF := fb_pos c24 hF
      refine lv_iload X.1 X.2.1 dX5_one_367 (lv_at hl 6 rfl) ?_
      refine lv_goto (tgt := 384) X.1 X.2.1 dX5_one_369 (by decide) ?_
      exact w_b_X5_one_384 X hlk hr hI x1 x3 x6 hF ls (lv_sub hl [1, 2, 4] rfl)
  replace hF := fb_neg c23 hF
  by_cases c46 : x5 = 2
  · replace hF := fb_pos c46 hF
    refine lv_tableIn (tgt := 360) X.1 X.2.1 dX5_one_287 (by rw [c46]; decide) (by rw [c46]; decide) (by rw [c46]; rfl) (by decide) ?_
    refine lv_aload_n X.1 X.2.1 dX5_one_360 rfl (lv_at hl 1 rfl) ?_
    refine lv_iload X.1 X.2.1 dX5_one_361 (lv_at hl 5 rfl) ?_
    refine lv_iconst (v := 1) X.1 X.2.1 dX5_one_363 (by decide) ?_
    refine lv_icmp_ne (tgt := 372) X.1 X.2.1 dX5_one_364 (by decide) (fun c47 => ?_) (fun c47 => ?_)
    · replace hF := fb_neg c47 hF
      refine lv_aload_n X.1 X.2.1 dX5_one_372 rfl (lv_at hl 1 rfl) ?_
      refine g_X5_local X hI dX5_one_373 ?_
      refine lv_bipush (v := 6) X.1 X.2.1 dX5_one_376 (by decide) ?_
      refine lv_iload_n X.1 X.2.1 dX5_one_378 rfl (lv_at hl 2 rfl) ?_
      refine lv_imul X.1 X.2.1 dX5_one_379 ?_
      refine lv_iload X.1 X.2.1 dX5_one_380 (lv_at hl 6 rfl) ?_
      refine lv_iadd X.1 X.2.1 dX5_one_382 ?_
      obtain ⟨h48, hF⟩ := fb_chk hF
      refine aM_7 (v := gA σ 7 ((6 * x1) + x6)) X hI rfl h48 dX5_one_383 ?_
      obtain ⟨u49, h50, hF⟩ := fb_bnd hF
      refine cl_i (w := wM ty q) (σ := sA σ 5 x1 (x3 + u17)) (rest := []) X fxM hI (m_X5_push l D ty q (sA σ 5 x1 (x3 + u17)) _ (gA σ 7 ((6 * x1) + x6)) h50) ok_X5_push ml_X5_113 ⟨rfl, rfl, Nat.le_of_ble_eq_true rfl, Nat.le_of_ble_eq_true rfl⟩ 0 rc_X5 rfl rfl hl.1 rfl (Nat.le_of_ble_eq_true rfl) ⟨Nat.le_of_ble_eq_true rfl, Nat.le_of_ble_eq_true rfl⟩ dX5_one_384 (fun H locs hI => ?_)
      refine lv_if_ne (tgt := 575) X.1 X.2.1 dX5_one_387 (by decide) (fun c51 => ?_) (fun c51 => ?_)
      · replace hF := fb_neg c51 hF
        refine lv_aload_n X.1 X.2.1 dX5_one_575 rfl (lv_at hl 1 rfl) ?_
        refine g_X5_state (v := gI u49.2 1) X hI rfl dX5_one_576 ?_
        refine lv_iconst (v := 1) X.1 X.2.1 dX5_one_579 (by decide) ?_
        refine lv_icmp_le (tgt := 598) X.1 X.2.1 dX5_one_580 (by decide) (fun c52 => ?_) (fun c52 => ?_)
        · replace hF := fb_pos c52 hF
          exact rt_v X hlk hr hI hF dX5_one_598
        · replace hF := fb_neg c52 hF
          refine lv_aload_n X.1 X.2.1 dX5_one_583 rfl (lv_at hl 1 rfl) ?_
          refine g_X5_frames (v := gI u49.2 7) X hI rfl dX5_one_584 ?_
          refine lv_iload_n X.1 X.2.1 dX5_one_587 rfl (lv_at hl 2 rfl) ?_
          refine lv_icmp_le (tgt := 598) X.1 X.2.1 dX5_one_588 (by decide) (fun c53 => ?_) (fun c53 => ?_)
          · replace hF := fb_pos c53 hF
            exact rt_v X hlk hr hI hF dX5_one_598
          · replace hF := fb_neg c53 hF
            refine lv_aload_n X.1 X.2.1 dX5_one_591 rfl (lv_at hl 1 rfl) ?_
            refine g_X5_place X hI dX5_one_592 ?_
            refine lv_iload_n X.1 X.2.1 dX5_one_595 rfl (lv_at hl 2 rfl) ?_
            refine lv_iload_n X.1 X.2.1 dX5_one_596 rfl (lv_at hl 4 rfl) ?_
            obtain ⟨h54, hF⟩ := fb_chk hF
            refine sM_5 X hI h54 dX5_one_597 (fun H locs hI => ?_)
            exact rt_v X hlk hr hI hF dX5_one_598
      · replace hF := fb_pos c51 hF
        refine lv_aload_n X.1 X.2.1 dX5_one_390 rfl (lv_at hl 1 rfl) ?_
        refine g_X5_place X hI dX5_one_391 ?_
        refine lv_iload_n X.1 X.2.1 dX5_one_394 rfl (lv_at hl 2 rfl) ?_
        refine lv_iload_n X.1 X.2.1 dX5_one_395 rfl (lv_at hl 4 rfl) ?_
        obtain ⟨h55, hF⟩ := fb_chk hF
        refine sM_5 X hI h55 dX5_one_396 (fun H locs hI => ?_)
        refine lv_goto (tgt := 575) X.1 X.2.1 dX5_one_397 (by decide) ?_
        refine lv_aload_n X.1 X.2.1 dX5_one_575 rfl (lv_at hl 1 rfl) ?_
        refine g_X5_state (v := gI u49.2 1) X hI rfl dX5_one_576 ?_
        refine lv_iconst (v := 1) X.1 X.2.1 dX5_one_579 (by decide) ?_
        refine lv_icmp_le (tgt := 598) X.1 X.2.1 dX5_one_580 (by decide) (fun c56 => ?_) (fun c56 => ?_)
        · replace hF := fb_pos c56 hF
          exact rt_v X hlk hr hI hF dX5_one_598
        · replace hF := fb_neg c56 hF
          refine lv_aload_n X.1 X.2.1 dX5_one_583 rfl (lv_at hl 1 rfl) ?_
          refine g_X5_frames (v := gI u49.2 7) X hI rfl dX5_one_584 ?_
          refine lv_iload_n X.1 X.2.1 dX5_one_587 rfl (lv_at hl 2 rfl) ?_
          refine lv_icmp_le (tgt := 598) X.1 X.2.1 dX5_one_588 (by decide) (fun c57 => ?_) (fun c57 => ?_)
          · replace hF := fb_pos c57 hF
            exact rt_v X hlk hr hI hF dX5_one_598
          · replace hF := fb_neg c57 hF
            refine lv_aload_n X.1 X.2.1 dX5_one_591 rfl (lv_at hl 1 rfl) ?_
            refine g_X5_place X hI dX5_one_592 ?_
            refine lv_iload_n X.1 X.2.1 dX5_one_595 rfl (lv_at hl 2 rfl) ?_
            refine lv_iload_n X.1 X.2.1 dX5_one_596 rfl (lv_at hl 4 rfl) ?_
            obtain ⟨h58, hF⟩ := fb_chk hF
            refine sM_5 X hI h58 dX5_one_597 (fun H locs hI => ?_)
            exact rt_v X hlk hr hI hF dX5_one_598
    · replace hF := fb_pos c47 hF
      refine lv_iload X.1 X.2.1 dX5_one_367 (lv_at hl 6 rfl) ?_
      refine lv_goto (tgt := 384) X.1 X.2.1 dX5_one_369 (by decide) ?_
      exact w_b_X5_one_384 X hlk hr hI x1 x3 x6 hF ls (lv_sub hl [1, 2, 4] rfl)
  replace hF := fb_neg c46 hF
  by_cases c59 : x5 = 3
  · replace hF := fb_pos c59 hF
    refine lv_tableIn (tgt := 400) X.1 X.2.1 dX5_one_287 (by rw [c59]; decide) (by rw [c59]; decide) (by rw [c59]; rfl) (by decide) ?_
    refine lv_aload_n X.1 X.2.1 dX5_one_400 rfl (lv_at hl 1 rfl) ?_
    refine g_X5_local X hI dX5_one_401 ?_
    refine lv_bipush (v := 6) X.1 X.2.1 dX5_one_404 (by decide) ?_
    refine lv_iload_n X.1 X.2.1 dX5_one_406 rfl (lv_at hl 2 rfl) ?_
    refine lv_imul X.1 X.2.1 dX5_one_407 ?_
    refine lv_iload X.1 X.2.1 dX5_one_408 (lv_at hl 6 rfl) ?_
    refine lv_iadd X.1 X.2.1 dX5_one_410 ?_
    refine lv_iload X.1 X.2.1 dX5_one_411 (lv_at hl 7 rfl) ?_
    obtain ⟨h60, hF⟩ := fb_chk hF
    refine sM_7 X hI h60 dX5_one_413 (fun H locs hI => ?_)
    refine lv_goto (tgt := 575) X.1 X.2.1 dX5_one_414 (by decide) ?_
    refine lv_aload_n X.1 X.2.1 dX5_one_575 rfl (lv_at hl 1 rfl) ?_
    refine g_X5_state (v := gI σ 1) X hI rfl dX5_one_576 ?_
    refine lv_iconst (v := 1) X.1 X.2.1 dX5_one_579 (by decide) ?_
    refine lv_icmp_le (tgt := 598) X.1 X.2.1 dX5_one_580 (by decide) (fun c61 => ?_) (fun c61 => ?_)
    · replace hF := fb_pos c61 hF
      exact rt_v X hlk hr hI hF dX5_one_598
    · replace hF := fb_neg c61 hF
      refine lv_aload_n X.1 X.2.1 dX5_one_583 rfl (lv_at hl 1 rfl) ?_
      refine g_X5_frames (v := gI σ 7) X hI rfl dX5_one_584 ?_
      refine lv_iload_n X.1 X.2.1 dX5_one_587 rfl (lv_at hl 2 rfl) ?_
      refine lv_icmp_le (tgt := 598) X.1 X.2.1 dX5_one_588 (by decide) (fun c62 => ?_) (fun c62 => ?_)
      · replace hF := fb_pos c62 hF
        exact rt_v X hlk hr hI hF dX5_one_598
      · replace hF := fb_neg c62 hF
        refine lv_aload_n X.1 X.2.1 dX5_one_591 rfl (lv_at hl 1 rfl) ?_
        refine g_X5_place X hI dX5_one_592 ?_
        refine lv_iload_n X.1 X.2.1 dX5_one_595 rfl (lv_at hl 2 rfl) ?_
        refine lv_iload_n X.1 X.2.1 dX5_one_596 rfl (lv_at hl 4 rfl) ?_
        obtain ⟨h63, hF⟩ := fb_chk hF
        refine sM_5 X hI h63 dX5_one_597 (fun H locs hI => ?_)
        exact rt_v X hlk hr hI hF dX5_one_598
  replace hF := fb_neg c59 hF
  by_cases c64 : x5 = 8
  · replace hF := fb_pos c64 hF
    refine lv_tableIn (tgt := 417) X.1 X.2.1 dX5_one_287 (by rw [c64]; decide) (by rw [c64]; decide) (by rw [c64]; rfl) (by decide) ?_
    refine lv_aload_n X.1 X.2.1 dX5_one_417 rfl (lv_at hl 1 rfl) ?_
    refine g_X5_place X hI dX5_one_418 ?_
    refine lv_iload_n X.1 X.2.1 dX5_one_421 rfl (lv_at hl 2 rfl) ?_
    refine lv_dup2_11 X.1 X.2.1 dX5_one_422 rfl rfl ?_
    obtain ⟨h65, hF⟩ := fb_chk hF
    refine aM_5 (v := gA (sA σ 5 x1 (x3 + u17)) 5 x1) X hI rfl h65 dX5_one_423 ?_
    refine lv_iload X.1 X.2.1 dX5_one_424 (lv_at hl 7 rfl) ?_
    refine lv_if_ne (tgt := 434) X.1 X.2.1 dX5_one_426 (by decide) (fun c66 => ?_) (fun c66 => ?_)
    · replace hF := fb_neg c66 hF
      refine lv_iconst (v := 0) X.1 X.2.1 dX5_one_434 (by decide) ?_
      exact w_b_X5_one_435 X hlk hr hI x1 x3 0 (gA (sA σ 5 x1 (x3 + u17)) 5 x1) x1 hF ls (lv_sub hl [1, 2, 4] rfl)
    · replace hF := fb_pos c66 hF
      refine lv_iload X.1 X.2.1 dX5_one_429 (lv_at hl 6 rfl) ?_
      refine lv_goto (tgt := 435) X.1 X.2.1 dX5_one_431 (by decide) ?_
      exact w_b_X5_one_435 X hlk hr hI x1 x3 x6 (gA (sA σ 5 x1 (x3 + u17)) 5 x1) x1 hF ls (lv_sub hl [1, 2, 4] rfl)
  replace hF := fb_neg c64 hF
  by_cases c71 : x5 = 9
  · replace hF := fb_pos c71 hF
    refine lv_tableIn (tgt := 440) X.1 X.2.1 dX5_one_287 (by rw [c71]; decide) (by rw [c71]; decide) (by rw [c71]; rfl) (by decide) ?_
    refine lv_aload_n X.1 X.2.1 dX5_one_440 rfl (lv_at hl 1 rfl) ?_
    refine g_X5_place X hI dX5_one_441 ?_
    refine lv_iload_n X.1 X.2.1 dX5_one_444 rfl (lv_at hl 2 rfl) ?_
    refine lv_dup2_11 X.1 X.2.1 dX5_one_445 rfl rfl ?_
    obtain ⟨h72, hF⟩ := fb_chk hF
    refine aM_5 (v := gA (sA σ 5 x1 (x3 + u17)) 5 x1) X hI rfl h72 dX5_one_446 ?_
    refine lv_iload X.1 X.2.1 dX5_one_447 (lv_at hl 6 rfl) ?_
    refine lv_iadd X.1 X.2.1 dX5_one_449 ?_
    obtain ⟨h73, hF⟩ := fb_chk hF
    refine sM_5 X hI h73 dX5_one_450 (fun H locs hI => ?_)
    refine lv_goto (tgt := 575) X.1 X.2.1 dX5_one_451 (by decide) ?_
    refine lv_aload_n X.1 X.2.1 dX5_one_575 rfl (lv_at hl 1 rfl) ?_
    refine g_X5_state (v := gI σ 1) X hI rfl dX5_one_576 ?_
    refine lv_iconst (v := 1) X.1 X.2.1 dX5_one_579 (by decide) ?_
    refine lv_icmp_le (tgt := 598) X.1 X.2.1 dX5_one_580 (by decide) (fun c74 => ?_) (fun c74 => ?_)
    · replace hF := fb_pos c74 hF
      exact rt_v X hlk hr hI hF dX5_one_598
    · replace hF := fb_neg c74 hF
      refine lv_aload_n X.1 X.2.1 dX5_one_583 rfl (lv_at hl 1 rfl) ?_
      refine g_X5_frames (v := gI σ 7) X hI rfl dX5_one_584 ?_
      refine lv_iload_n X.1 X.2.1 dX5_one_587 rfl (lv_at hl 2 rfl) ?_
      refine lv_icmp_le (tgt := 598) X.1 X.2.1 dX5_one_588 (by decide) (fun c75 => ?_) (fun c75 => ?_)
      · replace hF := fb_pos c75 hF
        exact rt_v X hlk hr hI hF dX5_one_598
      · replace hF := fb_neg c75 hF
        refine lv_aload_n X.1 X.2.1 dX5_one_591 rfl (lv_at hl 1 rfl) ?_
        refine g_X5_place X hI dX5_one_592 ?_
        refine lv_iload_n X.1 X.2.1 dX5_one_595 rfl (lv_at hl 2 rfl) ?_
        refine lv_iload_n X.1 X.2.1 dX5_one_596 rfl (lv_at hl 4 rfl) ?_
        obtain ⟨h76, hF⟩ := fb_chk hF
        refine sM_5 X hI h76 dX5_one_597 (fun H locs hI => ?_)
        exact rt_v X hlk hr hI hF dX5_one_598
  replace hF := fb_neg c71 hF
  by_cases c77 : x5 = 10
  · replace hF := fb_pos c77 hF
    refine lv_tableIn (tgt := 454) X.1 X.2.1 dX5_one_287 (by rw [c77]; decide) (by rw [c77]; decide) (by rw [c77]; rfl) (by decide) ?_
    refine lv_aload_n X.1 X.2.1 dX5_one_454 rfl (lv_at hl 1 rfl) ?_
    refine lv_iload X.1 X.2.1 dX5_one_455 (lv_at hl 6 rfl) ?_
    refine lv_aload_n X.1 X.2.1 dX5_one_457 rfl (lv_at hl 1 rfl) ?_
    refine g_X5_disk X hI dX5_one_458 ?_
    refine lv_bipush (v := 80) X.1 X.2.1 dX5_one_461 (by decide) ?_
    refine lv_iload_n X.1 X.2.1 dX5_one_463 rfl (lv_at hl 3 rfl) ?_
    refine lv_imul X.1 X.2.1 dX5_one_464 ?_
    refine lv_iload_n X.1 X.2.1 dX5_one_465 rfl (lv_at hl 4 rfl) ?_
    refine lv_iadd X.1 X.2.1 dX5_one_466 ?_
    refine lv_iconst (v := 2) X.1 X.2.1 dX5_one_467 (by decide) ?_
    refine lv_iadd X.1 X.2.1 dX5_one_468 ?_
    obtain ⟨h78, hF⟩ := fb_chk hF
    refine aM_0 (v := gA σ 0 (((80 * x2) + x3) + 2)) X hI rfl h78 dX5_one_469 ?_
    refine lv_iload X.1 X.2.1 dX5_one_470 (lv_at hl 7 rfl) ?_
    obtain ⟨u79, h80, hF⟩ := fb_bnd hF
    refine cl_v (w := wM ty q) (σ := sA σ 5 x1 (x3 + u17)) (rest := []) X fxM hI (m_X5_call l D ty q (sA σ 5 x1 (x3 + u17)) _ x6 (gA σ 0 (((80 * x2) + x3) + 2)) x7 h80) ok_X5_call ml_X5_100 ⟨rfl, rfl, Nat.le_of_ble_eq_true rfl, Nat.le_of_ble_eq_true rfl⟩ 0 rc_X5 rfl rfl hl.1 rfl (Nat.le_of_ble_eq_true rfl) ⟨Nat.le_of_ble_eq_true rfl, Nat.le_of_ble_eq_true rfl⟩ dX5_one_472 (fun H locs hI => ?_)
    refine lv_goto (tgt := 575) X.1 X.2.1 dX5_one_475 (by decide) ?_
    refine lv_aload_n X.1 X.2.1 dX5_one_575 rfl (lv_at hl 1 rfl) ?_
    refine g_X5_state (v := gI u79.2 1) X hI rfl dX5_one_576 ?_
    refine lv_iconst (v := 1) X.1 X.2.1 dX5_one_579 (by decide) ?_
    refine lv_icmp_le (tgt := 598) X.1 X.2.1 dX5_one_580 (by decide) (fun c81 => ?_) (fun c81 => ?_)
    · replace hF := fb_pos c81 hF
      exact rt_v X hlk hr hI hF dX5_one_598
    · replace hF := fb_neg c81 hF
      refine lv_aload_n X.1 X.2.1 dX5_one_583 rfl (lv_at hl 1 rfl) ?_
      refine g_X5_frames (v := gI u79.2 7) X hI rfl dX5_one_584 ?_
      refine lv_iload_n X.1 X.2.1 dX5_one_587 rfl (lv_at hl 2 rfl) ?_
      refine lv_icmp_le (tgt := 598) X.1 X.2.1 dX5_one_588 (by decide) (fun c82 => ?_) (fun c82 => ?_)
      · replace hF := fb_pos c82 hF
        exact rt_v X hlk hr hI hF dX5_one_598
      · replace hF := fb_neg c82 hF
        refine lv_aload_n X.1 X.2.1 dX5_one_591 rfl (lv_at hl 1 rfl) ?_
        refine g_X5_place X hI dX5_one_592 ?_
        refine lv_iload_n X.1 X.2.1 dX5_one_595 rfl (lv_at hl 2 rfl) ?_
        refine lv_iload_n X.1 X.2.1 dX5_one_596 rfl (lv_at hl 4 rfl) ?_
        obtain ⟨h83, hF⟩ := fb_chk hF
        refine sM_5 X hI h83 dX5_one_597 (fun H locs hI => ?_)
        exact rt_v X hlk hr hI hF dX5_one_598
  replace hF := fb_neg c77 hF
  by_cases c84 : x5 = 11
  · replace hF := fb_pos c84 hF
    refine lv_tableIn (tgt := 478) X.1 X.2.1 dX5_one_287 (by rw [c84]; decide) (by rw [c84]; decide) (by rw [c84]; rfl) (by decide) ?_
    refine lv_aload_n X.1 X.2.1 dX5_one_478 rfl (lv_at hl 1 rfl) ?_
    refine lv_iload X.1 X.2.1 dX5_one_479 (lv_at hl 7 rfl) ?_
    obtain ⟨u85, h86, hF⟩ := fb_bnd hF
    refine cl_v (w := wM ty q) (σ := sA σ 5 x1 (x3 + u17)) (rest := []) X fxM hI (m_X5_back l D ty q (sA σ 5 x1 (x3 + u17)) _ x7 h86) ok_X5_back ml_X5_116 ⟨rfl, rfl, Nat.le_of_ble_eq_true rfl, Nat.le_of_ble_eq_true rfl⟩ 0 rc_X5 rfl rfl hl.1 rfl (Nat.le_of_ble_eq_true rfl) ⟨Nat.le_of_ble_eq_true rfl, Nat.le_of_ble_eq_true rfl⟩ dX5_one_481 (fun H locs hI => ?_)
    refine lv_goto (tgt := 575) X.1 X.2.1 dX5_one_484 (by decide) ?_
    refine lv_aload_n X.1 X.2.1 dX5_one_575 rfl (lv_at hl 1 rfl) ?_
    refine g_X5_state (v := gI u85.2 1) X hI rfl dX5_one_576 ?_
    refine lv_iconst (v := 1) X.1 X.2.1 dX5_one_579 (by decide) ?_
    refine lv_icmp_le (tgt := 598) X.1 X.2.1 dX5_one_580 (by decide) (fun c87 => ?_) (fun c87 => ?_)
    · replace hF := fb_pos c87 hF
      exact rt_v X hlk hr hI hF dX5_one_598
    · replace hF := fb_neg c87 hF
      refine lv_aload_n X.1 X.2.1 dX5_one_583 rfl (lv_at hl 1 rfl) ?_
      refine g_X5_frames (v := gI u85.2 7) X hI rfl dX5_one_584 ?_
      refine lv_iload_n X.1 X.2.1 dX5_one_587 rfl (lv_at hl 2 rfl) ?_
      refine lv_icmp_le (tgt := 598) X.1 X.2.1 dX5_one_588 (by decide) (fun c88 => ?_) (fun c88 => ?_)
      · replace hF := fb_pos c88 hF
        exact rt_v X hlk hr hI hF dX5_one_598
      · replace hF := fb_neg c88 hF
        refine lv_aload_n X.1 X.2.1 dX5_one_591 rfl (lv_at hl 1 rfl) ?_
        refine g_X5_place X hI dX5_one_592 ?_
        refine lv_iload_n X.1 X.2.1 dX5_one_595 rfl (lv_at hl 2 rfl) ?_
        refine lv_iload_n X.1 X.2.1 dX5_one_596 rfl (lv_at hl 4 rfl) ?_
        obtain ⟨h89, hF⟩ := fb_chk hF
        refine sM_5 X hI h89 dX5_one_597 (fun H locs hI => ?_)
        exact rt_v X hlk hr hI hF dX5_one_598
  replace hF := fb_neg c84 hF
  by_cases c90 : x5 = 12
  · replace hF := fb_pos c90 hF
    refine lv_tableIn (tgt := 487) X.1 X.2.1 dX5_one_287 (by rw [c90]; decide) (by rw [c90]; decide) (by rw [c90]; rfl) (by decide) ?_
    refine lv_aload_n X.1 X.2.1 dX5_one_487 rfl (lv_at hl 1 rfl) ?_
    refine g_X5_put X hI dX5_one_488 ?_
    refine lv_aload_n X.1 X.2.1 dX5_one_491 rfl (lv_at hl 1 rfl) ?_
    refine g_X5_puts (v := gI σ 10) X hI rfl dX5_one_492 ?_
    refine lv_iload X.1 X.2.1 dX5_one_495 (lv_at hl 7 rfl) ?_
    obtain ⟨h91, hF⟩ := fb_chk hF
    refine sM_10 X hI h91 dX5_one_497 (fun H locs hI => ?_)
    refine lv_aload_n X.1 X.2.1 dX5_one_498 rfl (lv_at hl 1 rfl) ?_
    refine lv_dup X.1 X.2.1 dX5_one_499 rfl ?_
    refine g_X5_puts (v := gI σ 10) X hI rfl dX5_one_500 ?_
    refine lv_iconst (v := 1) X.1 X.2.1 dX5_one_503 (by decide) ?_
    refine lv_iadd X.1 X.2.1 dX5_one_504 ?_
    refine p_X5_puts X hI dX5_one_505 (fun H locs hI => ?_)
    refine lv_goto (tgt := 575) X.1 X.2.1 dX5_one_508 (by decide) ?_
    refine lv_aload_n X.1 X.2.1 dX5_one_575 rfl (lv_at hl 1 rfl) ?_
    refine g_X5_state (v := gI σ 1) X hI rfl dX5_one_576 ?_
    refine lv_iconst (v := 1) X.1 X.2.1 dX5_one_579 (by decide) ?_
    refine lv_icmp_le (tgt := 598) X.1 X.2.1 dX5_one_580 (by decide) (fun c92 => ?_) (fun c92 => ?_)
    · replace hF := fb_pos c92 hF
      exact rt_v X hlk hr hI hF dX5_one_598
    · replace hF := fb_neg c92 hF
      refine lv_aload_n X.1 X.2.1 dX5_one_583 rfl (lv_at hl 1 rfl) ?_
      refine g_X5_frames (v := gI σ 7) X hI rfl dX5_one_584 ?_
      refine lv_iload_n X.1 X.2.1 dX5_one_587 rfl (lv_at hl 2 rfl) ?_
      refine lv_icmp_le (tgt := 598) X.1 X.2.1 dX5_one_588 (by decide) (fun c93 => ?_) (fun c93 => ?_)
      · replace hF := fb_pos c93 hF
        exact rt_v X hlk hr hI hF dX5_one_598
      · replace hF := fb_neg c93 hF
        refine lv_aload_n X.1 X.2.1 dX5_one_591 rfl (lv_at hl 1 rfl) ?_
        refine g_X5_place X hI dX5_one_592 ?_
        refine lv_iload_n X.1 X.2.1 dX5_one_595 rfl (lv_at hl 2 rfl) ?_
        refine lv_iload_n X.1 X.2.1 dX5_one_596 rfl (lv_at hl 4 rfl) ?_
        obtain ⟨h94, hF⟩ := fb_chk hF
        refine sM_5 X hI h94 dX5_one_597 (fun H locs hI => ?_)
        exact rt_v X hlk hr hI hF dX5_one_598
  replace hF := fb_neg c90 hF
  have hDf : W p l e rm_X5_one s m args below meth c H locs 0 0 (MQ below (Qvw D ty (wM ty q) A res) args s 0 0 A) (F0 m 511 ls []) := by
    refine lv_aload_n X.1 X.2.1 dX5_one_511 rfl (lv_at hl 1 rfl) ?_
    refine lv_iload X.1 X.2.1 dX5_one_512 (lv_at hl 5 rfl) ?_
    refine lv_iconst (v := 4) X.1 X.2.1 dX5_one_514 (by decide) ?_
    refine lv_icmp_ne (tgt := 526) X.1 X.2.1 dX5_one_515 (by decide) (fun c95 => ?_) (fun c95 => ?_)
    · replace hF := fb_neg c95 hF
      refine lv_iload X.1 X.2.1 dX5_one_526 (lv_at hl 5 rfl) ?_
      refine lv_iconst (v := 5) X.1 X.2.1 dX5_one_528 (by decide) ?_
      refine lv_icmp_ne (tgt := 540) X.1 X.2.1 dX5_one_529 (by decide) (fun c96 => ?_) (fun c96 => ?_)
      · replace hF := fb_neg c96 hF
        refine lv_iload X.1 X.2.1 dX5_one_540 (lv_at hl 5 rfl) ?_
        refine lv_bipush (v := 7) X.1 X.2.1 dX5_one_542 (by decide) ?_
        refine lv_icmp_ne (tgt := 555) X.1 X.2.1 dX5_one_544 (by decide) (fun c97 => ?_) (fun c97 => ?_)
        · replace hF := fb_neg c97 hF
          refine lv_iload X.1 X.2.1 dX5_one_555 (lv_at hl 0 rfl) ?_
          refine lv_iload X.1 X.2.1 dX5_one_557 (lv_at hl 7 rfl) ?_
          refine lv_icmp_ge (tgt := 566) X.1 X.2.1 dX5_one_559 (by decide) (fun c98 => ?_) (fun c98 => ?_)
          · replace hF := fb_pos c98 hF
            refine lv_iconst (v := 0) X.1 X.2.1 dX5_one_566 (by decide) ?_
            exact w_b_X5_one_567 X hlk hr hI x1 x3 0 hF ls (lv_sub hl [1, 2, 4] rfl)
          · replace hF := fb_neg c98 hF
            refine lv_iconst (v := 1) X.1 X.2.1 dX5_one_562 (by decide) ?_
            refine lv_goto (tgt := 567) X.1 X.2.1 dX5_one_563 (by decide) ?_
            exact w_b_X5_one_567 X hlk hr hI x1 x3 1 hF ls (lv_sub hl [1, 2, 4] rfl)
        · replace hF := fb_pos c97 hF
          refine lv_iload X.1 X.2.1 dX5_one_547 (lv_at hl 0 rfl) ?_
          refine lv_iload X.1 X.2.1 dX5_one_549 (lv_at hl 7 rfl) ?_
          refine lv_imul X.1 X.2.1 dX5_one_551 ?_
          refine lv_goto (tgt := 567) X.1 X.2.1 dX5_one_552 (by decide) ?_
          exact w_b_X5_one_567 X hlk hr hI x1 x3 (z0 * x7) hF ls (lv_sub hl [1, 2, 4] rfl)
      · replace hF := fb_pos c96 hF
        refine lv_iload X.1 X.2.1 dX5_one_532 (lv_at hl 0 rfl) ?_
        refine lv_iload X.1 X.2.1 dX5_one_534 (lv_at hl 7 rfl) ?_
        refine lv_isub X.1 X.2.1 dX5_one_536 ?_
        refine lv_goto (tgt := 567) X.1 X.2.1 dX5_one_537 (by decide) ?_
        exact w_b_X5_one_567 X hlk hr hI x1 x3 (z0 - x7) hF ls (lv_sub hl [1, 2, 4] rfl)
    · replace hF := fb_pos c95 hF
      refine lv_iload X.1 X.2.1 dX5_one_518 (lv_at hl 0 rfl) ?_
      refine lv_iload X.1 X.2.1 dX5_one_520 (lv_at hl 7 rfl) ?_
      refine lv_iadd X.1 X.2.1 dX5_one_522 ?_
      refine lv_goto (tgt := 567) X.1 X.2.1 dX5_one_523 (by decide) ?_
      exact w_b_X5_one_567 X hlk hr hI x1 x3 (z0 + x7) hF ls (lv_sub hl [1, 2, 4] rfl)
  by_cases c104 : x5 = 4
  · exact lv_tableIn (tgt := 511) X.1 X.2.1 dX5_one_287 (by rw [c104]; decide) (by rw [c104]; decide) (by rw [c104]; rfl) (by decide) hDf
  by_cases c105 : x5 = 5
  · exact lv_tableIn (tgt := 511) X.1 X.2.1 dX5_one_287 (by rw [c105]; decide) (by rw [c105]; decide) (by rw [c105]; rfl) (by decide) hDf
  by_cases c106 : x5 = 6
  · exact lv_tableIn (tgt := 511) X.1 X.2.1 dX5_one_287 (by rw [c106]; decide) (by rw [c106]; decide) (by rw [c106]; rfl) (by decide) hDf
  by_cases c107 : x5 = 7
  · exact lv_tableIn (tgt := 511) X.1 X.2.1 dX5_one_287 (by rw [c107]; decide) (by rw [c107]; decide) (by rw [c107]; rfl) (by decide) hDf
  refine lv_tableOut (tgt := 511) X.1 X.2.1 dX5_one_287 ?_ (by decide) hDf
  by_cases g108 : (x5).toInt < 0
  · exact Or.inl g108
  · refine Or.inr ?_
    have n0 : ¬ (x5).toInt = 0 := fun h => c20 (Int32.toInt_inj.mp (h.trans (by decide)))
    have n1 : ¬ (x5).toInt = 1 := fun h => c23 (Int32.toInt_inj.mp (h.trans (by decide)))
    have n2 : ¬ (x5).toInt = 2 := fun h => c46 (Int32.toInt_inj.mp (h.trans (by decide)))
    have n3 : ¬ (x5).toInt = 3 := fun h => c59 (Int32.toInt_inj.mp (h.trans (by decide)))
    have n4 : ¬ (x5).toInt = 4 := fun h => c104 (Int32.toInt_inj.mp (h.trans (by decide)))
    have n5 : ¬ (x5).toInt = 5 := fun h => c105 (Int32.toInt_inj.mp (h.trans (by decide)))
    have n6 : ¬ (x5).toInt = 6 := fun h => c106 (Int32.toInt_inj.mp (h.trans (by decide)))
    have n7 : ¬ (x5).toInt = 7 := fun h => c107 (Int32.toInt_inj.mp (h.trans (by decide)))
    have n8 : ¬ (x5).toInt = 8 := fun h => c64 (Int32.toInt_inj.mp (h.trans (by decide)))
    have n9 : ¬ (x5).toInt = 9 := fun h => c71 (Int32.toInt_inj.mp (h.trans (by decide)))
    have n10 : ¬ (x5).toInt = 10 := fun h => c77 (Int32.toInt_inj.mp (h.trans (by decide)))
    have n11 : ¬ (x5).toInt = 11 := fun h => c84 (Int32.toInt_inj.mp (h.trans (by decide)))
    have n12 : ¬ (x5).toInt = 12 := fun h => c90 (Int32.toInt_inj.mp (h.trans (by decide)))
    omega
def b_X5_one_251 (x1 x2 x3 x5 x6 z0 : Int32) (σ : St) : Option (Int32 × St) :=
  (f_X5_takes x5 σ).bind fun u14 =>
  if u14 ≤ 1 then
    b_X5_one_270 x1 x2 x3 x5 x6 z0 0 σ
  else
    (f_X5_pop σ).bind fun u109 =>
    b_X5_one_270 x1 x2 x3 x5 x6 z0 u109.1 u109.2
set_option maxHeartbeats 4000000 in
set_option maxRecDepth 100000 in
theorem w_b_X5_one_251 {l : Launch} {p : Program} {e : Env} {s : State} {m : MethodId} {args : Array Value} {below : List Frame} {meth : Method} {c : Code} {A : Nat → Prop} {D : va_G} {ty : Nat → ClassId} {q : Nat → Nat} {res : Int32 × St} (X : CallFix p m c cX5_one 10 s args tb RX5) (hlk : meth.locks = false) (hr : meth.sig.returnType = none) {σ : St} {H : Heap} {locs : List Loc} (hI : Inw D ty FxM (wM ty q σ) A s H locs) (x1 x2 x3 x5 x6 z0 : Int32) (hF : b_X5_one_251 x1 x2 x3 x5 x6 z0 σ = some res) (ls : Array Slot) (hl : lv_has ls 10 [(0, .ref (q 0)), (1, .int x1), (2, .int x2), (3, .int x3), (5, .int x5), (6, .int x6)]) : W p l e rm_X5_one s m args below meth c H locs 0 0 (MQ below (Qvw D ty (wM ty q) A res) args s 0 0 A) (F0 m 251 ls [.int z0]) := by
  unfold b_X5_one_251 at hF
  refine lv_istore (lv' := [(7, .int z0), (0, .ref (q 0)), (1, .int x1), (2, .int x2), (3, .int x3), (5, .int x5), (6, .int x6)]) X.1 X.2.1 dX5_one_251 hl (by decide) rfl (fun ls hl => ?_)
  refine lv_iload X.1 X.2.1 dX5_one_253 (lv_at hl 5 rfl) ?_
  obtain ⟨u14, h15, hF⟩ := fb_bnd hF
  refine cs_i (w := wM ty q) (σ := σ) (rest := []) X fxM hI (m_X5_takes l D ty q σ _ x5 h15) ok_X5_takes ml_X5_107 ⟨rfl, rfl, Nat.le_of_ble_eq_true rfl, Nat.le_of_ble_eq_true rfl⟩ rfl hl.1 rfl (Nat.le_of_ble_eq_true rfl) ⟨Nat.le_of_ble_eq_true rfl, Nat.le_of_ble_eq_true rfl⟩ dX5_one_255 (fun H locs hI => ?_)
  refine lv_iconst (v := 1) X.1 X.2.1 dX5_one_258 (by decide) ?_
  refine lv_icmp_le (tgt := 269) X.1 X.2.1 dX5_one_259 (by decide) (fun c16 => ?_) (fun c16 => ?_)
  · replace hF := fb_pos c16 hF
    refine lv_iconst (v := 0) X.1 X.2.1 dX5_one_269 (by decide) ?_
    exact w_b_X5_one_270 X hlk hr hI x1 x2 x3 x5 x6 z0 0 hF ls (lv_sub hl [1, 2, 3, 4, 5, 6, 0] rfl)
  · replace hF := fb_neg c16 hF
    refine lv_aload_n X.1 X.2.1 dX5_one_262 rfl (lv_at hl 1 rfl) ?_
    obtain ⟨u109, h110, hF⟩ := fb_bnd hF
    refine cl_i (w := wM ty q) (σ := σ) (rest := []) X fxM hI (m_X5_pop l D ty q σ _  h110) ok_X5_pop ml_X5_110 ⟨rfl, rfl, Nat.le_of_ble_eq_true rfl, Nat.le_of_ble_eq_true rfl⟩ 0 rc_X5 rfl rfl hl.1 rfl (Nat.le_of_ble_eq_true rfl) ⟨Nat.le_of_ble_eq_true rfl, Nat.le_of_ble_eq_true rfl⟩ dX5_one_263 (fun H locs hI => ?_)
    refine lv_goto (tgt := 270) X.1 X.2.1 dX5_one_266 (by decide) ?_
    exact w_b_X5_one_270 X hlk hr hI x1 x2 x3 x5 x6 z0 u109.1 hF ls (lv_sub hl [1, 2, 3, 4, 5, 6, 0] rfl)
def b_X5_one_224 (x1 x2 x3 x4 x5 x6 : Int32) (σ : St) : Option (Int32 × St) :=
  if x4 = 0 then
    some (0, sI σ 1 3)
  else
    (f_X5_takes x5 σ).bind fun u11 =>
    if u11 ≤ 0 then
      b_X5_one_251 x1 x2 x3 x5 x6 0 σ
    else
      (f_X5_pop σ).bind fun u111 =>
      b_X5_one_251 x1 x2 x3 x5 x6 u111.1 u111.2
set_option maxHeartbeats 4000000 in
set_option maxRecDepth 100000 in
theorem w_b_X5_one_224 {l : Launch} {p : Program} {e : Env} {s : State} {m : MethodId} {args : Array Value} {below : List Frame} {meth : Method} {c : Code} {A : Nat → Prop} {D : va_G} {ty : Nat → ClassId} {q : Nat → Nat} {res : Int32 × St} (X : CallFix p m c cX5_one 10 s args tb RX5) (hlk : meth.locks = false) (hr : meth.sig.returnType = none) {σ : St} {H : Heap} {locs : List Loc} (hI : Inw D ty FxM (wM ty q σ) A s H locs) (x1 x2 x3 x4 x5 x6 : Int32) (hF : b_X5_one_224 x1 x2 x3 x4 x5 x6 σ = some res) (ls : Array Slot) (hl : lv_has ls 10 [(0, .ref (q 0)), (1, .int x1), (2, .int x2), (3, .int x3), (4, .int x4), (5, .int x5), (6, .int x6)]) : W p l e rm_X5_one s m args below meth c H locs 0 0 (MQ below (Qvw D ty (wM ty q) A res) args s 0 0 A) (F0 m 224 ls []) := by
  unfold b_X5_one_224 at hF
  refine lv_iload X.1 X.2.1 dX5_one_224 (lv_at hl 4 rfl) ?_
  refine lv_if_ne (tgt := 235) X.1 X.2.1 dX5_one_226 (by decide) (fun c10 => ?_) (fun c10 => ?_)
  · replace hF := fb_neg c10 hF
    refine lv_iload X.1 X.2.1 dX5_one_235 (lv_at hl 5 rfl) ?_
    obtain ⟨u11, h12, hF⟩ := fb_bnd hF
    refine cs_i (w := wM ty q) (σ := σ) (rest := []) X fxM hI (m_X5_takes l D ty q σ _ x5 h12) ok_X5_takes ml_X5_107 ⟨rfl, rfl, Nat.le_of_ble_eq_true rfl, Nat.le_of_ble_eq_true rfl⟩ rfl hl.1 rfl (Nat.le_of_ble_eq_true rfl) ⟨Nat.le_of_ble_eq_true rfl, Nat.le_of_ble_eq_true rfl⟩ dX5_one_237 (fun H locs hI => ?_)
    refine lv_if_le (tgt := 250) X.1 X.2.1 dX5_one_240 (by decide) (fun c13 => ?_) (fun c13 => ?_)
    · replace hF := fb_pos c13 hF
      refine lv_iconst (v := 0) X.1 X.2.1 dX5_one_250 (by decide) ?_
      exact w_b_X5_one_251 X hlk hr hI x1 x2 x3 x5 x6 0 hF ls (lv_sub hl [0, 1, 2, 3, 5, 6] rfl)
    · replace hF := fb_neg c13 hF
      refine lv_aload_n X.1 X.2.1 dX5_one_243 rfl (lv_at hl 0 rfl) ?_
      obtain ⟨u111, h112, hF⟩ := fb_bnd hF
      refine cl_i (w := wM ty q) (σ := σ) (rest := []) X fxM hI (m_X5_pop l D ty q σ _  h112) ok_X5_pop ml_X5_110 ⟨rfl, rfl, Nat.le_of_ble_eq_true rfl, Nat.le_of_ble_eq_true rfl⟩ 0 rc_X5 rfl rfl hl.1 rfl (Nat.le_of_ble_eq_true rfl) ⟨Nat.le_of_ble_eq_true rfl, Nat.le_of_ble_eq_true rfl⟩ dX5_one_244 (fun H locs hI => ?_)
      refine lv_goto (tgt := 251) X.1 X.2.1 dX5_one_247 (by decide) ?_
      exact w_b_X5_one_251 X hlk hr hI x1 x2 x3 x5 x6 u111.1 hF ls (lv_sub hl [0, 1, 2, 3, 5, 6] rfl)
  · replace hF := fb_pos c10 hF
    refine lv_aload_n X.1 X.2.1 dX5_one_229 rfl (lv_at hl 0 rfl) ?_
    refine lv_iconst (v := 3) X.1 X.2.1 dX5_one_230 (by decide) ?_
    refine p_X5_state X hI dX5_one_231 (fun H locs hI => ?_)
    exact rt_v X hlk hr hI hF dX5_one_234
def b_X5_one_222 (x1 x2 x3 x5 x6 z0 : Int32) (σ : St) : Option (Int32 × St) :=
  b_X5_one_224 x1 x2 x3 z0 x5 x6 σ
set_option maxHeartbeats 4000000 in
set_option maxRecDepth 100000 in
theorem w_b_X5_one_222 {l : Launch} {p : Program} {e : Env} {s : State} {m : MethodId} {args : Array Value} {below : List Frame} {meth : Method} {c : Code} {A : Nat → Prop} {D : va_G} {ty : Nat → ClassId} {q : Nat → Nat} {res : Int32 × St} (X : CallFix p m c cX5_one 10 s args tb RX5) (hlk : meth.locks = false) (hr : meth.sig.returnType = none) {σ : St} {H : Heap} {locs : List Loc} (hI : Inw D ty FxM (wM ty q σ) A s H locs) (x1 x2 x3 x5 x6 z0 : Int32) (hF : b_X5_one_222 x1 x2 x3 x5 x6 z0 σ = some res) (ls : Array Slot) (hl : lv_has ls 10 [(0, .ref (q 0)), (1, .int x1), (2, .int x2), (3, .int x3), (5, .int x5), (6, .int x6)]) : W p l e rm_X5_one s m args below meth c H locs 0 0 (MQ below (Qvw D ty (wM ty q) A res) args s 0 0 A) (F0 m 222 ls [.int z0]) := by
  unfold b_X5_one_222 at hF
  refine lv_istore (lv' := [(4, .int z0), (0, .ref (q 0)), (1, .int x1), (2, .int x2), (3, .int x3), (5, .int x5), (6, .int x6)]) X.1 X.2.1 dX5_one_222 hl (by decide) rfl (fun ls hl => ?_)
  exact w_b_X5_one_224 X hlk hr hI x1 x2 x3 z0 x5 x6 hF ls (lv_sub hl [1, 2, 3, 4, 0, 5, 6] rfl)
def b_X5_one_221 (x1 x2 x3 x5 x6 : Int32) (σ : St) : Option (Int32 × St) :=
  b_X5_one_222 x1 x2 x3 x5 x6 0 σ
set_option maxHeartbeats 4000000 in
set_option maxRecDepth 100000 in
theorem w_b_X5_one_221 {l : Launch} {p : Program} {e : Env} {s : State} {m : MethodId} {args : Array Value} {below : List Frame} {meth : Method} {c : Code} {A : Nat → Prop} {D : va_G} {ty : Nat → ClassId} {q : Nat → Nat} {res : Int32 × St} (X : CallFix p m c cX5_one 10 s args tb RX5) (hlk : meth.locks = false) (hr : meth.sig.returnType = none) {σ : St} {H : Heap} {locs : List Loc} (hI : Inw D ty FxM (wM ty q σ) A s H locs) (x1 x2 x3 x5 x6 : Int32) (hF : b_X5_one_221 x1 x2 x3 x5 x6 σ = some res) (ls : Array Slot) (hl : lv_has ls 10 [(0, .ref (q 0)), (1, .int x1), (2, .int x2), (3, .int x3), (5, .int x5), (6, .int x6)]) : W p l e rm_X5_one s m args below meth c H locs 0 0 (MQ below (Qvw D ty (wM ty q) A res) args s 0 0 A) (F0 m 221 ls []) := by
  unfold b_X5_one_221 at hF
  refine lv_iconst (v := 0) X.1 X.2.1 dX5_one_221 (by decide) ?_
  exact w_b_X5_one_222 X hlk hr hI x1 x2 x3 x5 x6 0 hF ls (lv_sub hl [0, 1, 2, 3, 4, 5] rfl)
def b_X5_one_196 (x1 x2 x3 x4 x5 x6 : Int32) (σ : St) : Option (Int32 × St) :=
  if x5 = 12 then
    if x4 = 0 then
      b_X5_one_221 x1 x2 x3 x5 x6 σ
    else
      if 40 ≤ (gI σ 10) then
        b_X5_one_221 x1 x2 x3 x5 x6 σ
      else
        b_X5_one_222 x1 x2 x3 x5 x6 1 σ
  else
    b_X5_one_224 x1 x2 x3 x4 x5 x6 σ
set_option maxHeartbeats 4000000 in
set_option maxRecDepth 100000 in
theorem w_b_X5_one_196 {l : Launch} {p : Program} {e : Env} {s : State} {m : MethodId} {args : Array Value} {below : List Frame} {meth : Method} {c : Code} {A : Nat → Prop} {D : va_G} {ty : Nat → ClassId} {q : Nat → Nat} {res : Int32 × St} (X : CallFix p m c cX5_one 10 s args tb RX5) (hlk : meth.locks = false) (hr : meth.sig.returnType = none) {σ : St} {H : Heap} {locs : List Loc} (hI : Inw D ty FxM (wM ty q σ) A s H locs) (x1 x2 x3 x4 x5 x6 : Int32) (hF : b_X5_one_196 x1 x2 x3 x4 x5 x6 σ = some res) (ls : Array Slot) (hl : lv_has ls 10 [(0, .ref (q 0)), (1, .int x1), (2, .int x2), (3, .int x3), (4, .int x4), (5, .int x5), (6, .int x6)]) : W p l e rm_X5_one s m args below meth c H locs 0 0 (MQ below (Qvw D ty (wM ty q) A res) args s 0 0 A) (F0 m 196 ls []) := by
  unfold b_X5_one_196 at hF
  refine lv_iload X.1 X.2.1 dX5_one_196 (lv_at hl 5 rfl) ?_
  refine lv_bipush (v := 12) X.1 X.2.1 dX5_one_198 (by decide) ?_
  refine lv_icmp_ne (tgt := 224) X.1 X.2.1 dX5_one_200 (by decide) (fun c9 => ?_) (fun c9 => ?_)
  · replace hF := fb_neg c9 hF
    exact w_b_X5_one_224 X hlk hr hI x1 x2 x3 x4 x5 x6 hF ls (lv_sub hl [0, 1, 2, 3, 4, 5, 6] rfl)
  · replace hF := fb_pos c9 hF
    refine lv_iload X.1 X.2.1 dX5_one_203 (lv_at hl 4 rfl) ?_
    refine lv_if_eq (tgt := 221) X.1 X.2.1 dX5_one_205 (by decide) (fun c113 => ?_) (fun c113 => ?_)
    · replace hF := fb_pos c113 hF
      exact w_b_X5_one_221 X hlk hr hI x1 x2 x3 x5 x6 hF ls (lv_sub hl [0, 1, 2, 3, 5, 6] rfl)
    · replace hF := fb_neg c113 hF
      refine lv_aload_n X.1 X.2.1 dX5_one_208 rfl (lv_at hl 0 rfl) ?_
      refine g_X5_puts (v := gI σ 10) X hI rfl dX5_one_209 ?_
      refine lv_bipush (v := 40) X.1 X.2.1 dX5_one_212 (by decide) ?_
      refine lv_icmp_ge (tgt := 221) X.1 X.2.1 dX5_one_214 (by decide) (fun c114 => ?_) (fun c114 => ?_)
      · replace hF := fb_pos c114 hF
        exact w_b_X5_one_221 X hlk hr hI x1 x2 x3 x5 x6 hF ls (lv_sub hl [0, 1, 2, 3, 5, 6] rfl)
      · replace hF := fb_neg c114 hF
        refine lv_iconst (v := 1) X.1 X.2.1 dX5_one_217 (by decide) ?_
        refine lv_goto (tgt := 222) X.1 X.2.1 dX5_one_218 (by decide) ?_
        exact w_b_X5_one_222 X hlk hr hI x1 x2 x3 x5 x6 1 hF ls (lv_sub hl [0, 1, 2, 3, 5, 6] rfl)
def b_X5_one_194 (x1 x2 x3 x5 x6 z0 : Int32) (σ : St) : Option (Int32 × St) :=
  b_X5_one_196 x1 x2 x3 z0 x5 x6 σ
set_option maxHeartbeats 4000000 in
set_option maxRecDepth 100000 in
theorem w_b_X5_one_194 {l : Launch} {p : Program} {e : Env} {s : State} {m : MethodId} {args : Array Value} {below : List Frame} {meth : Method} {c : Code} {A : Nat → Prop} {D : va_G} {ty : Nat → ClassId} {q : Nat → Nat} {res : Int32 × St} (X : CallFix p m c cX5_one 10 s args tb RX5) (hlk : meth.locks = false) (hr : meth.sig.returnType = none) {σ : St} {H : Heap} {locs : List Loc} (hI : Inw D ty FxM (wM ty q σ) A s H locs) (x1 x2 x3 x5 x6 z0 : Int32) (hF : b_X5_one_194 x1 x2 x3 x5 x6 z0 σ = some res) (ls : Array Slot) (hl : lv_has ls 10 [(0, .ref (q 0)), (1, .int x1), (2, .int x2), (3, .int x3), (5, .int x5), (6, .int x6)]) : W p l e rm_X5_one s m args below meth c H locs 0 0 (MQ below (Qvw D ty (wM ty q) A res) args s 0 0 A) (F0 m 194 ls [.int z0]) := by
  unfold b_X5_one_194 at hF
  refine lv_istore (lv' := [(4, .int z0), (0, .ref (q 0)), (1, .int x1), (2, .int x2), (3, .int x3), (5, .int x5), (6, .int x6)]) X.1 X.2.1 dX5_one_194 hl (by decide) rfl (fun ls hl => ?_)
  exact w_b_X5_one_196 X hlk hr hI x1 x2 x3 z0 x5 x6 hF ls (lv_sub hl [1, 2, 3, 4, 0, 5, 6] rfl)
def b_X5_one_193 (x1 x2 x3 x5 x6 : Int32) (σ : St) : Option (Int32 × St) :=
  b_X5_one_194 x1 x2 x3 x5 x6 0 σ
set_option maxHeartbeats 4000000 in
set_option maxRecDepth 100000 in
theorem w_b_X5_one_193 {l : Launch} {p : Program} {e : Env} {s : State} {m : MethodId} {args : Array Value} {below : List Frame} {meth : Method} {c : Code} {A : Nat → Prop} {D : va_G} {ty : Nat → ClassId} {q : Nat → Nat} {res : Int32 × St} (X : CallFix p m c cX5_one 10 s args tb RX5) (hlk : meth.locks = false) (hr : meth.sig.returnType = none) {σ : St} {H : Heap} {locs : List Loc} (hI : Inw D ty FxM (wM ty q σ) A s H locs) (x1 x2 x3 x5 x6 : Int32) (hF : b_X5_one_193 x1 x2 x3 x5 x6 σ = some res) (ls : Array Slot) (hl : lv_has ls 10 [(0, .ref (q 0)), (1, .int x1), (2, .int x2), (3, .int x3), (5, .int x5), (6, .int x6)]) : W p l e rm_X5_one s m args below meth c H locs 0 0 (MQ below (Qvw D ty (wM ty q) A res) args s 0 0 A) (F0 m 193 ls []) := by
  unfold b_X5_one_193 at hF
  refine lv_iconst (v := 0) X.1 X.2.1 dX5_one_193 (by decide) ?_
  exact w_b_X5_one_194 X hlk hr hI x1 x2 x3 x5 x6 0 hF ls (lv_sub hl [0, 1, 2, 3, 4, 5] rfl)
def b_X5_one_168 (x1 x2 x3 x4 x5 x6 : Int32) (σ : St) : Option (Int32 × St) :=
  if x4 = 0 then
    b_X5_one_193 x1 x2 x3 x5 x6 σ
  else
    if x6 < 0 then
      b_X5_one_193 x1 x2 x3 x5 x6 σ
    else
      if inB x1 520 = true then
        if (gA σ 6 x1) ≤ x6 then
          b_X5_one_193 x1 x2 x3 x5 x6 σ
        else
          b_X5_one_194 x1 x2 x3 x5 x6 1 σ
      else none
set_option maxHeartbeats 4000000 in
set_option maxRecDepth 100000 in
theorem w_b_X5_one_168 {l : Launch} {p : Program} {e : Env} {s : State} {m : MethodId} {args : Array Value} {below : List Frame} {meth : Method} {c : Code} {A : Nat → Prop} {D : va_G} {ty : Nat → ClassId} {q : Nat → Nat} {res : Int32 × St} (X : CallFix p m c cX5_one 10 s args tb RX5) (hlk : meth.locks = false) (hr : meth.sig.returnType = none) {σ : St} {H : Heap} {locs : List Loc} (hI : Inw D ty FxM (wM ty q σ) A s H locs) (x1 x2 x3 x4 x5 x6 : Int32) (hF : b_X5_one_168 x1 x2 x3 x4 x5 x6 σ = some res) (ls : Array Slot) (hl : lv_has ls 10 [(0, .ref (q 0)), (1, .int x1), (2, .int x2), (3, .int x3), (4, .int x4), (5, .int x5), (6, .int x6)]) : W p l e rm_X5_one s m args below meth c H locs 0 0 (MQ below (Qvw D ty (wM ty q) A res) args s 0 0 A) (F0 m 168 ls []) := by
  unfold b_X5_one_168 at hF
  refine lv_iload X.1 X.2.1 dX5_one_168 (lv_at hl 4 rfl) ?_
  refine lv_if_eq (tgt := 193) X.1 X.2.1 dX5_one_170 (by decide) (fun c8 => ?_) (fun c8 => ?_)
  · replace hF := fb_pos c8 hF
    exact w_b_X5_one_193 X hlk hr hI x1 x2 x3 x5 x6 hF ls (lv_sub hl [0, 1, 2, 3, 5, 6] rfl)
  · replace hF := fb_neg c8 hF
    refine lv_iload X.1 X.2.1 dX5_one_173 (lv_at hl 6 rfl) ?_
    refine lv_if_lt (tgt := 193) X.1 X.2.1 dX5_one_175 (by decide) (fun c115 => ?_) (fun c115 => ?_)
    · replace hF := fb_pos c115 hF
      exact w_b_X5_one_193 X hlk hr hI x1 x2 x3 x5 x6 hF ls (lv_sub hl [0, 1, 2, 3, 5, 6] rfl)
    · replace hF := fb_neg c115 hF
      refine lv_iload X.1 X.2.1 dX5_one_178 (lv_at hl 6 rfl) ?_
      refine lv_aload_n X.1 X.2.1 dX5_one_180 rfl (lv_at hl 0 rfl) ?_
      refine g_X5_locals X hI dX5_one_181 ?_
      refine lv_iload_n X.1 X.2.1 dX5_one_184 rfl (lv_at hl 1 rfl) ?_
      obtain ⟨h116, hF⟩ := fb_chk hF
      refine aM_6 (v := gA σ 6 x1) X hI rfl h116 dX5_one_185 ?_
      refine lv_icmp_ge (tgt := 193) X.1 X.2.1 dX5_one_186 (by decide) (fun c117 => ?_) (fun c117 => ?_)
      · replace hF := fb_pos c117 hF
        exact w_b_X5_one_193 X hlk hr hI x1 x2 x3 x5 x6 hF ls (lv_sub hl [0, 1, 2, 3, 5, 6] rfl)
      · replace hF := fb_neg c117 hF
        refine lv_iconst (v := 1) X.1 X.2.1 dX5_one_189 (by decide) ?_
        refine lv_goto (tgt := 194) X.1 X.2.1 dX5_one_190 (by decide) ?_
        exact w_b_X5_one_194 X hlk hr hI x1 x2 x3 x5 x6 1 hF ls (lv_sub hl [0, 1, 2, 3, 5, 6] rfl)
def b_X5_one_154 (x1 x2 x3 x4 x5 z0 : Int32) (σ : St) : Option (Int32 × St) :=
  if x5 = 2 then
    b_X5_one_168 x1 x2 x3 x4 x5 z0 σ
  else
    if x5 = 3 then
      b_X5_one_168 x1 x2 x3 x4 x5 z0 σ
    else
      b_X5_one_196 x1 x2 x3 x4 x5 z0 σ
set_option maxHeartbeats 4000000 in
set_option maxRecDepth 100000 in
theorem w_b_X5_one_154 {l : Launch} {p : Program} {e : Env} {s : State} {m : MethodId} {args : Array Value} {below : List Frame} {meth : Method} {c : Code} {A : Nat → Prop} {D : va_G} {ty : Nat → ClassId} {q : Nat → Nat} {res : Int32 × St} (X : CallFix p m c cX5_one 10 s args tb RX5) (hlk : meth.locks = false) (hr : meth.sig.returnType = none) {σ : St} {H : Heap} {locs : List Loc} (hI : Inw D ty FxM (wM ty q σ) A s H locs) (x1 x2 x3 x4 x5 z0 : Int32) (hF : b_X5_one_154 x1 x2 x3 x4 x5 z0 σ = some res) (ls : Array Slot) (hl : lv_has ls 10 [(0, .ref (q 0)), (1, .int x1), (2, .int x2), (3, .int x3), (4, .int x4), (5, .int x5)]) : W p l e rm_X5_one s m args below meth c H locs 0 0 (MQ below (Qvw D ty (wM ty q) A res) args s 0 0 A) (F0 m 154 ls [.int z0]) := by
  unfold b_X5_one_154 at hF
  refine lv_istore (lv' := [(6, .int z0), (0, .ref (q 0)), (1, .int x1), (2, .int x2), (3, .int x3), (4, .int x4), (5, .int x5)]) X.1 X.2.1 dX5_one_154 hl (by decide) rfl (fun ls hl => ?_)
  refine lv_iload X.1 X.2.1 dX5_one_156 (lv_at hl 6 rfl) ?_
  refine lv_iconst (v := 2) X.1 X.2.1 dX5_one_158 (by decide) ?_
  refine lv_icmp_eq (tgt := 168) X.1 X.2.1 dX5_one_159 (by decide) (fun c7 => ?_) (fun c7 => ?_)
  · replace hF := fb_pos c7 hF
    exact w_b_X5_one_168 X hlk hr hI x1 x2 x3 x4 x5 z0 hF ls (lv_sub hl [1, 2, 3, 4, 5, 6, 0] rfl)
  · replace hF := fb_neg c7 hF
    refine lv_iload X.1 X.2.1 dX5_one_162 (lv_at hl 6 rfl) ?_
    refine lv_iconst (v := 3) X.1 X.2.1 dX5_one_164 (by decide) ?_
    refine lv_icmp_ne (tgt := 196) X.1 X.2.1 dX5_one_165 (by decide) (fun c118 => ?_) (fun c118 => ?_)
    · replace hF := fb_neg c118 hF
      exact w_b_X5_one_196 X hlk hr hI x1 x2 x3 x4 x5 z0 hF ls (lv_sub hl [1, 2, 3, 4, 5, 6, 0] rfl)
    · replace hF := fb_pos c118 hF
      exact w_b_X5_one_168 X hlk hr hI x1 x2 x3 x4 x5 z0 hF ls (lv_sub hl [1, 2, 3, 4, 5, 6, 0] rfl)
def b_X5_one_153 (x1 x2 x3 x4 x5 : Int32) (σ : St) : Option (Int32 × St) :=
  b_X5_one_154 x1 x2 x3 x4 x5 0 σ
set_option maxHeartbeats 4000000 in
set_option maxRecDepth 100000 in
theorem w_b_X5_one_153 {l : Launch} {p : Program} {e : Env} {s : State} {m : MethodId} {args : Array Value} {below : List Frame} {meth : Method} {c : Code} {A : Nat → Prop} {D : va_G} {ty : Nat → ClassId} {q : Nat → Nat} {res : Int32 × St} (X : CallFix p m c cX5_one 10 s args tb RX5) (hlk : meth.locks = false) (hr : meth.sig.returnType = none) {σ : St} {H : Heap} {locs : List Loc} (hI : Inw D ty FxM (wM ty q σ) A s H locs) (x1 x2 x3 x4 x5 : Int32) (hF : b_X5_one_153 x1 x2 x3 x4 x5 σ = some res) (ls : Array Slot) (hl : lv_has ls 10 [(0, .ref (q 0)), (1, .int x1), (2, .int x2), (3, .int x3), (4, .int x4), (5, .int x5)]) : W p l e rm_X5_one s m args below meth c H locs 0 0 (MQ below (Qvw D ty (wM ty q) A res) args s 0 0 A) (F0 m 153 ls []) := by
  unfold b_X5_one_153 at hF
  refine lv_iconst (v := 0) X.1 X.2.1 dX5_one_153 (by decide) ?_
  exact w_b_X5_one_154 X hlk hr hI x1 x2 x3 x4 x5 0 hF ls (lv_sub hl [0, 1, 2, 3, 4, 5] rfl)
def b_X5_one_121 (x1 x2 x3 x5 z0 : Int32) (σ : St) : Option (Int32 × St) :=
  if z0 = 0 then
    b_X5_one_153 x1 x2 x3 z0 x5 σ
  else
    (f_X5_size x5 σ).bind fun u119 =>
    if u119 ≤ 1 then
      b_X5_one_153 x1 x2 x3 z0 x5 σ
    else
      if inB (((80 * x2) + x3) + 1) 400 = true then
        b_X5_one_154 x1 x2 x3 z0 x5 (gA σ 0 (((80 * x2) + x3) + 1)) σ
      else none
set_option maxHeartbeats 4000000 in
set_option maxRecDepth 100000 in
theorem w_b_X5_one_121 {l : Launch} {p : Program} {e : Env} {s : State} {m : MethodId} {args : Array Value} {below : List Frame} {meth : Method} {c : Code} {A : Nat → Prop} {D : va_G} {ty : Nat → ClassId} {q : Nat → Nat} {res : Int32 × St} (X : CallFix p m c cX5_one 10 s args tb RX5) (hlk : meth.locks = false) (hr : meth.sig.returnType = none) {σ : St} {H : Heap} {locs : List Loc} (hI : Inw D ty FxM (wM ty q σ) A s H locs) (x1 x2 x3 x5 z0 : Int32) (hF : b_X5_one_121 x1 x2 x3 x5 z0 σ = some res) (ls : Array Slot) (hl : lv_has ls 10 [(0, .ref (q 0)), (1, .int x1), (2, .int x2), (3, .int x3), (5, .int x5)]) : W p l e rm_X5_one s m args below meth c H locs 0 0 (MQ below (Qvw D ty (wM ty q) A res) args s 0 0 A) (F0 m 121 ls [.int z0]) := by
  unfold b_X5_one_121 at hF
  refine lv_istore (lv' := [(4, .int z0), (0, .ref (q 0)), (1, .int x1), (2, .int x2), (3, .int x3), (5, .int x5)]) X.1 X.2.1 dX5_one_121 hl (by decide) rfl (fun ls hl => ?_)
  refine lv_iload X.1 X.2.1 dX5_one_123 (lv_at hl 0 rfl) ?_
  refine lv_if_eq (tgt := 153) X.1 X.2.1 dX5_one_125 (by decide) (fun c6 => ?_) (fun c6 => ?_)
  · replace hF := fb_pos c6 hF
    exact w_b_X5_one_153 X hlk hr hI x1 x2 x3 z0 x5 hF ls (lv_sub hl [1, 2, 3, 4, 0, 5] rfl)
  · replace hF := fb_neg c6 hF
    refine lv_iload X.1 X.2.1 dX5_one_128 (lv_at hl 5 rfl) ?_
    obtain ⟨u119, h120, hF⟩ := fb_bnd hF
    refine cs_i (w := wM ty q) (σ := σ) (rest := []) X fxM hI (m_X5_size l D ty q σ _ x5 h120) ok_X5_size ml_X5_104 ⟨rfl, rfl, Nat.le_of_ble_eq_true rfl, Nat.le_of_ble_eq_true rfl⟩ rfl hl.1 rfl (Nat.le_of_ble_eq_true rfl) ⟨Nat.le_of_ble_eq_true rfl, Nat.le_of_ble_eq_true rfl⟩ dX5_one_130 (fun H locs hI => ?_)
    refine lv_iconst (v := 1) X.1 X.2.1 dX5_one_133 (by decide) ?_
    refine lv_icmp_le (tgt := 153) X.1 X.2.1 dX5_one_134 (by decide) (fun c121 => ?_) (fun c121 => ?_)
    · replace hF := fb_pos c121 hF
      exact w_b_X5_one_153 X hlk hr hI x1 x2 x3 z0 x5 hF ls (lv_sub hl [1, 2, 3, 4, 0, 5] rfl)
    · replace hF := fb_neg c121 hF
      refine lv_aload_n X.1 X.2.1 dX5_one_137 rfl (lv_at hl 1 rfl) ?_
      refine g_X5_disk X hI dX5_one_138 ?_
      refine lv_bipush (v := 80) X.1 X.2.1 dX5_one_141 (by decide) ?_
      refine lv_iload_n X.1 X.2.1 dX5_one_143 rfl (lv_at hl 3 rfl) ?_
      refine lv_imul X.1 X.2.1 dX5_one_144 ?_
      refine lv_iload_n X.1 X.2.1 dX5_one_145 rfl (lv_at hl 4 rfl) ?_
      refine lv_iadd X.1 X.2.1 dX5_one_146 ?_
      refine lv_iconst (v := 1) X.1 X.2.1 dX5_one_147 (by decide) ?_
      refine lv_iadd X.1 X.2.1 dX5_one_148 ?_
      obtain ⟨h122, hF⟩ := fb_chk hF
      refine aM_0 (v := gA σ 0 (((80 * x2) + x3) + 1)) X hI rfl h122 dX5_one_149 ?_
      refine lv_goto (tgt := 154) X.1 X.2.1 dX5_one_150 (by decide) ?_
      exact w_b_X5_one_154 X hlk hr hI x1 x2 x3 z0 x5 (gA σ 0 (((80 * x2) + x3) + 1)) hF ls (lv_sub hl [1, 2, 3, 4, 0, 5] rfl)
def b_X5_one_120 (x1 x2 x3 x5 : Int32) (σ : St) : Option (Int32 × St) :=
  b_X5_one_121 x1 x2 x3 x5 0 σ
set_option maxHeartbeats 4000000 in
set_option maxRecDepth 100000 in
theorem w_b_X5_one_120 {l : Launch} {p : Program} {e : Env} {s : State} {m : MethodId} {args : Array Value} {below : List Frame} {meth : Method} {c : Code} {A : Nat → Prop} {D : va_G} {ty : Nat → ClassId} {q : Nat → Nat} {res : Int32 × St} (X : CallFix p m c cX5_one 10 s args tb RX5) (hlk : meth.locks = false) (hr : meth.sig.returnType = none) {σ : St} {H : Heap} {locs : List Loc} (hI : Inw D ty FxM (wM ty q σ) A s H locs) (x1 x2 x3 x5 : Int32) (hF : b_X5_one_120 x1 x2 x3 x5 σ = some res) (ls : Array Slot) (hl : lv_has ls 10 [(0, .ref (q 0)), (1, .int x1), (2, .int x2), (3, .int x3), (5, .int x5)]) : W p l e rm_X5_one s m args below meth c H locs 0 0 (MQ below (Qvw D ty (wM ty q) A res) args s 0 0 A) (F0 m 120 ls []) := by
  unfold b_X5_one_120 at hF
  refine lv_iconst (v := 0) X.1 X.2.1 dX5_one_120 (by decide) ?_
  exact w_b_X5_one_121 X hlk hr hI x1 x2 x3 x5 0 hF ls (lv_sub hl [0, 1, 2, 3, 4] rfl)
def b_X5_one_62 (x1 x2 x3 x4 z0 : Int32) (σ : St) : Option (Int32 × St) :=
  if x4 = 0 then
    b_X5_one_120 x1 x2 x3 z0 σ
  else
    if z0 < 0 then
      b_X5_one_120 x1 x2 x3 z0 σ
    else
      if 12 < z0 then
        b_X5_one_120 x1 x2 x3 z0 σ
      else
        (f_X5_size z0 σ).bind fun u125 =>
        if inB x2 5 = true then
          if (gA σ 1 x2) < (x3 + u125) then
            b_X5_one_120 x1 x2 x3 z0 σ
          else
            if inB x1 520 = true then
              (f_X5_takes z0 σ).bind fun u130 =>
              if ((gI σ 8) - (gA σ 8 x1)) < u130 then
                b_X5_one_120 x1 x2 x3 z0 σ
              else
                b_X5_one_121 x1 x2 x3 z0 1 σ
            else none
        else none
set_option maxHeartbeats 4000000 in
set_option maxRecDepth 100000 in
theorem w_b_X5_one_62 {l : Launch} {p : Program} {e : Env} {s : State} {m : MethodId} {args : Array Value} {below : List Frame} {meth : Method} {c : Code} {A : Nat → Prop} {D : va_G} {ty : Nat → ClassId} {q : Nat → Nat} {res : Int32 × St} (X : CallFix p m c cX5_one 10 s args tb RX5) (hlk : meth.locks = false) (hr : meth.sig.returnType = none) {σ : St} {H : Heap} {locs : List Loc} (hI : Inw D ty FxM (wM ty q σ) A s H locs) (x1 x2 x3 x4 z0 : Int32) (hF : b_X5_one_62 x1 x2 x3 x4 z0 σ = some res) (ls : Array Slot) (hl : lv_has ls 10 [(0, .ref (q 0)), (1, .int x1), (2, .int x2), (3, .int x3), (4, .int x4)]) : W p l e rm_X5_one s m args below meth c H locs 0 0 (MQ below (Qvw D ty (wM ty q) A res) args s 0 0 A) (F0 m 62 ls [.int z0]) := by
  unfold b_X5_one_62 at hF
  refine lv_istore (lv' := [(5, .int z0), (0, .ref (q 0)), (1, .int x1), (2, .int x2), (3, .int x3), (4, .int x4)]) X.1 X.2.1 dX5_one_62 hl (by decide) rfl (fun ls hl => ?_)
  refine lv_iload X.1 X.2.1 dX5_one_64 (lv_at hl 5 rfl) ?_
  refine lv_if_eq (tgt := 120) X.1 X.2.1 dX5_one_66 (by decide) (fun c5 => ?_) (fun c5 => ?_)
  · replace hF := fb_pos c5 hF
    exact w_b_X5_one_120 X hlk hr hI x1 x2 x3 z0 hF ls (lv_sub hl [1, 2, 3, 4, 0] rfl)
  · replace hF := fb_neg c5 hF
    refine lv_iload X.1 X.2.1 dX5_one_69 (lv_at hl 0 rfl) ?_
    refine lv_if_lt (tgt := 120) X.1 X.2.1 dX5_one_71 (by decide) (fun c123 => ?_) (fun c123 => ?_)
    · replace hF := fb_pos c123 hF
      exact w_b_X5_one_120 X hlk hr hI x1 x2 x3 z0 hF ls (lv_sub hl [1, 2, 3, 4, 0] rfl)
    · replace hF := fb_neg c123 hF
      refine lv_iload X.1 X.2.1 dX5_one_74 (lv_at hl 0 rfl) ?_
      refine lv_bipush (v := 12) X.1 X.2.1 dX5_one_76 (by decide) ?_
      refine lv_icmp_gt (tgt := 120) X.1 X.2.1 dX5_one_78 (by decide) (fun c124 => ?_) (fun c124 => ?_)
      · replace hF := fb_pos c124 hF
        exact w_b_X5_one_120 X hlk hr hI x1 x2 x3 z0 hF ls (lv_sub hl [1, 2, 3, 4, 0] rfl)
      · replace hF := fb_neg c124 hF
        refine lv_iload_n X.1 X.2.1 dX5_one_81 rfl (lv_at hl 4 rfl) ?_
        refine lv_iload X.1 X.2.1 dX5_one_82 (lv_at hl 0 rfl) ?_
        obtain ⟨u125, h126, hF⟩ := fb_bnd hF
        refine cs_i (w := wM ty q) (σ := σ) (rest := [.int x3]) X fxM hI (m_X5_size l D ty q σ _ z0 h126) ok_X5_size ml_X5_104 ⟨rfl, rfl, Nat.le_of_ble_eq_true rfl, Nat.le_of_ble_eq_true rfl⟩ rfl hl.1 rfl (Nat.le_of_ble_eq_true rfl) ⟨Nat.le_of_ble_eq_true rfl, Nat.le_of_ble_eq_true rfl⟩ dX5_one_84 (fun H locs hI => ?_)
        refine lv_iadd X.1 X.2.1 dX5_one_87 ?_
        refine lv_aload_n X.1 X.2.1 dX5_one_88 rfl (lv_at hl 1 rfl) ?_
        refine g_X5_length X hI dX5_one_89 ?_
        refine lv_iload_n X.1 X.2.1 dX5_one_92 rfl (lv_at hl 3 rfl) ?_
        obtain ⟨h127, hF⟩ := fb_chk hF
        refine aM_1 (v := gA σ 1 x2) X hI rfl h127 dX5_one_93 ?_
        refine lv_icmp_gt (tgt := 120) X.1 X.2.1 dX5_one_94 (by decide) (fun c128 => ?_) (fun c128 => ?_)
        · replace hF := fb_pos c128 hF
          exact w_b_X5_one_120 X hlk hr hI x1 x2 x3 z0 hF ls (lv_sub hl [1, 2, 3, 4, 0] rfl)
        · replace hF := fb_neg c128 hF
          refine lv_aload_n X.1 X.2.1 dX5_one_97 rfl (lv_at hl 1 rfl) ?_
          refine g_X5_numbers (v := gI σ 8) X hI rfl dX5_one_98 ?_
          refine lv_aload_n X.1 X.2.1 dX5_one_101 rfl (lv_at hl 1 rfl) ?_
          refine g_X5_below X hI dX5_one_102 ?_
          refine lv_iload_n X.1 X.2.1 dX5_one_105 rfl (lv_at hl 2 rfl) ?_
          obtain ⟨h129, hF⟩ := fb_chk hF
          refine aM_8 (v := gA σ 8 x1) X hI rfl h129 dX5_one_106 ?_
          refine lv_isub X.1 X.2.1 dX5_one_107 ?_
          refine lv_iload X.1 X.2.1 dX5_one_108 (lv_at hl 0 rfl) ?_
          obtain ⟨u130, h131, hF⟩ := fb_bnd hF
          refine cs_i (w := wM ty q) (σ := σ) (rest := [.int ((gI σ 8) - (gA σ 8 x1))]) X fxM hI (m_X5_takes l D ty q σ _ z0 h131) ok_X5_takes ml_X5_107 ⟨rfl, rfl, Nat.le_of_ble_eq_true rfl, Nat.le_of_ble_eq_true rfl⟩ rfl hl.1 rfl (Nat.le_of_ble_eq_true rfl) ⟨Nat.le_of_ble_eq_true rfl, Nat.le_of_ble_eq_true rfl⟩ dX5_one_110 (fun H locs hI => ?_)
          refine lv_icmp_lt (tgt := 120) X.1 X.2.1 dX5_one_113 (by decide) (fun c132 => ?_) (fun c132 => ?_)
          · replace hF := fb_pos c132 hF
            exact w_b_X5_one_120 X hlk hr hI x1 x2 x3 z0 hF ls (lv_sub hl [1, 2, 3, 4, 0] rfl)
          · replace hF := fb_neg c132 hF
            refine lv_iconst (v := 1) X.1 X.2.1 dX5_one_116 (by decide) ?_
            refine lv_goto (tgt := 121) X.1 X.2.1 dX5_one_117 (by decide) ?_
            exact w_b_X5_one_121 X hlk hr hI x1 x2 x3 z0 1 hF ls (lv_sub hl [1, 2, 3, 4, 0] rfl)
def b_X5_one_40 (x1 x2 x3 z0 : Int32) (σ : St) : Option (Int32 × St) :=
  if z0 = 0 then
    b_X5_one_62 x1 x2 x3 z0 (-1) σ
  else
    if inB ((80 * x2) + x3) 400 = true then
      b_X5_one_62 x1 x2 x3 z0 (gA σ 0 ((80 * x2) + x3)) σ
    else none
set_option maxHeartbeats 4000000 in
set_option maxRecDepth 100000 in
theorem w_b_X5_one_40 {l : Launch} {p : Program} {e : Env} {s : State} {m : MethodId} {args : Array Value} {below : List Frame} {meth : Method} {c : Code} {A : Nat → Prop} {D : va_G} {ty : Nat → ClassId} {q : Nat → Nat} {res : Int32 × St} (X : CallFix p m c cX5_one 10 s args tb RX5) (hlk : meth.locks = false) (hr : meth.sig.returnType = none) {σ : St} {H : Heap} {locs : List Loc} (hI : Inw D ty FxM (wM ty q σ) A s H locs) (x1 x2 x3 z0 : Int32) (hF : b_X5_one_40 x1 x2 x3 z0 σ = some res) (ls : Array Slot) (hl : lv_has ls 10 [(0, .ref (q 0)), (1, .int x1), (2, .int x2), (3, .int x3)]) : W p l e rm_X5_one s m args below meth c H locs 0 0 (MQ below (Qvw D ty (wM ty q) A res) args s 0 0 A) (F0 m 40 ls [.int z0]) := by
  unfold b_X5_one_40 at hF
  refine lv_istore (lv' := [(4, .int z0), (0, .ref (q 0)), (1, .int x1), (2, .int x2), (3, .int x3)]) X.1 X.2.1 dX5_one_40 hl (by decide) rfl (fun ls hl => ?_)
  refine lv_iload X.1 X.2.1 dX5_one_42 (lv_at hl 0 rfl) ?_
  refine lv_if_eq (tgt := 61) X.1 X.2.1 dX5_one_44 (by decide) (fun c4 => ?_) (fun c4 => ?_)
  · replace hF := fb_pos c4 hF
    refine lv_iconst (v := (-1)) X.1 X.2.1 dX5_one_61 (by decide) ?_
    exact w_b_X5_one_62 X hlk hr hI x1 x2 x3 z0 (-1) hF ls (lv_sub hl [1, 2, 3, 4, 0] rfl)
  · replace hF := fb_neg c4 hF
    refine lv_aload_n X.1 X.2.1 dX5_one_47 rfl (lv_at hl 1 rfl) ?_
    refine g_X5_disk X hI dX5_one_48 ?_
    refine lv_bipush (v := 80) X.1 X.2.1 dX5_one_51 (by decide) ?_
    refine lv_iload_n X.1 X.2.1 dX5_one_53 rfl (lv_at hl 3 rfl) ?_
    refine lv_imul X.1 X.2.1 dX5_one_54 ?_
    refine lv_iload_n X.1 X.2.1 dX5_one_55 rfl (lv_at hl 4 rfl) ?_
    refine lv_iadd X.1 X.2.1 dX5_one_56 ?_
    obtain ⟨h133, hF⟩ := fb_chk hF
    refine aM_0 (v := gA σ 0 ((80 * x2) + x3)) X hI rfl h133 dX5_one_57 ?_
    refine lv_goto (tgt := 62) X.1 X.2.1 dX5_one_58 (by decide) ?_
    exact w_b_X5_one_62 X hlk hr hI x1 x2 x3 z0 (gA σ 0 ((80 * x2) + x3)) hF ls (lv_sub hl [1, 2, 3, 4, 0] rfl)
def b_X5_one_39 (x1 x2 x3 : Int32) (σ : St) : Option (Int32 × St) :=
  b_X5_one_40 x1 x2 x3 0 σ
set_option maxHeartbeats 4000000 in
set_option maxRecDepth 100000 in
theorem w_b_X5_one_39 {l : Launch} {p : Program} {e : Env} {s : State} {m : MethodId} {args : Array Value} {below : List Frame} {meth : Method} {c : Code} {A : Nat → Prop} {D : va_G} {ty : Nat → ClassId} {q : Nat → Nat} {res : Int32 × St} (X : CallFix p m c cX5_one 10 s args tb RX5) (hlk : meth.locks = false) (hr : meth.sig.returnType = none) {σ : St} {H : Heap} {locs : List Loc} (hI : Inw D ty FxM (wM ty q σ) A s H locs) (x1 x2 x3 : Int32) (hF : b_X5_one_39 x1 x2 x3 σ = some res) (ls : Array Slot) (hl : lv_has ls 10 [(0, .ref (q 0)), (1, .int x1), (2, .int x2), (3, .int x3)]) : W p l e rm_X5_one s m args below meth c H locs 0 0 (MQ below (Qvw D ty (wM ty q) A res) args s 0 0 A) (F0 m 39 ls []) := by
  unfold b_X5_one_39 at hF
  refine lv_iconst (v := 0) X.1 X.2.1 dX5_one_39 (by decide) ?_
  exact w_b_X5_one_40 X hlk hr hI x1 x2 x3 0 hF ls (lv_sub hl [0, 1, 2, 3] rfl)
def f_X5_one (σ : St) : Option (Int32 × St) :=
  if inB ((gI σ 7) - 1) 520 = true then
    if inB ((gI σ 7) - 1) 520 = true then
      if (gA σ 5 ((gI σ 7) - 1)) < 0 then
        b_X5_one_39 ((gI σ 7) - 1) (gA σ 4 ((gI σ 7) - 1)) (gA σ 5 ((gI σ 7) - 1)) σ
      else
        if inB (gA σ 4 ((gI σ 7) - 1)) 5 = true then
          if (gA σ 1 (gA σ 4 ((gI σ 7) - 1))) ≤ (gA σ 5 ((gI σ 7) - 1)) then
            b_X5_one_39 ((gI σ 7) - 1) (gA σ 4 ((gI σ 7) - 1)) (gA σ 5 ((gI σ 7) - 1)) σ
          else
            b_X5_one_40 ((gI σ 7) - 1) (gA σ 4 ((gI σ 7) - 1)) (gA σ 5 ((gI σ 7) - 1)) 1 σ
        else none
    else none
  else none
set_option maxHeartbeats 4000000 in
set_option maxRecDepth 100000 in
theorem m_X5_one (l : Launch) (D : va_G) (ty : Nat → ClassId) (q : Nat → Nat) (σ : St) (sz : Nat) {res : Int32 × St} (hF : f_X5_one  σ = some res) : Met l yX5_one (wsy yX5_one cX5_one 10 none) rm_X5_one (Pcw D ty FxM (wM ty q σ) sz [.ref (q 0)]) (Qvw D ty (wM ty q) (va_A (wM ty q σ) sz) res) 0 0 (va_A (wM ty q σ) sz) := by
  refine en_w (Qc := fun A => Qvw D ty (wM ty q) A res) (by decide) (Nat.le_of_ble_eq_true rfl) ?_
  intro p e s m args below meth c A X hlk hr _ H locs hI ls hl
  have X : CallFix p m c cX5_one 10 s args tb RX5 := X
  have hl : lv_has ls 10 [(0, .ref (q 0))] := hl
  unfold f_X5_one at hF
  refine lv_aload_n X.1 X.2.1 dX5_one_0 rfl (lv_at hl 0 rfl) ?_
  refine g_X5_frames (v := gI σ 7) X hI rfl dX5_one_1 ?_
  refine lv_iconst (v := 1) X.1 X.2.1 dX5_one_4 (by decide) ?_
  refine lv_isub X.1 X.2.1 dX5_one_5 ?_
  refine lv_istore_n (lv' := [(1, .int ((gI σ 7) - 1)), (0, .ref (q 0))]) X.1 X.2.1 dX5_one_6 rfl hl (by decide) rfl (fun ls hl => ?_)
  refine lv_aload_n X.1 X.2.1 dX5_one_7 rfl (lv_at hl 1 rfl) ?_
  refine g_X5_segment X hI dX5_one_8 ?_
  refine lv_iload_n X.1 X.2.1 dX5_one_11 rfl (lv_at hl 0 rfl) ?_
  obtain ⟨h1, hF⟩ := fb_chk hF
  refine aM_4 (v := gA σ 4 ((gI σ 7) - 1)) X hI rfl h1 dX5_one_12 ?_
  refine lv_istore_n (lv' := [(2, .int (gA σ 4 ((gI σ 7) - 1))), (1, .int ((gI σ 7) - 1)), (0, .ref (q 0))]) X.1 X.2.1 dX5_one_13 rfl hl (by decide) rfl (fun ls hl => ?_)
  refine lv_aload_n X.1 X.2.1 dX5_one_14 rfl (lv_at hl 2 rfl) ?_
  refine g_X5_place X hI dX5_one_15 ?_
  refine lv_iload_n X.1 X.2.1 dX5_one_18 rfl (lv_at hl 1 rfl) ?_
  obtain ⟨h2, hF⟩ := fb_chk hF
  refine aM_5 (v := gA σ 5 ((gI σ 7) - 1)) X hI rfl h2 dX5_one_19 ?_
  refine lv_istore_n (lv' := [(3, .int (gA σ 5 ((gI σ 7) - 1))), (2, .int (gA σ 4 ((gI σ 7) - 1))), (1, .int ((gI σ 7) - 1)), (0, .ref (q 0))]) X.1 X.2.1 dX5_one_20 rfl hl (by decide) rfl (fun ls hl => ?_)
  refine lv_iload_n X.1 X.2.1 dX5_one_21 rfl (lv_at hl 0 rfl) ?_
  refine lv_if_lt (tgt := 39) X.1 X.2.1 dX5_one_22 (by decide) (fun c3 => ?_) (fun c3 => ?_)
  · replace hF := fb_pos c3 hF
    exact w_b_X5_one_39 X hlk hr hI ((gI σ 7) - 1) (gA σ 4 ((gI σ 7) - 1)) (gA σ 5 ((gI σ 7) - 1)) hF ls (lv_sub hl [3, 2, 1, 0] rfl)
  · replace hF := fb_neg c3 hF
    refine lv_iload_n X.1 X.2.1 dX5_one_25 rfl (lv_at hl 0 rfl) ?_
    refine lv_aload_n X.1 X.2.1 dX5_one_26 rfl (lv_at hl 3 rfl) ?_
    refine g_X5_length X hI dX5_one_27 ?_
    refine lv_iload_n X.1 X.2.1 dX5_one_30 rfl (lv_at hl 1 rfl) ?_
    obtain ⟨h134, hF⟩ := fb_chk hF
    refine aM_1 (v := gA σ 1 (gA σ 4 ((gI σ 7) - 1))) X hI rfl h134 dX5_one_31 ?_
    refine lv_icmp_ge (tgt := 39) X.1 X.2.1 dX5_one_32 (by decide) (fun c135 => ?_) (fun c135 => ?_)
    · replace hF := fb_pos c135 hF
      exact w_b_X5_one_39 X hlk hr hI ((gI σ 7) - 1) (gA σ 4 ((gI σ 7) - 1)) (gA σ 5 ((gI σ 7) - 1)) hF ls (lv_sub hl [3, 2, 1, 0] rfl)
    · replace hF := fb_neg c135 hF
      refine lv_iconst (v := 1) X.1 X.2.1 dX5_one_35 (by decide) ?_
      refine lv_goto (tgt := 40) X.1 X.2.1 dX5_one_36 (by decide) ?_
      exact w_b_X5_one_40 X hlk hr hI ((gI σ 7) - 1) (gA σ 4 ((gI σ 7) - 1)) (gA σ 5 ((gI σ 7) - 1)) 1 hF ls (lv_sub hl [3, 2, 1, 0] rfl)
abbrev rm_X5_step : Room := { frames := 5, cells := 0, slots := 0, locals := 120 }
def b_X5_step_33 : Nat → Int32 → Int32 → St → Option (Int32 × St)
  | 0, _, _, _ => none
  | n + 1, x1, x2, σ =>
    if (gI σ 0) = 0 then
      if x1 ≤ x2 then
        some (x2, σ)
      else
        if (gI σ 1) = 1 then
          (f_X5_one σ).bind fun u6 =>
          b_X5_step_33 n x1 (x2 + 1) u6.2
        else
          some (x2, σ)
    else
      some (x2, σ)
set_option maxHeartbeats 4000000 in
set_option maxRecDepth 100000 in
theorem w_b_X5_step_33 {l : Launch} {p : Program} {e : Env} {s : State} {m : MethodId} {args : Array Value} {below : List Frame} {meth : Method} {c : Code} {A : Nat → Prop} {D : va_G} {ty : Nat → ClassId} {q : Nat → Nat} {res : Int32 × St} (X : CallFix p m c cX5_step 3 s args tb RX5) (hlk : meth.locks = false) (hr : meth.sig.returnType = (some .int)) : ∀ (n : Nat) (x1 x2 : Int32) (σ : St) (H : Heap) (locs : List Loc) (ls : Array Slot), b_X5_step_33 n x1 x2 σ = some res → Inw D ty FxM (wM ty q σ) A s H locs → lv_has ls 3 [(0, .ref (q 0)), (1, .int x1), (2, .int x2)] → W p l e rm_X5_step s m args below meth c H locs 0 0 (MQ below (Qiw D ty (wM ty q) A res) args s 0 0 A) (F0 m 33 ls []) := by
  intro n
  induction n with
  | zero =>
    intro x1 x2 σ H locs ls hF
    cases hF
  | succ n ih =>
    intro x1 x2 σ H locs ls hF hI hl
    rw [b_X5_step_33] at hF
    refine lv_aload_n X.1 X.2.1 dX5_step_33 rfl (lv_at hl 0 rfl) ?_
    refine g_X5_code (v := gI σ 0) X hI rfl dX5_step_34 ?_
    refine lv_if_ne (tgt := 63) X.1 X.2.1 dX5_step_37 (by decide) (fun c3 => ?_) (fun c3 => ?_)
    · replace hF := fb_neg c3 hF
      refine lv_iload_n X.1 X.2.1 dX5_step_63 rfl (lv_at hl 2 rfl) ?_
      exact rt_i X hlk hr hI hF dX5_step_64
    · replace hF := fb_pos c3 hF
      refine lv_iload_n X.1 X.2.1 dX5_step_40 rfl (lv_at hl 2 rfl) ?_
      refine lv_iload_n X.1 X.2.1 dX5_step_41 rfl (lv_at hl 1 rfl) ?_
      refine lv_icmp_ge (tgt := 63) X.1 X.2.1 dX5_step_42 (by decide) (fun c4 => ?_) (fun c4 => ?_)
      · replace hF := fb_pos c4 hF
        refine lv_iload_n X.1 X.2.1 dX5_step_63 rfl (lv_at hl 2 rfl) ?_
        exact rt_i X hlk hr hI hF dX5_step_64
      · replace hF := fb_neg c4 hF
        refine lv_aload_n X.1 X.2.1 dX5_step_45 rfl (lv_at hl 0 rfl) ?_
        refine g_X5_state (v := gI σ 1) X hI rfl dX5_step_46 ?_
        refine lv_iconst (v := 1) X.1 X.2.1 dX5_step_49 (by decide) ?_
        refine lv_icmp_ne (tgt := 63) X.1 X.2.1 dX5_step_50 (by decide) (fun c5 => ?_) (fun c5 => ?_)
        · replace hF := fb_neg c5 hF
          refine lv_iload_n X.1 X.2.1 dX5_step_63 rfl (lv_at hl 2 rfl) ?_
          exact rt_i X hlk hr hI hF dX5_step_64
        · replace hF := fb_pos c5 hF
          refine lv_aload_n X.1 X.2.1 dX5_step_53 rfl (lv_at hl 0 rfl) ?_
          obtain ⟨u6, h7, hF⟩ := fb_bnd hF
          refine cl_v (w := wM ty q) (σ := σ) (rest := []) X fxM hI (m_X5_one l D ty q σ _  h7) ok_X5_one ml_X5_120 ⟨rfl, rfl, Nat.le_of_ble_eq_true rfl, Nat.le_of_ble_eq_true rfl⟩ 0 rc_X5 rfl rfl hl.1 rfl (Nat.le_of_ble_eq_true rfl) ⟨Nat.le_of_ble_eq_true rfl, Nat.le_of_ble_eq_true rfl⟩ dX5_step_54 (fun H locs hI => ?_)
          refine lv_iinc (v := x2 + 1) (lv' := [(2, .int (x2 + 1)), (0, .ref (q 0)), (1, .int x1)]) X.1 X.2.1 dX5_step_57 hl (k := 2) rfl rfl (by decide) rfl (fun ls hl => ?_)
          refine lv_goto (tgt := 33) X.1 X.2.1 dX5_step_60 (by decide) ?_
          exact ih x1 (x2 + 1) _ _ _ ls hF hI (lv_sub hl [1, 2, 0] rfl)
def b_X5_step_28 (x1 z0 : Int32) (σ : St) : Option (Int32 × St) :=
  b_X5_step_33 2002 x1 0 (sI σ 0 z0)
set_option maxHeartbeats 4000000 in
set_option maxRecDepth 100000 in
theorem w_b_X5_step_28 {l : Launch} {p : Program} {e : Env} {s : State} {m : MethodId} {args : Array Value} {below : List Frame} {meth : Method} {c : Code} {A : Nat → Prop} {D : va_G} {ty : Nat → ClassId} {q : Nat → Nat} {res : Int32 × St} (X : CallFix p m c cX5_step 3 s args tb RX5) (hlk : meth.locks = false) (hr : meth.sig.returnType = (some .int)) {σ : St} {H : Heap} {locs : List Loc} (hI : Inw D ty FxM (wM ty q σ) A s H locs) (x1 z0 : Int32) (hF : b_X5_step_28 x1 z0 σ = some res) (ls : Array Slot) (hl : lv_has ls 3 [(0, .ref (q 0)), (1, .int x1)]) : W p l e rm_X5_step s m args below meth c H locs 0 0 (MQ below (Qiw D ty (wM ty q) A res) args s 0 0 A) (F0 m 28 ls [.int z0, .ref (q 0)]) := by
  unfold b_X5_step_28 at hF
  refine p_X5_code X hI dX5_step_28 (fun H locs hI => ?_)
  refine lv_iconst (v := 0) X.1 X.2.1 dX5_step_31 (by decide) ?_
  refine lv_istore_n (lv' := [(2, .int 0), (0, .ref (q 0)), (1, .int x1)]) X.1 X.2.1 dX5_step_32 rfl hl (by decide) rfl (fun ls hl => ?_)
  exact w_b_X5_step_33 X hlk hr 2002 x1 0 _ _ _ ls hF hI (lv_sub hl [1, 2, 0] rfl)
def b_X5_step_23 (x1 : Int32) (σ : St) : Option (Int32 × St) :=
  b_X5_step_28 x1 2 σ
set_option maxHeartbeats 4000000 in
set_option maxRecDepth 100000 in
theorem w_b_X5_step_23 {l : Launch} {p : Program} {e : Env} {s : State} {m : MethodId} {args : Array Value} {below : List Frame} {meth : Method} {c : Code} {A : Nat → Prop} {D : va_G} {ty : Nat → ClassId} {q : Nat → Nat} {res : Int32 × St} (X : CallFix p m c cX5_step 3 s args tb RX5) (hlk : meth.locks = false) (hr : meth.sig.returnType = (some .int)) {σ : St} {H : Heap} {locs : List Loc} (hI : Inw D ty FxM (wM ty q σ) A s H locs) (x1 : Int32) (hF : b_X5_step_23 x1 σ = some res) (ls : Array Slot) (hl : lv_has ls 3 [(0, .ref (q 0)), (1, .int x1)]) : W p l e rm_X5_step s m args below meth c H locs 0 0 (MQ below (Qiw D ty (wM ty q) A res) args s 0 0 A) (F0 m 23 ls [.ref (q 0)]) := by
  unfold b_X5_step_23 at hF
  refine lv_iconst (v := 2) X.1 X.2.1 dX5_step_23 (by decide) ?_
  refine lv_goto (tgt := 28) X.1 X.2.1 dX5_step_24 (by decide) ?_
  exact w_b_X5_step_28 X hlk hr hI x1 2 hF ls (lv_sub hl [0, 1] rfl)
def f_X5_step (x1 : Int32) (σ : St) : Option (Int32 × St) :=
  if (gI σ 1) = 0 then
    b_X5_step_28 x1 1 σ
  else
    if x1 < 0 then
      b_X5_step_23 x1 σ
    else
      if x1 ≤ 2000 then
        b_X5_step_28 x1 0 σ
      else
        b_X5_step_23 x1 σ
set_option maxHeartbeats 4000000 in
set_option maxRecDepth 100000 in
theorem m_X5_step (l : Launch) (D : va_G) (ty : Nat → ClassId) (q : Nat → Nat) (σ : St) (sz : Nat) (x1 : Int32) {res : Int32 × St} (hF : f_X5_step x1 σ = some res) : Met l yX5_step (wsy yX5_step cX5_step 3 (some .int)) rm_X5_step (Pcw D ty FxM (wM ty q σ) sz [.ref (q 0), .int x1]) (Qiw D ty (wM ty q) (va_A (wM ty q σ) sz) res) 0 0 (va_A (wM ty q σ) sz) := by
  refine en_w (Qc := fun A => Qiw D ty (wM ty q) A res) (by decide) (Nat.le_of_ble_eq_true rfl) ?_
  intro p e s m args below meth c A X hlk hr _ H locs hI ls hl
  have X : CallFix p m c cX5_step 3 s args tb RX5 := X
  have hl : lv_has ls 3 [(0, .ref (q 0)), (1, .int x1)] := hl
  unfold f_X5_step at hF
  refine lv_aload_n X.1 X.2.1 dX5_step_0 rfl (lv_at hl 0 rfl) ?_
  refine lv_aload_n X.1 X.2.1 dX5_step_1 rfl (lv_at hl 0 rfl) ?_
  refine g_X5_state (v := gI σ 1) X hI rfl dX5_step_2 ?_
  refine lv_if_ne (tgt := 12) X.1 X.2.1 dX5_step_5 (by decide) (fun c1 => ?_) (fun c1 => ?_)
  · replace hF := fb_neg c1 hF
    refine lv_iload_n X.1 X.2.1 dX5_step_12 rfl (lv_at hl 1 rfl) ?_
    refine lv_if_lt (tgt := 23) X.1 X.2.1 dX5_step_13 (by decide) (fun c2 => ?_) (fun c2 => ?_)
    · replace hF := fb_pos c2 hF
      exact w_b_X5_step_23 X hlk hr hI x1 hF ls (lv_sub hl [0, 1] rfl)
    · replace hF := fb_neg c2 hF
      refine lv_iload_n X.1 X.2.1 dX5_step_16 rfl (lv_at hl 1 rfl) ?_
      refine lv_sipush (v := 2000) X.1 X.2.1 dX5_step_17 (by decide) ?_
      refine lv_icmp_le (tgt := 27) X.1 X.2.1 dX5_step_20 (by decide) (fun c8 => ?_) (fun c8 => ?_)
      · replace hF := fb_pos c8 hF
        refine lv_iconst (v := 0) X.1 X.2.1 dX5_step_27 (by decide) ?_
        exact w_b_X5_step_28 X hlk hr hI x1 0 hF ls (lv_sub hl [0, 1] rfl)
      · replace hF := fb_neg c8 hF
        exact w_b_X5_step_23 X hlk hr hI x1 hF ls (lv_sub hl [0, 1] rfl)
  · replace hF := fb_pos c1 hF
    refine lv_iconst (v := 1) X.1 X.2.1 dX5_step_8 (by decide) ?_
    refine lv_goto (tgt := 28) X.1 X.2.1 dX5_step_9 (by decide) ?_
    exact w_b_X5_step_28 X hlk hr hI x1 1 hF ls (lv_sub hl [0, 1] rfl)
abbrev rm_X5_look : Room := { frames := 1, cells := 0, slots := 0, locals := 22 }
def b_X5_look_80 (x1 x3 : Int32) (σ : St) : Option (Int32 × St) :=
  if x1 = 0 then
    some (gI σ 1, σ)
  else
  if x1 = 1 then
    (f_X5_held σ).bind fun u8 =>
    some (u8, σ)
  else
  if x1 = 2 then
    some (gI σ 4, σ)
  else
  if x1 = 3 then
    some (gI σ 5, σ)
  else
  if x1 = 4 then
    some (gI σ 6, σ)
  else
  if x1 = 5 then
    some (gI σ 7, σ)
  else
  if x1 = 6 then
    if inB x3 520 = true then
      some (gA σ 4 x3, σ)
    else none
  else
  if x1 = 7 then
    if inB x3 520 = true then
      some (gA σ 5 x3, σ)
    else none
  else
  if x1 = 8 then
    if 0 ≤ x3 then
      if inB x3 520 = true then
        some (((gI σ 8) - (gA σ 8 x3)), σ)
      else none
    else
      some (0, σ)
  else
  if x1 = 9 then
    some (gI σ 9, σ)
  else
  some (gI σ 10, σ)
set_option maxHeartbeats 4000000 in
set_option maxRecDepth 100000 in
theorem w_b_X5_look_80 {l : Launch} {p : Program} {e : Env} {s : State} {m : MethodId} {args : Array Value} {below : List Frame} {meth : Method} {c : Code} {A : Nat → Prop} {D : va_G} {ty : Nat → ClassId} {q : Nat → Nat} {res : Int32 × St} (X : CallFix p m c cX5_look 4 s args tb RX5) (hlk : meth.locks = false) (hr : meth.sig.returnType = (some .int)) {σ : St} {H : Heap} {locs : List Loc} (hI : Inw D ty FxM (wM ty q σ) A s H locs) (x1 x3 : Int32) (hF : b_X5_look_80 x1 x3 σ = some res) (ls : Array Slot) (hl : lv_has ls 4 [(0, .ref (q 0)), (1, .int x1), (3, .int x3)]) : W p l e rm_X5_look s m args below meth c H locs 0 0 (MQ below (Qiw D ty (wM ty q) A res) args s 0 0 A) (F0 m 80 ls []) := by
  unfold b_X5_look_80 at hF
  refine lv_iload_n X.1 X.2.1 dX5_look_80 rfl (lv_at hl 1 rfl) ?_
  by_cases c6 : x1 = 0
  · replace hF := fb_pos c6 hF
    refine lv_tableIn (tgt := 136) X.1 X.2.1 dX5_look_81 (by rw [c6]; decide) (by rw [c6]; decide) (by rw [c6]; rfl) (by decide) ?_
    refine lv_aload_n X.1 X.2.1 dX5_look_136 rfl (lv_at hl 0 rfl) ?_
    refine g_X5_state (v := gI σ 1) X hI rfl dX5_look_137 ?_
    exact rt_i X hlk hr hI hF dX5_look_140
  replace hF := fb_neg c6 hF
  by_cases c7 : x1 = 1
  · replace hF := fb_pos c7 hF
    refine lv_tableIn (tgt := 141) X.1 X.2.1 dX5_look_81 (by rw [c7]; decide) (by rw [c7]; decide) (by rw [c7]; rfl) (by decide) ?_
    refine lv_aload_n X.1 X.2.1 dX5_look_141 rfl (lv_at hl 0 rfl) ?_
    obtain ⟨u8, h9, hF⟩ := fb_bnd hF
    refine cl_i (w := wM ty q) (σ := σ) (rest := []) X fxM hI (m_X5_held l D ty q σ _  h9) ok_X5_held ml_X5_65 ⟨rfl, rfl, Nat.le_of_ble_eq_true rfl, Nat.le_of_ble_eq_true rfl⟩ 0 rc_X5 rfl rfl hl.1 rfl (Nat.le_of_ble_eq_true rfl) ⟨Nat.le_of_ble_eq_true rfl, Nat.le_of_ble_eq_true rfl⟩ dX5_look_142 (fun H locs hI => ?_)
    exact rt_i X hlk hr hI hF dX5_look_145
  replace hF := fb_neg c7 hF
  by_cases c10 : x1 = 2
  · replace hF := fb_pos c10 hF
    refine lv_tableIn (tgt := 146) X.1 X.2.1 dX5_look_81 (by rw [c10]; decide) (by rw [c10]; decide) (by rw [c10]; rfl) (by decide) ?_
    refine lv_aload_n X.1 X.2.1 dX5_look_146 rfl (lv_at hl 0 rfl) ?_
    refine g_X5_most (v := gI σ 4) X hI rfl dX5_look_147 ?_
    exact rt_i X hlk hr hI hF dX5_look_150
  replace hF := fb_neg c10 hF
  by_cases c11 : x1 = 3
  · replace hF := fb_pos c11 hF
    refine lv_tableIn (tgt := 151) X.1 X.2.1 dX5_look_81 (by rw [c11]; decide) (by rw [c11]; decide) (by rw [c11]; rfl) (by decide) ?_
    refine lv_aload_n X.1 X.2.1 dX5_look_151 rfl (lv_at hl 0 rfl) ?_
    refine g_X5_loads (v := gI σ 5) X hI rfl dX5_look_152 ?_
    exact rt_i X hlk hr hI hF dX5_look_155
  replace hF := fb_neg c11 hF
  by_cases c12 : x1 = 4
  · replace hF := fb_pos c12 hF
    refine lv_tableIn (tgt := 156) X.1 X.2.1 dX5_look_81 (by rw [c12]; decide) (by rw [c12]; decide) (by rw [c12]; rfl) (by decide) ?_
    refine lv_aload_n X.1 X.2.1 dX5_look_156 rfl (lv_at hl 0 rfl) ?_
    refine g_X5_gone (v := gI σ 6) X hI rfl dX5_look_157 ?_
    exact rt_i X hlk hr hI hF dX5_look_160
  replace hF := fb_neg c12 hF
  by_cases c13 : x1 = 5
  · replace hF := fb_pos c13 hF
    refine lv_tableIn (tgt := 161) X.1 X.2.1 dX5_look_81 (by rw [c13]; decide) (by rw [c13]; decide) (by rw [c13]; rfl) (by decide) ?_
    refine lv_aload_n X.1 X.2.1 dX5_look_161 rfl (lv_at hl 0 rfl) ?_
    refine g_X5_frames (v := gI σ 7) X hI rfl dX5_look_162 ?_
    exact rt_i X hlk hr hI hF dX5_look_165
  replace hF := fb_neg c13 hF
  by_cases c14 : x1 = 6
  · replace hF := fb_pos c14 hF
    refine lv_tableIn (tgt := 166) X.1 X.2.1 dX5_look_81 (by rw [c14]; decide) (by rw [c14]; decide) (by rw [c14]; rfl) (by decide) ?_
    refine lv_aload_n X.1 X.2.1 dX5_look_166 rfl (lv_at hl 0 rfl) ?_
    refine g_X5_segment X hI dX5_look_167 ?_
    refine lv_iload_n X.1 X.2.1 dX5_look_170 rfl (lv_at hl 2 rfl) ?_
    obtain ⟨h15, hF⟩ := fb_chk hF
    refine aM_4 (v := gA σ 4 x3) X hI rfl h15 dX5_look_171 ?_
    exact rt_i X hlk hr hI hF dX5_look_172
  replace hF := fb_neg c14 hF
  by_cases c16 : x1 = 7
  · replace hF := fb_pos c16 hF
    refine lv_tableIn (tgt := 173) X.1 X.2.1 dX5_look_81 (by rw [c16]; decide) (by rw [c16]; decide) (by rw [c16]; rfl) (by decide) ?_
    refine lv_aload_n X.1 X.2.1 dX5_look_173 rfl (lv_at hl 0 rfl) ?_
    refine g_X5_place X hI dX5_look_174 ?_
    refine lv_iload_n X.1 X.2.1 dX5_look_177 rfl (lv_at hl 2 rfl) ?_
    obtain ⟨h17, hF⟩ := fb_chk hF
    refine aM_5 (v := gA σ 5 x3) X hI rfl h17 dX5_look_178 ?_
    exact rt_i X hlk hr hI hF dX5_look_179
  replace hF := fb_neg c16 hF
  by_cases c18 : x1 = 8
  · replace hF := fb_pos c18 hF
    refine lv_tableIn (tgt := 180) X.1 X.2.1 dX5_look_81 (by rw [c18]; decide) (by rw [c18]; decide) (by rw [c18]; rfl) (by decide) ?_
    refine lv_iload_n X.1 X.2.1 dX5_look_180 rfl (lv_at hl 2 rfl) ?_
    refine lv_if_ge (tgt := 188) X.1 X.2.1 dX5_look_181 (by decide) (fun c19 => ?_) (fun c19 => ?_)
    · replace hF := fb_pos c19 hF
      refine lv_aload_n X.1 X.2.1 dX5_look_188 rfl (lv_at hl 0 rfl) ?_
      refine g_X5_numbers (v := gI σ 8) X hI rfl dX5_look_189 ?_
      refine lv_aload_n X.1 X.2.1 dX5_look_192 rfl (lv_at hl 0 rfl) ?_
      refine g_X5_below X hI dX5_look_193 ?_
      refine lv_iload_n X.1 X.2.1 dX5_look_196 rfl (lv_at hl 2 rfl) ?_
      obtain ⟨h20, hF⟩ := fb_chk hF
      refine aM_8 (v := gA σ 8 x3) X hI rfl h20 dX5_look_197 ?_
      refine lv_isub X.1 X.2.1 dX5_look_198 ?_
      exact rt_i X hlk hr hI hF dX5_look_199
    · replace hF := fb_neg c19 hF
      refine lv_iconst (v := 0) X.1 X.2.1 dX5_look_184 (by decide) ?_
      refine lv_goto (tgt := 199) X.1 X.2.1 dX5_look_185 (by decide) ?_
      exact rt_i X hlk hr hI hF dX5_look_199
  replace hF := fb_neg c18 hF
  by_cases c21 : x1 = 9
  · replace hF := fb_pos c21 hF
    refine lv_tableIn (tgt := 200) X.1 X.2.1 dX5_look_81 (by rw [c21]; decide) (by rw [c21]; decide) (by rw [c21]; rfl) (by decide) ?_
    refine lv_aload_n X.1 X.2.1 dX5_look_200 rfl (lv_at hl 0 rfl) ?_
    refine g_X5_result (v := gI σ 9) X hI rfl dX5_look_201 ?_
    exact rt_i X hlk hr hI hF dX5_look_204
  replace hF := fb_neg c21 hF
  have hDf : W p l e rm_X5_look s m args below meth c H locs 0 0 (MQ below (Qiw D ty (wM ty q) A res) args s 0 0 A) (F0 m 205 ls []) := by
    refine lv_aload_n X.1 X.2.1 dX5_look_205 rfl (lv_at hl 0 rfl) ?_
    refine g_X5_puts (v := gI σ 10) X hI rfl dX5_look_206 ?_
    exact rt_i X hlk hr hI hF dX5_look_209
  refine lv_tableOut (tgt := 205) X.1 X.2.1 dX5_look_81 ?_ (by decide) hDf
  by_cases g22 : (x1).toInt < 0
  · exact Or.inl g22
  · refine Or.inr ?_
    have n0 : ¬ (x1).toInt = 0 := fun h => c6 (Int32.toInt_inj.mp (h.trans (by decide)))
    have n1 : ¬ (x1).toInt = 1 := fun h => c7 (Int32.toInt_inj.mp (h.trans (by decide)))
    have n2 : ¬ (x1).toInt = 2 := fun h => c10 (Int32.toInt_inj.mp (h.trans (by decide)))
    have n3 : ¬ (x1).toInt = 3 := fun h => c11 (Int32.toInt_inj.mp (h.trans (by decide)))
    have n4 : ¬ (x1).toInt = 4 := fun h => c12 (Int32.toInt_inj.mp (h.trans (by decide)))
    have n5 : ¬ (x1).toInt = 5 := fun h => c13 (Int32.toInt_inj.mp (h.trans (by decide)))
    have n6 : ¬ (x1).toInt = 6 := fun h => c14 (Int32.toInt_inj.mp (h.trans (by decide)))
    have n7 : ¬ (x1).toInt = 7 := fun h => c16 (Int32.toInt_inj.mp (h.trans (by decide)))
    have n8 : ¬ (x1).toInt = 8 := fun h => c18 (Int32.toInt_inj.mp (h.trans (by decide)))
    have n9 : ¬ (x1).toInt = 9 := fun h => c21 (Int32.toInt_inj.mp (h.trans (by decide)))
    omega
def b_X5_look_45 (x1 z0 : Int32) (σ : St) : Option (Int32 × St) :=
  if (gI σ 1) = 0 then
    if z0 = 0 then
      some (0, σ)
    else
      some ((-1), σ)
  else
    if 0 ≤ ((gI σ 7) - 1) then
      b_X5_look_80 x1 ((gI σ 7) - 1) σ
    else
      if z0 = 0 then
        b_X5_look_80 x1 ((gI σ 7) - 1) σ
      else
        some ((-1), σ)
set_option maxHeartbeats 4000000 in
set_option maxRecDepth 100000 in
theorem w_b_X5_look_45 {l : Launch} {p : Program} {e : Env} {s : State} {m : MethodId} {args : Array Value} {below : List Frame} {meth : Method} {c : Code} {A : Nat → Prop} {D : va_G} {ty : Nat → ClassId} {q : Nat → Nat} {res : Int32 × St} (X : CallFix p m c cX5_look 4 s args tb RX5) (hlk : meth.locks = false) (hr : meth.sig.returnType = (some .int)) {σ : St} {H : Heap} {locs : List Loc} (hI : Inw D ty FxM (wM ty q σ) A s H locs) (x1 z0 : Int32) (hF : b_X5_look_45 x1 z0 σ = some res) (ls : Array Slot) (hl : lv_has ls 4 [(0, .ref (q 0)), (1, .int x1)]) : W p l e rm_X5_look s m args below meth c H locs 0 0 (MQ below (Qiw D ty (wM ty q) A res) args s 0 0 A) (F0 m 45 ls [.int z0]) := by
  unfold b_X5_look_45 at hF
  refine lv_istore_n (lv' := [(2, .int z0), (0, .ref (q 0)), (1, .int x1)]) X.1 X.2.1 dX5_look_45 rfl hl (by decide) rfl (fun ls hl => ?_)
  refine lv_aload_n X.1 X.2.1 dX5_look_46 rfl (lv_at hl 1 rfl) ?_
  refine g_X5_state (v := gI σ 1) X hI rfl dX5_look_47 ?_
  refine lv_if_ne (tgt := 63) X.1 X.2.1 dX5_look_50 (by decide) (fun c4 => ?_) (fun c4 => ?_)
  · replace hF := fb_neg c4 hF
    refine lv_aload_n X.1 X.2.1 dX5_look_63 rfl (lv_at hl 1 rfl) ?_
    refine g_X5_frames (v := gI σ 7) X hI rfl dX5_look_64 ?_
    refine lv_iconst (v := 1) X.1 X.2.1 dX5_look_67 (by decide) ?_
    refine lv_isub X.1 X.2.1 dX5_look_68 ?_
    refine lv_istore_n (lv' := [(3, .int ((gI σ 7) - 1)), (2, .int z0), (0, .ref (q 0)), (1, .int x1)]) X.1 X.2.1 dX5_look_69 rfl hl (by decide) rfl (fun ls hl => ?_)
    refine lv_iload_n X.1 X.2.1 dX5_look_70 rfl (lv_at hl 0 rfl) ?_
    refine lv_if_ge (tgt := 80) X.1 X.2.1 dX5_look_71 (by decide) (fun c5 => ?_) (fun c5 => ?_)
    · replace hF := fb_pos c5 hF
      exact w_b_X5_look_80 X hlk hr hI x1 ((gI σ 7) - 1) hF ls (lv_sub hl [2, 3, 0] rfl)
    · replace hF := fb_neg c5 hF
      refine lv_iload_n X.1 X.2.1 dX5_look_74 rfl (lv_at hl 1 rfl) ?_
      refine lv_if_eq (tgt := 80) X.1 X.2.1 dX5_look_75 (by decide) (fun c23 => ?_) (fun c23 => ?_)
      · replace hF := fb_pos c23 hF
        exact w_b_X5_look_80 X hlk hr hI x1 ((gI σ 7) - 1) hF ls (lv_sub hl [2, 3, 0] rfl)
      · replace hF := fb_neg c23 hF
        refine lv_iconst (v := (-1)) X.1 X.2.1 dX5_look_78 (by decide) ?_
        exact rt_i X hlk hr hI hF dX5_look_79
  · replace hF := fb_pos c4 hF
    refine lv_iload_n X.1 X.2.1 dX5_look_53 rfl (lv_at hl 0 rfl) ?_
    refine lv_if_eq (tgt := 61) X.1 X.2.1 dX5_look_54 (by decide) (fun c24 => ?_) (fun c24 => ?_)
    · replace hF := fb_pos c24 hF
      refine lv_iconst (v := 0) X.1 X.2.1 dX5_look_61 (by decide) ?_
      exact rt_i X hlk hr hI hF dX5_look_62
    · replace hF := fb_neg c24 hF
      refine lv_iconst (v := (-1)) X.1 X.2.1 dX5_look_57 (by decide) ?_
      refine lv_goto (tgt := 62) X.1 X.2.1 dX5_look_58 (by decide) ?_
      exact rt_i X hlk hr hI hF dX5_look_62
def b_X5_look_40 (x1 : Int32) (σ : St) : Option (Int32 × St) :=
  b_X5_look_45 x1 1 σ
set_option maxHeartbeats 4000000 in
set_option maxRecDepth 100000 in
theorem w_b_X5_look_40 {l : Launch} {p : Program} {e : Env} {s : State} {m : MethodId} {args : Array Value} {below : List Frame} {meth : Method} {c : Code} {A : Nat → Prop} {D : va_G} {ty : Nat → ClassId} {q : Nat → Nat} {res : Int32 × St} (X : CallFix p m c cX5_look 4 s args tb RX5) (hlk : meth.locks = false) (hr : meth.sig.returnType = (some .int)) {σ : St} {H : Heap} {locs : List Loc} (hI : Inw D ty FxM (wM ty q σ) A s H locs) (x1 : Int32) (hF : b_X5_look_40 x1 σ = some res) (ls : Array Slot) (hl : lv_has ls 4 [(0, .ref (q 0)), (1, .int x1)]) : W p l e rm_X5_look s m args below meth c H locs 0 0 (MQ below (Qiw D ty (wM ty q) A res) args s 0 0 A) (F0 m 40 ls []) := by
  unfold b_X5_look_40 at hF
  refine lv_iconst (v := 1) X.1 X.2.1 dX5_look_40 (by decide) ?_
  refine lv_goto (tgt := 45) X.1 X.2.1 dX5_look_41 (by decide) ?_
  exact w_b_X5_look_45 X hlk hr hI x1 1 hF ls (lv_sub hl [0, 1] rfl)
def b_X5_look_16 (x1 z0 : Int32) (σ : St) : Option (Int32 × St) :=
  if z0 ≤ 0 then
    if x1 = 6 then
      b_X5_look_40 x1 (sI σ 0 z0)
    else
      if x1 = 7 then
        b_X5_look_40 x1 (sI σ 0 z0)
      else
        b_X5_look_45 x1 0 (sI σ 0 z0)
  else
    some (0, sI σ 0 z0)
set_option maxHeartbeats 4000000 in
set_option maxRecDepth 100000 in
theorem w_b_X5_look_16 {l : Launch} {p : Program} {e : Env} {s : State} {m : MethodId} {args : Array Value} {below : List Frame} {meth : Method} {c : Code} {A : Nat → Prop} {D : va_G} {ty : Nat → ClassId} {q : Nat → Nat} {res : Int32 × St} (X : CallFix p m c cX5_look 4 s args tb RX5) (hlk : meth.locks = false) (hr : meth.sig.returnType = (some .int)) {σ : St} {H : Heap} {locs : List Loc} (hI : Inw D ty FxM (wM ty q σ) A s H locs) (x1 z0 : Int32) (hF : b_X5_look_16 x1 z0 σ = some res) (ls : Array Slot) (hl : lv_has ls 4 [(0, .ref (q 0)), (1, .int x1)]) : W p l e rm_X5_look s m args below meth c H locs 0 0 (MQ below (Qiw D ty (wM ty q) A res) args s 0 0 A) (F0 m 16 ls [.int z0, .ref (q 0)]) := by
  unfold b_X5_look_16 at hF
  refine p_X5_code X hI dX5_look_16 (fun H locs hI => ?_)
  refine lv_aload_n X.1 X.2.1 dX5_look_19 rfl (lv_at hl 0 rfl) ?_
  refine g_X5_code (v := z0) X hI rfl dX5_look_20 ?_
  refine lv_if_le (tgt := 28) X.1 X.2.1 dX5_look_23 (by decide) (fun c2 => ?_) (fun c2 => ?_)
  · replace hF := fb_pos c2 hF
    refine lv_iload_n X.1 X.2.1 dX5_look_28 rfl (lv_at hl 1 rfl) ?_
    refine lv_bipush (v := 6) X.1 X.2.1 dX5_look_29 (by decide) ?_
    refine lv_icmp_eq (tgt := 40) X.1 X.2.1 dX5_look_31 (by decide) (fun c3 => ?_) (fun c3 => ?_)
    · replace hF := fb_pos c3 hF
      exact w_b_X5_look_40 X hlk hr hI x1 hF ls (lv_sub hl [0, 1] rfl)
    · replace hF := fb_neg c3 hF
      refine lv_iload_n X.1 X.2.1 dX5_look_34 rfl (lv_at hl 1 rfl) ?_
      refine lv_bipush (v := 7) X.1 X.2.1 dX5_look_35 (by decide) ?_
      refine lv_icmp_ne (tgt := 44) X.1 X.2.1 dX5_look_37 (by decide) (fun c25 => ?_) (fun c25 => ?_)
      · replace hF := fb_neg c25 hF
        refine lv_iconst (v := 0) X.1 X.2.1 dX5_look_44 (by decide) ?_
        exact w_b_X5_look_45 X hlk hr hI x1 0 hF ls (lv_sub hl [0, 1] rfl)
      · replace hF := fb_pos c25 hF
        exact w_b_X5_look_40 X hlk hr hI x1 hF ls (lv_sub hl [0, 1] rfl)
  · replace hF := fb_neg c2 hF
    refine lv_iconst (v := 0) X.1 X.2.1 dX5_look_26 (by decide) ?_
    exact rt_i X hlk hr hI hF dX5_look_27
def b_X5_look_11 (x1 : Int32) (σ : St) : Option (Int32 × St) :=
  b_X5_look_16 x1 1 σ
set_option maxHeartbeats 4000000 in
set_option maxRecDepth 100000 in
theorem w_b_X5_look_11 {l : Launch} {p : Program} {e : Env} {s : State} {m : MethodId} {args : Array Value} {below : List Frame} {meth : Method} {c : Code} {A : Nat → Prop} {D : va_G} {ty : Nat → ClassId} {q : Nat → Nat} {res : Int32 × St} (X : CallFix p m c cX5_look 4 s args tb RX5) (hlk : meth.locks = false) (hr : meth.sig.returnType = (some .int)) {σ : St} {H : Heap} {locs : List Loc} (hI : Inw D ty FxM (wM ty q σ) A s H locs) (x1 : Int32) (hF : b_X5_look_11 x1 σ = some res) (ls : Array Slot) (hl : lv_has ls 4 [(0, .ref (q 0)), (1, .int x1)]) : W p l e rm_X5_look s m args below meth c H locs 0 0 (MQ below (Qiw D ty (wM ty q) A res) args s 0 0 A) (F0 m 11 ls [.ref (q 0)]) := by
  unfold b_X5_look_11 at hF
  refine lv_iconst (v := 1) X.1 X.2.1 dX5_look_11 (by decide) ?_
  refine lv_goto (tgt := 16) X.1 X.2.1 dX5_look_12 (by decide) ?_
  exact w_b_X5_look_16 X hlk hr hI x1 1 hF ls (lv_sub hl [0, 1] rfl)
def f_X5_look (x1 : Int32) (σ : St) : Option (Int32 × St) :=
  if x1 < 0 then
    b_X5_look_11 x1 σ
  else
    if x1 ≤ 10 then
      b_X5_look_16 x1 0 σ
    else
      b_X5_look_11 x1 σ
set_option maxHeartbeats 4000000 in
set_option maxRecDepth 100000 in
theorem m_X5_look (l : Launch) (D : va_G) (ty : Nat → ClassId) (q : Nat → Nat) (σ : St) (sz : Nat) (x1 : Int32) {res : Int32 × St} (hF : f_X5_look x1 σ = some res) : Met l yX5_look (wsy yX5_look cX5_look 4 (some .int)) rm_X5_look (Pcw D ty FxM (wM ty q σ) sz [.ref (q 0), .int x1]) (Qiw D ty (wM ty q) (va_A (wM ty q σ) sz) res) 0 0 (va_A (wM ty q σ) sz) := by
  refine en_w (Qc := fun A => Qiw D ty (wM ty q) A res) (by decide) (Nat.le_of_ble_eq_true rfl) ?_
  intro p e s m args below meth c A X hlk hr _ H locs hI ls hl
  have X : CallFix p m c cX5_look 4 s args tb RX5 := X
  have hl : lv_has ls 4 [(0, .ref (q 0)), (1, .int x1)] := hl
  unfold f_X5_look at hF
  refine lv_aload_n X.1 X.2.1 dX5_look_0 rfl (lv_at hl 0 rfl) ?_
  refine lv_iload_n X.1 X.2.1 dX5_look_1 rfl (lv_at hl 1 rfl) ?_
  refine lv_if_lt (tgt := 11) X.1 X.2.1 dX5_look_2 (by decide) (fun c1 => ?_) (fun c1 => ?_)
  · replace hF := fb_pos c1 hF
    exact w_b_X5_look_11 X hlk hr hI x1 hF ls (lv_sub hl [0, 1] rfl)
  · replace hF := fb_neg c1 hF
    refine lv_iload_n X.1 X.2.1 dX5_look_5 rfl (lv_at hl 1 rfl) ?_
    refine lv_bipush (v := 10) X.1 X.2.1 dX5_look_6 (by decide) ?_
    refine lv_icmp_le (tgt := 15) X.1 X.2.1 dX5_look_8 (by decide) (fun c26 => ?_) (fun c26 => ?_)
    · replace hF := fb_pos c26 hF
      refine lv_iconst (v := 0) X.1 X.2.1 dX5_look_15 (by decide) ?_
      exact w_b_X5_look_16 X hlk hr hI x1 0 hF ls (lv_sub hl [0, 1] rfl)
    · replace hF := fb_neg c26 hF
      exact w_b_X5_look_11 X hlk hr hI x1 hF ls (lv_sub hl [0, 1] rfl)
abbrev rm_X5_state : Room := { frames := 1, cells := 0, slots := 0, locals := 23 }
def b_X5_state_46 (x1 z0 : Int32) (σ : St) : Option (Int32 × St) :=
  (f_X5_isActive x1 σ).bind fun u8 =>
  if u8 = 0 then
    some ((z0 + 0), σ)
  else
    some ((z0 + 2), σ)
set_option maxHeartbeats 4000000 in
set_option maxRecDepth 100000 in
theorem w_b_X5_state_46 {l : Launch} {p : Program} {e : Env} {s : State} {m : MethodId} {args : Array Value} {below : List Frame} {meth : Method} {c : Code} {A : Nat → Prop} {D : va_G} {ty : Nat → ClassId} {q : Nat → Nat} {res : Int32 × St} (X : CallFix p m c cX5_state 2 s args tb RX5) (hlk : meth.locks = false) (hr : meth.sig.returnType = (some .int)) {σ : St} {H : Heap} {locs : List Loc} (hI : Inw D ty FxM (wM ty q σ) A s H locs) (x1 z0 : Int32) (hF : b_X5_state_46 x1 z0 σ = some res) (ls : Array Slot) (hl : lv_has ls 2 [(0, .ref (q 0)), (1, .int x1)]) : W p l e rm_X5_state s m args below meth c H locs 0 0 (MQ below (Qiw D ty (wM ty q) A res) args s 0 0 A) (F0 m 46 ls [.int z0]) := by
  unfold b_X5_state_46 at hF
  refine lv_aload_n X.1 X.2.1 dX5_state_46 rfl (lv_at hl 0 rfl) ?_
  refine lv_iload_n X.1 X.2.1 dX5_state_47 rfl (lv_at hl 1 rfl) ?_
  obtain ⟨u8, h9, hF⟩ := fb_bnd hF
  refine cl_i (w := wM ty q) (σ := σ) (rest := [.int z0]) X fxM hI (m_X5_isActive l D ty q σ _ x1 h9) ok_X5_isActive ml_X5_72 ⟨rfl, rfl, Nat.le_of_ble_eq_true rfl, Nat.le_of_ble_eq_true rfl⟩ 0 rc_X5 rfl rfl hl.1 rfl (Nat.le_of_ble_eq_true rfl) ⟨Nat.le_of_ble_eq_true rfl, Nat.le_of_ble_eq_true rfl⟩ dX5_state_48 (fun H locs hI => ?_)
  refine lv_if_eq (tgt := 58) X.1 X.2.1 dX5_state_51 (by decide) (fun c10 => ?_) (fun c10 => ?_)
  · replace hF := fb_pos c10 hF
    refine lv_iconst (v := 0) X.1 X.2.1 dX5_state_58 (by decide) ?_
    refine lv_iadd X.1 X.2.1 dX5_state_59 ?_
    exact rt_i X hlk hr hI hF dX5_state_60
  · replace hF := fb_neg c10 hF
    refine lv_iconst (v := 2) X.1 X.2.1 dX5_state_54 (by decide) ?_
    refine lv_goto (tgt := 59) X.1 X.2.1 dX5_state_55 (by decide) ?_
    refine lv_iadd X.1 X.2.1 dX5_state_59 ?_
    exact rt_i X hlk hr hI hF dX5_state_60
def b_X5_state_13 (x1 z0 : Int32) (σ : St) : Option (Int32 × St) :=
  if 0 < z0 then
    some (0, sI σ 0 z0)
  else
    if (gI σ 1) = 0 then
      some (0, sI σ 0 z0)
    else
      if inB x1 5 = true then
        if (gA σ 2 x1) = 0 then
          b_X5_state_46 x1 0 (sI σ 0 z0)
        else
          b_X5_state_46 x1 1 (sI σ 0 z0)
      else none
set_option maxHeartbeats 4000000 in
set_option maxRecDepth 100000 in
theorem w_b_X5_state_13 {l : Launch} {p : Program} {e : Env} {s : State} {m : MethodId} {args : Array Value} {below : List Frame} {meth : Method} {c : Code} {A : Nat → Prop} {D : va_G} {ty : Nat → ClassId} {q : Nat → Nat} {res : Int32 × St} (X : CallFix p m c cX5_state 2 s args tb RX5) (hlk : meth.locks = false) (hr : meth.sig.returnType = (some .int)) {σ : St} {H : Heap} {locs : List Loc} (hI : Inw D ty FxM (wM ty q σ) A s H locs) (x1 z0 : Int32) (hF : b_X5_state_13 x1 z0 σ = some res) (ls : Array Slot) (hl : lv_has ls 2 [(0, .ref (q 0)), (1, .int x1)]) : W p l e rm_X5_state s m args below meth c H locs 0 0 (MQ below (Qiw D ty (wM ty q) A res) args s 0 0 A) (F0 m 13 ls [.int z0, .ref (q 0)]) := by
  unfold b_X5_state_13 at hF
  refine p_X5_code X hI dX5_state_13 (fun H locs hI => ?_)
  refine lv_aload_n X.1 X.2.1 dX5_state_16 rfl (lv_at hl 0 rfl) ?_
  refine g_X5_code (v := z0) X hI rfl dX5_state_17 ?_
  refine lv_if_gt (tgt := 30) X.1 X.2.1 dX5_state_20 (by decide) (fun c4 => ?_) (fun c4 => ?_)
  · replace hF := fb_pos c4 hF
    refine lv_iconst (v := 0) X.1 X.2.1 dX5_state_30 (by decide) ?_
    exact rt_i X hlk hr hI hF dX5_state_31
  · replace hF := fb_neg c4 hF
    refine lv_aload_n X.1 X.2.1 dX5_state_23 rfl (lv_at hl 0 rfl) ?_
    refine g_X5_state (v := gI σ 1) X hI rfl dX5_state_24 ?_
    refine lv_if_ne (tgt := 32) X.1 X.2.1 dX5_state_27 (by decide) (fun c5 => ?_) (fun c5 => ?_)
    · replace hF := fb_neg c5 hF
      refine lv_aload_n X.1 X.2.1 dX5_state_32 rfl (lv_at hl 0 rfl) ?_
      refine g_X5_resident X hI dX5_state_33 ?_
      refine lv_iload_n X.1 X.2.1 dX5_state_36 rfl (lv_at hl 1 rfl) ?_
      obtain ⟨h6, hF⟩ := fb_chk hF
      refine aM_2 (v := gA σ 2 x1) X hI rfl h6 dX5_state_37 ?_
      refine lv_if_eq (tgt := 45) X.1 X.2.1 dX5_state_38 (by decide) (fun c7 => ?_) (fun c7 => ?_)
      · replace hF := fb_pos c7 hF
        refine lv_iconst (v := 0) X.1 X.2.1 dX5_state_45 (by decide) ?_
        exact w_b_X5_state_46 X hlk hr hI x1 0 hF ls (lv_sub hl [0, 1] rfl)
      · replace hF := fb_neg c7 hF
        refine lv_iconst (v := 1) X.1 X.2.1 dX5_state_41 (by decide) ?_
        refine lv_goto (tgt := 46) X.1 X.2.1 dX5_state_42 (by decide) ?_
        exact w_b_X5_state_46 X hlk hr hI x1 1 hF ls (lv_sub hl [0, 1] rfl)
    · replace hF := fb_pos c5 hF
      refine lv_iconst (v := 0) X.1 X.2.1 dX5_state_30 (by decide) ?_
      exact rt_i X hlk hr hI hF dX5_state_31
def f_X5_state (x1 : Int32) (σ : St) : Option (Int32 × St) :=
  (f_X5_isSegment x1 σ).bind fun u1 =>
  if u1 = 0 then
    b_X5_state_13 x1 1 σ
  else
    b_X5_state_13 x1 0 σ
set_option maxHeartbeats 4000000 in
set_option maxRecDepth 100000 in
theorem m_X5_state (l : Launch) (D : va_G) (ty : Nat → ClassId) (q : Nat → Nat) (σ : St) (sz : Nat) (x1 : Int32) {res : Int32 × St} (hF : f_X5_state x1 σ = some res) : Met l yX5_state (wsy yX5_state cX5_state 2 (some .int)) rm_X5_state (Pcw D ty FxM (wM ty q σ) sz [.ref (q 0), .int x1]) (Qiw D ty (wM ty q) (va_A (wM ty q σ) sz) res) 0 0 (va_A (wM ty q σ) sz) := by
  refine en_w (Qc := fun A => Qiw D ty (wM ty q) A res) (by decide) (Nat.le_of_ble_eq_true rfl) ?_
  intro p e s m args below meth c A X hlk hr _ H locs hI ls hl
  have X : CallFix p m c cX5_state 2 s args tb RX5 := X
  have hl : lv_has ls 2 [(0, .ref (q 0)), (1, .int x1)] := hl
  unfold f_X5_state at hF
  refine lv_aload_n X.1 X.2.1 dX5_state_0 rfl (lv_at hl 0 rfl) ?_
  refine lv_iload_n X.1 X.2.1 dX5_state_1 rfl (lv_at hl 1 rfl) ?_
  obtain ⟨u1, h2, hF⟩ := fb_bnd hF
  refine cs_i (w := wM ty q) (σ := σ) (rest := [.ref (q 0)]) X fxM hI (m_X5_isSegment l D ty q σ _ x1 h2) ok_X5_isSegment ml_X5_48 ⟨rfl, rfl, Nat.le_of_ble_eq_true rfl, Nat.le_of_ble_eq_true rfl⟩ rfl hl.1 rfl (Nat.le_of_ble_eq_true rfl) ⟨Nat.le_of_ble_eq_true rfl, Nat.le_of_ble_eq_true rfl⟩ dX5_state_2 (fun H locs hI => ?_)
  refine lv_if_eq (tgt := 12) X.1 X.2.1 dX5_state_5 (by decide) (fun c3 => ?_) (fun c3 => ?_)
  · replace hF := fb_pos c3 hF
    refine lv_iconst (v := 1) X.1 X.2.1 dX5_state_12 (by decide) ?_
    exact w_b_X5_state_13 X hlk hr hI x1 1 hF ls (lv_sub hl [0, 1] rfl)
  · replace hF := fb_neg c3 hF
    refine lv_iconst (v := 0) X.1 X.2.1 dX5_state_8 (by decide) ?_
    refine lv_goto (tgt := 13) X.1 X.2.1 dX5_state_9 (by decide) ?_
    exact w_b_X5_state_13 X hlk hr hI x1 0 hF ls (lv_sub hl [0, 1] rfl)
abbrev rm_X5_out : Room := { frames := 0, cells := 0, slots := 0, locals := 0 }
def f_X5_out (x1 : Int32) (σ : St) : Option (Int32 × St) :=
  if (gI σ 1) = 0 then
    some (0, sI σ 0 1)
  else
    if x1 < 0 then
      some (0, sI σ 0 1)
    else
      if x1 < (gI σ 10) then
        if inB x1 40 = true then
          some (gA σ 10 x1, sI σ 0 0)
        else none
      else
        some (0, sI σ 0 1)
set_option maxHeartbeats 4000000 in
set_option maxRecDepth 100000 in
theorem m_X5_out (l : Launch) (D : va_G) (ty : Nat → ClassId) (q : Nat → Nat) (σ : St) (sz : Nat) (x1 : Int32) {res : Int32 × St} (hF : f_X5_out x1 σ = some res) : Met l yX5_out (wsy yX5_out cX5_out 2 (some .int)) rm_X5_out (Pcw D ty FxM (wM ty q σ) sz [.ref (q 0), .int x1]) (Qiw D ty (wM ty q) (va_A (wM ty q σ) sz) res) 0 0 (va_A (wM ty q σ) sz) := by
  refine en_w (Qc := fun A => Qiw D ty (wM ty q) A res) (by decide) (Nat.le_of_ble_eq_true rfl) ?_
  intro p e s m args below meth c A X hlk hr _ H locs hI ls hl
  have X : CallFix p m c cX5_out 2 s args tb RX5 := X
  have hl : lv_has ls 2 [(0, .ref (q 0)), (1, .int x1)] := hl
  unfold f_X5_out at hF
  refine lv_aload_n X.1 X.2.1 dX5_out_0 rfl (lv_at hl 0 rfl) ?_
  refine lv_aload_n X.1 X.2.1 dX5_out_1 rfl (lv_at hl 0 rfl) ?_
  refine g_X5_state (v := gI σ 1) X hI rfl dX5_out_2 ?_
  refine lv_if_eq (tgt := 20) X.1 X.2.1 dX5_out_5 (by decide) (fun c1 => ?_) (fun c1 => ?_)
  · replace hF := fb_pos c1 hF
    refine lv_iconst (v := 1) X.1 X.2.1 dX5_out_20 (by decide) ?_
    refine lv_goto (tgt := 25) X.1 X.2.1 dX5_out_21 (by decide) ?_
    refine p_X5_code X hI dX5_out_25 (fun H locs hI => ?_)
    refine lv_aload_n X.1 X.2.1 dX5_out_28 rfl (lv_at hl 0 rfl) ?_
    refine g_X5_code (v := 1) X hI rfl dX5_out_29 ?_
    refine lv_if_le (tgt := 39) X.1 X.2.1 dX5_out_32 (by decide) (fun c => absurd c (by decide)) (fun _ => ?_)
    refine lv_iconst (v := 0) X.1 X.2.1 dX5_out_35 (by decide) ?_
    refine lv_goto (tgt := 45) X.1 X.2.1 dX5_out_36 (by decide) ?_
    exact rt_i X hlk hr hI hF dX5_out_45
  · replace hF := fb_neg c1 hF
    refine lv_iload_n X.1 X.2.1 dX5_out_8 rfl (lv_at hl 1 rfl) ?_
    refine lv_if_lt (tgt := 20) X.1 X.2.1 dX5_out_9 (by decide) (fun c2 => ?_) (fun c2 => ?_)
    · replace hF := fb_pos c2 hF
      refine lv_iconst (v := 1) X.1 X.2.1 dX5_out_20 (by decide) ?_
      refine lv_goto (tgt := 25) X.1 X.2.1 dX5_out_21 (by decide) ?_
      refine p_X5_code X hI dX5_out_25 (fun H locs hI => ?_)
      refine lv_aload_n X.1 X.2.1 dX5_out_28 rfl (lv_at hl 0 rfl) ?_
      refine g_X5_code (v := 1) X hI rfl dX5_out_29 ?_
      refine lv_if_le (tgt := 39) X.1 X.2.1 dX5_out_32 (by decide) (fun c => absurd c (by decide)) (fun _ => ?_)
      refine lv_iconst (v := 0) X.1 X.2.1 dX5_out_35 (by decide) ?_
      refine lv_goto (tgt := 45) X.1 X.2.1 dX5_out_36 (by decide) ?_
      exact rt_i X hlk hr hI hF dX5_out_45
    · replace hF := fb_neg c2 hF
      refine lv_iload_n X.1 X.2.1 dX5_out_12 rfl (lv_at hl 1 rfl) ?_
      refine lv_aload_n X.1 X.2.1 dX5_out_13 rfl (lv_at hl 0 rfl) ?_
      refine g_X5_puts (v := gI σ 10) X hI rfl dX5_out_14 ?_
      refine lv_icmp_lt (tgt := 24) X.1 X.2.1 dX5_out_17 (by decide) (fun c3 => ?_) (fun c3 => ?_)
      · replace hF := fb_pos c3 hF
        refine lv_iconst (v := 0) X.1 X.2.1 dX5_out_24 (by decide) ?_
        refine p_X5_code X hI dX5_out_25 (fun H locs hI => ?_)
        refine lv_aload_n X.1 X.2.1 dX5_out_28 rfl (lv_at hl 0 rfl) ?_
        refine g_X5_code (v := 0) X hI rfl dX5_out_29 ?_
        refine lv_if_le (tgt := 39) X.1 X.2.1 dX5_out_32 (by decide) (fun _ => ?_) (fun c => absurd (by decide) c)
        refine lv_aload_n X.1 X.2.1 dX5_out_39 rfl (lv_at hl 0 rfl) ?_
        refine g_X5_put X hI dX5_out_40 ?_
        refine lv_iload_n X.1 X.2.1 dX5_out_43 rfl (lv_at hl 1 rfl) ?_
        obtain ⟨h4, hF⟩ := fb_chk hF
        refine aM_10 (v := gA σ 10 x1) X hI rfl h4 dX5_out_44 ?_
        exact rt_i X hlk hr hI hF dX5_out_45
      · replace hF := fb_neg c3 hF
        refine lv_iconst (v := 1) X.1 X.2.1 dX5_out_20 (by decide) ?_
        refine lv_goto (tgt := 25) X.1 X.2.1 dX5_out_21 (by decide) ?_
        refine p_X5_code X hI dX5_out_25 (fun H locs hI => ?_)
        refine lv_aload_n X.1 X.2.1 dX5_out_28 rfl (lv_at hl 0 rfl) ?_
        refine g_X5_code (v := 1) X hI rfl dX5_out_29 ?_
        refine lv_if_le (tgt := 39) X.1 X.2.1 dX5_out_32 (by decide) (fun c => absurd c (by decide)) (fun _ => ?_)
        refine lv_iconst (v := 0) X.1 X.2.1 dX5_out_35 (by decide) ?_
        refine lv_goto (tgt := 45) X.1 X.2.1 dX5_out_36 (by decide) ?_
        exact rt_i X hlk hr hI hF dX5_out_45
abbrev rm_X5_local : Room := { frames := 0, cells := 0, slots := 0, locals := 0 }
def f_X5_local (x1 x2 : Int32) (σ : St) : Option (Int32 × St) :=
  if (gI σ 1) = 0 then
    some (0, sI σ 0 0)
  else
    if x1 < 0 then
      some (0, sI σ 0 0)
    else
      if (gI σ 7) ≤ x1 then
        some (0, sI σ 0 0)
      else
        if x2 < 0 then
          some (0, sI σ 0 0)
        else
          if inB x1 520 = true then
            if x2 < (gA σ 6 x1) then
              if inB ((6 * x1) + x2) 3120 = true then
                some (gA σ 7 ((6 * x1) + x2), sI σ 0 0)
              else none
            else
              some (0, sI σ 0 0)
          else none
set_option maxHeartbeats 4000000 in
set_option maxRecDepth 100000 in
theorem m_X5_local (l : Launch) (D : va_G) (ty : Nat → ClassId) (q : Nat → Nat) (σ : St) (sz : Nat) (x1 x2 : Int32) {res : Int32 × St} (hF : f_X5_local x1 x2 σ = some res) : Met l yX5_local (wsy yX5_local cX5_local 3 (some .int)) rm_X5_local (Pcw D ty FxM (wM ty q σ) sz [.ref (q 0), .int x1, .int x2]) (Qiw D ty (wM ty q) (va_A (wM ty q σ) sz) res) 0 0 (va_A (wM ty q σ) sz) := by
  refine en_w (Qc := fun A => Qiw D ty (wM ty q) A res) (by decide) (Nat.le_of_ble_eq_true rfl) ?_
  intro p e s m args below meth c A X hlk hr _ H locs hI ls hl
  have X : CallFix p m c cX5_local 3 s args tb RX5 := X
  have hl : lv_has ls 3 [(0, .ref (q 0)), (1, .int x1), (2, .int x2)] := hl
  unfold f_X5_local at hF
  refine lv_aload_n X.1 X.2.1 dX5_local_0 rfl (lv_at hl 0 rfl) ?_
  refine lv_iconst (v := 0) X.1 X.2.1 dX5_local_1 (by decide) ?_
  refine p_X5_code X hI dX5_local_2 (fun H locs hI => ?_)
  refine lv_aload_n X.1 X.2.1 dX5_local_5 rfl (lv_at hl 0 rfl) ?_
  refine g_X5_state (v := gI σ 1) X hI rfl dX5_local_6 ?_
  refine lv_if_eq (tgt := 38) X.1 X.2.1 dX5_local_9 (by decide) (fun c1 => ?_) (fun c1 => ?_)
  · replace hF := fb_pos c1 hF
    refine lv_iconst (v := 0) X.1 X.2.1 dX5_local_38 (by decide) ?_
    refine lv_goto (tgt := 53) X.1 X.2.1 dX5_local_39 (by decide) ?_
    exact rt_i X hlk hr hI hF dX5_local_53
  · replace hF := fb_neg c1 hF
    refine lv_iload_n X.1 X.2.1 dX5_local_12 rfl (lv_at hl 1 rfl) ?_
    refine lv_if_lt (tgt := 38) X.1 X.2.1 dX5_local_13 (by decide) (fun c2 => ?_) (fun c2 => ?_)
    · replace hF := fb_pos c2 hF
      refine lv_iconst (v := 0) X.1 X.2.1 dX5_local_38 (by decide) ?_
      refine lv_goto (tgt := 53) X.1 X.2.1 dX5_local_39 (by decide) ?_
      exact rt_i X hlk hr hI hF dX5_local_53
    · replace hF := fb_neg c2 hF
      refine lv_iload_n X.1 X.2.1 dX5_local_16 rfl (lv_at hl 1 rfl) ?_
      refine lv_aload_n X.1 X.2.1 dX5_local_17 rfl (lv_at hl 0 rfl) ?_
      refine g_X5_frames (v := gI σ 7) X hI rfl dX5_local_18 ?_
      refine lv_icmp_ge (tgt := 38) X.1 X.2.1 dX5_local_21 (by decide) (fun c3 => ?_) (fun c3 => ?_)
      · replace hF := fb_pos c3 hF
        refine lv_iconst (v := 0) X.1 X.2.1 dX5_local_38 (by decide) ?_
        refine lv_goto (tgt := 53) X.1 X.2.1 dX5_local_39 (by decide) ?_
        exact rt_i X hlk hr hI hF dX5_local_53
      · replace hF := fb_neg c3 hF
        refine lv_iload_n X.1 X.2.1 dX5_local_24 rfl (lv_at hl 2 rfl) ?_
        refine lv_if_lt (tgt := 38) X.1 X.2.1 dX5_local_25 (by decide) (fun c4 => ?_) (fun c4 => ?_)
        · replace hF := fb_pos c4 hF
          refine lv_iconst (v := 0) X.1 X.2.1 dX5_local_38 (by decide) ?_
          refine lv_goto (tgt := 53) X.1 X.2.1 dX5_local_39 (by decide) ?_
          exact rt_i X hlk hr hI hF dX5_local_53
        · replace hF := fb_neg c4 hF
          refine lv_iload_n X.1 X.2.1 dX5_local_28 rfl (lv_at hl 2 rfl) ?_
          refine lv_aload_n X.1 X.2.1 dX5_local_29 rfl (lv_at hl 0 rfl) ?_
          refine g_X5_locals X hI dX5_local_30 ?_
          refine lv_iload_n X.1 X.2.1 dX5_local_33 rfl (lv_at hl 1 rfl) ?_
          obtain ⟨h5, hF⟩ := fb_chk hF
          refine aM_6 (v := gA σ 6 x1) X hI rfl h5 dX5_local_34 ?_
          refine lv_icmp_lt (tgt := 42) X.1 X.2.1 dX5_local_35 (by decide) (fun c6 => ?_) (fun c6 => ?_)
          · replace hF := fb_pos c6 hF
            refine lv_aload_n X.1 X.2.1 dX5_local_42 rfl (lv_at hl 0 rfl) ?_
            refine g_X5_local X hI dX5_local_43 ?_
            refine lv_bipush (v := 6) X.1 X.2.1 dX5_local_46 (by decide) ?_
            refine lv_iload_n X.1 X.2.1 dX5_local_48 rfl (lv_at hl 1 rfl) ?_
            refine lv_imul X.1 X.2.1 dX5_local_49 ?_
            refine lv_iload_n X.1 X.2.1 dX5_local_50 rfl (lv_at hl 2 rfl) ?_
            refine lv_iadd X.1 X.2.1 dX5_local_51 ?_
            obtain ⟨h7, hF⟩ := fb_chk hF
            refine aM_7 (v := gA σ 7 ((6 * x1) + x2)) X hI rfl h7 dX5_local_52 ?_
            exact rt_i X hlk hr hI hF dX5_local_53
          · replace hF := fb_neg c6 hF
            refine lv_iconst (v := 0) X.1 X.2.1 dX5_local_38 (by decide) ?_
            refine lv_goto (tgt := 53) X.1 X.2.1 dX5_local_39 (by decide) ?_
            exact rt_i X hlk hr hI hF dX5_local_53
