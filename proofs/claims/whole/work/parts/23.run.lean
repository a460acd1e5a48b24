abbrev rm_X3_makeFresh : Room := { frames := 1, cells := 0, slots := 0, locals := 22 }
def f_X3_makeFresh (x1 x2 : Int32) (σ : St) : Option (Int32 × St) :=
  (f_X2_empty x1 σ).bind fun u1 =>
  (f_X1_empty u1.2).bind fun u3 =>
  some (0, sI (sI (sI u3.2 0 0) 1 0) 2 x2)
set_option maxHeartbeats 4000000 in
set_option maxRecDepth 100000 in
theorem m_X3_makeFresh (l : Launch) (D : va_G) (ty : Nat → ClassId) (q : Nat → Nat) (σ : St) (sz : Nat) (x1 x2 : Int32) {res : Int32 × St} (hF : f_X3_makeFresh x1 x2 σ = some res) : Met l yX3_makeFresh (wsy yX3_makeFresh cX3_makeFresh 3 none) rm_X3_makeFresh (Pcw D ty (FxC q) (wC ty q σ) sz [.ref (q 2), .int x1, .int x2]) (Qvw D ty (wC ty q) (va_A (wC ty q σ) sz) res) 0 0 (va_A (wC ty q σ) sz) := by
  refine en_w (Qc := fun A => Qvw D ty (wC ty q) A res) (by decide) (Nat.le_of_ble_eq_true rfl) ?_
  intro p e s m args below meth c A X hlk hr _ H locs hI ls hl
  have X : CallFix p m c cX3_makeFresh 3 s args tb RX3 := X
  have hl : lv_has ls 3 [(0, .ref (q 2)), (1, .int x1), (2, .int x2)] := hl
  unfold f_X3_makeFresh at hF
  refine lv_aload_n X.1 X.2.1 dX3_makeFresh_0 rfl (lv_at hl 0 rfl) ?_
  refine g_X3_memory X hI dX3_makeFresh_1 ?_
  refine lv_iload_n X.1 X.2.1 dX3_makeFresh_4 rfl (lv_at hl 1 rfl) ?_
  obtain ⟨u1, h2, hF⟩ := fb_bnd hF
  refine cl_v (w := wC ty q) (σ := σ) (rest := []) X (fxC q) hI (m_X2_empty l D ty q σ _ x1 h2) ok_X2_empty ml_X3_41 ⟨rfl, rfl, Nat.le_of_ble_eq_true rfl, Nat.le_of_ble_eq_true rfl⟩ 3 rc_X2 rfl rfl hl.1 rfl (Nat.le_of_ble_eq_true rfl) ⟨Nat.le_of_ble_eq_true rfl, Nat.le_of_ble_eq_true rfl⟩ dX3_makeFresh_5 (fun H locs hI => ?_)
  refine lv_aload_n X.1 X.2.1 dX3_makeFresh_8 rfl (lv_at hl 0 rfl) ?_
  refine g_X3_frames X hI dX3_makeFresh_9 ?_
  obtain ⟨u3, h4, hF⟩ := fb_bnd hF
  refine cl_v (w := wC ty q) (σ := u1.2) (rest := []) X (fxC q) hI (m_X1_empty l D ty q u1.2 _  h4) ok_X1_empty ml_X3_45 ⟨rfl, rfl, Nat.le_of_ble_eq_true rfl, Nat.le_of_ble_eq_true rfl⟩ 4 rc_X1 rfl rfl hl.1 rfl (Nat.le_of_ble_eq_true rfl) ⟨Nat.le_of_ble_eq_true rfl, Nat.le_of_ble_eq_true rfl⟩ dX3_makeFresh_12 (fun H locs hI => ?_)
  refine lv_aload_n X.1 X.2.1 dX3_makeFresh_15 rfl (lv_at hl 0 rfl) ?_
  refine lv_iconst (v := 0) X.1 X.2.1 dX3_makeFresh_16 (by decide) ?_
  refine p_X3_outCount X hI dX3_makeFresh_17 (fun H locs hI => ?_)
  refine lv_aload_n X.1 X.2.1 dX3_makeFresh_20 rfl (lv_at hl 0 rfl) ?_
  refine lv_iconst (v := 0) X.1 X.2.1 dX3_makeFresh_21 (by decide) ?_
  refine p_X3_result X hI dX3_makeFresh_22 (fun H locs hI => ?_)
  refine lv_aload_n X.1 X.2.1 dX3_makeFresh_25 rfl (lv_at hl 0 rfl) ?_
  refine lv_iload_n X.1 X.2.1 dX3_makeFresh_26 rfl (lv_at hl 2 rfl) ?_
  refine p_X3_status X hI dX3_makeFresh_27 (fun H locs hI => ?_)
  exact rt_v X hlk hr hI hF dX3_makeFresh_30
abbrev rm_X3_forget : Room := { frames := 2, cells := 0, slots := 0, locals := 44 }
def f_X3_forget (σ : St) : Option (Int32 × St) :=
  (f_X3_makeFresh 0 0 σ).bind fun u1 =>
  some (0, u1.2)
set_option maxHeartbeats 4000000 in
set_option maxRecDepth 100000 in
theorem m_X3_forget (l : Launch) (D : va_G) (ty : Nat → ClassId) (q : Nat → Nat) (σ : St) (sz : Nat) {res : Int32 × St} (hF : f_X3_forget  σ = some res) : Met l yX3_forget (wsy yX3_forget cX3_forget 1 none) rm_X3_forget (Pcw D ty (FxC q) (wC ty q σ) sz [.ref (q 2)]) (Qvw D ty (wC ty q) (va_A (wC ty q σ) sz) res) 0 0 (va_A (wC ty q σ) sz) := by
  refine en_w (Qc := fun A => Qvw D ty (wC ty q) A res) (by decide) (Nat.le_of_ble_eq_true rfl) ?_
  intro p e s m args below meth c A X hlk hr _ H locs hI ls hl
  have X : CallFix p m c cX3_forget 1 s args tb RX3 := X
  have hl : lv_has ls 1 [(0, .ref (q 2))] := hl
  unfold f_X3_forget at hF
  refine lv_aload_n X.1 X.2.1 dX3_forget_0 rfl (lv_at hl 0 rfl) ?_
  refine lv_iconst (v := 0) X.1 X.2.1 dX3_forget_1 (by decide) ?_
  refine lv_iconst (v := 0) X.1 X.2.1 dX3_forget_2 (by decide) ?_
  obtain ⟨u1, h2, hF⟩ := fb_bnd hF
  refine cl_v (w := wC ty q) (σ := σ) (rest := []) X (fxC q) hI (m_X3_makeFresh l D ty q σ _ 0 0 h2) ok_X3_makeFresh ml_X3_33 ⟨rfl, rfl, Nat.le_of_ble_eq_true rfl, Nat.le_of_ble_eq_true rfl⟩ 2 rc_X3 rfl rfl hl.1 rfl (Nat.le_of_ble_eq_true rfl) ⟨Nat.le_of_ble_eq_true rfl, Nat.le_of_ble_eq_true rfl⟩ dX3_forget_3 (fun H locs hI => ?_)
  exact rt_v X hlk hr hI hF dX3_forget_6
abbrev rm_X3_frameBytes : Room := { frames := 0, cells := 0, slots := 0, locals := 0 }
def f_X3_frameBytes (x0 : Int32) (σ : St) : Option Int32 :=
  some (8 + (4 * x0))
set_option maxHeartbeats 4000000 in
set_option maxRecDepth 100000 in
theorem m_X3_frameBytes (l : Launch) (D : va_G) (ty : Nat → ClassId) (q : Nat → Nat) (σ : St) (sz : Nat) (x0 : Int32) {rr : Int32} (hF : f_X3_frameBytes x0 σ = some rr) : Met l yX3_frameBytes (wsy yX3_frameBytes cX3_frameBytes 1 (some .int)) rm_X3_frameBytes (Pcw D ty (FxC q) (wC ty q σ) sz [.int x0]) (Qiw D ty (wC ty q) (va_A (wC ty q σ) sz) (rr, σ)) 0 0 (va_A (wC ty q σ) sz) := by
  refine en_w (Qc := fun A => Qiw D ty (wC ty q) A (rr, σ)) (by decide) (Nat.le_of_ble_eq_true rfl) ?_
  intro p e s m args below meth c A X hlk hr _ H locs hI ls hl
  have X : CallFix p m c cX3_frameBytes 1 s args tb RX3 := X
  have hl : lv_has ls 1 [(0, .int x0)] := hl
  unfold f_X3_frameBytes at hF
  refine lv_bipush (v := 8) X.1 X.2.1 dX3_frameBytes_0 (by decide) ?_
  refine lv_iconst (v := 4) X.1 X.2.1 dX3_frameBytes_2 (by decide) ?_
  refine lv_iload_n X.1 X.2.1 dX3_frameBytes_3 rfl (lv_at hl 0 rfl) ?_
  refine lv_imul X.1 X.2.1 dX3_frameBytes_4 ?_
  refine lv_iadd X.1 X.2.1 dX3_frameBytes_5 ?_
  exact rt_i X hlk hr hI (fb_pr hF) dX3_frameBytes_6
abbrev rm_X3_enter : Room := { frames := 3, cells := 0, slots := 0, locals := 75 }
def b_X3_enter_64 (x1 x2 x3 x4 z0 : Int32) (σ : St) : Option (Int32 × St) :=
  if z0 = 0 then
    some (0, sI σ 2 4)
  else
    (f_X0_beginOf x1 x2 σ).bind fun u10 =>
    (f_X1_open x1 (u10 + 1) x4 x3 σ).bind fun u12 =>
    some (1, u12.2)
set_option maxHeartbeats 4000000 in
set_option maxRecDepth 100000 in
theorem w_b_X3_enter_64 {l : Launch} {p : Program} {e : Env} {s : State} {m : MethodId} {args : Array Value} {below : List Frame} {meth : Method} {c : Code} {A : Nat → Prop} {D : va_G} {ty : Nat → ClassId} {q : Nat → Nat} {res : Int32 × St} (X : CallFix p m c cX3_enter 6 s args tb RX3) (hlk : meth.locks = false) (hr : meth.sig.returnType = (some .boolean)) {σ : St} {H : Heap} {locs : List Loc} (hI : Inw D ty (FxC q) (wC ty q σ) A s H locs) (x1 x2 x3 x4 z0 : Int32) (hF : b_X3_enter_64 x1 x2 x3 x4 z0 σ = some res) (ls : Array Slot) (hl : lv_has ls 6 [(0, .ref (q 2)), (1, .int x1), (2, .int x2), (3, .int x3), (4, .int x4)]) : W p l e rm_X3_enter s m args below meth c H locs 0 0 (MQ below (Qiw D ty (wC ty q) A res) args s 0 0 A) (F0 m 64 ls [.int z0]) := by
  unfold b_X3_enter_64 at hF
  refine lv_istore (lv' := [(5, .int z0), (0, .ref (q 2)), (1, .int x1), (2, .int x2), (3, .int x3), (4, .int x4)]) X.1 X.2.1 dX3_enter_64 hl (by decide) rfl (fun ls hl => ?_)
  refine lv_iload X.1 X.2.1 dX3_enter_66 (lv_at hl 0 rfl) ?_
  refine lv_if_ne (tgt := 78) X.1 X.2.1 dX3_enter_68 (by decide) (fun c9 => ?_) (fun c9 => ?_)
  · replace hF := fb_neg c9 hF
    refine lv_aload_n X.1 X.2.1 dX3_enter_78 rfl (lv_at hl 1 rfl) ?_
    refine g_X3_frames X hI dX3_enter_79 ?_
    refine lv_iload_n X.1 X.2.1 dX3_enter_82 rfl (lv_at hl 2 rfl) ?_
    refine lv_aload_n X.1 X.2.1 dX3_enter_83 rfl (lv_at hl 1 rfl) ?_
    refine g_X3_disk X hI dX3_enter_84 ?_
    refine lv_iload_n X.1 X.2.1 dX3_enter_87 rfl (lv_at hl 2 rfl) ?_
    refine lv_iload_n X.1 X.2.1 dX3_enter_88 rfl (lv_at hl 3 rfl) ?_
    obtain ⟨u10, h11, hF⟩ := fb_bnd hF
    refine cl_i (w := wC ty q) (σ := σ) (rest := [.int x1, .ref (q 4)]) X (fxC q) hI (m_X0_beginOf l D ty q σ _ x1 x2 h11) ok_X0_beginOf ml_X3_178 ⟨rfl, rfl, Nat.le_of_ble_eq_true rfl, Nat.le_of_ble_eq_true rfl⟩ 1 rc_X0 rfl rfl hl.1 rfl (Nat.le_of_ble_eq_true rfl) ⟨Nat.le_of_ble_eq_true rfl, Nat.le_of_ble_eq_true rfl⟩ dX3_enter_89 (fun H locs hI => ?_)
    refine lv_iconst (v := 1) X.1 X.2.1 dX3_enter_92 (by decide) ?_
    refine lv_iadd X.1 X.2.1 dX3_enter_93 ?_
    refine lv_iload X.1 X.2.1 dX3_enter_94 (lv_at hl 5 rfl) ?_
    refine lv_iload_n X.1 X.2.1 dX3_enter_96 rfl (lv_at hl 4 rfl) ?_
    obtain ⟨u12, h13, hF⟩ := fb_bnd hF
    refine cl_v (w := wC ty q) (σ := σ) (rest := []) X (fxC q) hI (m_X1_open l D ty q σ _ x1 (u10 + 1) x4 x3 h13) ok_X1_open ml_X3_181 ⟨rfl, rfl, Nat.le_of_ble_eq_true rfl, Nat.le_of_ble_eq_true rfl⟩ 4 rc_X1 rfl rfl hl.1 rfl (Nat.le_of_ble_eq_true rfl) ⟨Nat.le_of_ble_eq_true rfl, Nat.le_of_ble_eq_true rfl⟩ dX3_enter_97 (fun H locs hI => ?_)
    refine lv_iconst (v := 1) X.1 X.2.1 dX3_enter_100 (by decide) ?_
    exact rt_z X hlk hr hI rfl hF dX3_enter_101
  · replace hF := fb_pos c9 hF
    refine lv_aload_n X.1 X.2.1 dX3_enter_71 rfl (lv_at hl 1 rfl) ?_
    refine lv_iconst (v := 4) X.1 X.2.1 dX3_enter_72 (by decide) ?_
    refine p_X3_status X hI dX3_enter_73 (fun H locs hI => ?_)
    refine lv_iconst (v := 0) X.1 X.2.1 dX3_enter_76 (by decide) ?_
    exact rt_z X hlk hr hI rfl hF dX3_enter_77
def b_X3_enter_63 (x1 x2 x3 x4 : Int32) (σ : St) : Option (Int32 × St) :=
  b_X3_enter_64 x1 x2 x3 x4 0 σ
set_option maxHeartbeats 4000000 in
set_option maxRecDepth 100000 in
theorem w_b_X3_enter_63 {l : Launch} {p : Program} {e : Env} {s : State} {m : MethodId} {args : Array Value} {below : List Frame} {meth : Method} {c : Code} {A : Nat → Prop} {D : va_G} {ty : Nat → ClassId} {q : Nat → Nat} {res : Int32 × St} (X : CallFix p m c cX3_enter 6 s args tb RX3) (hlk : meth.locks = false) (hr : meth.sig.returnType = (some .boolean)) {σ : St} {H : Heap} {locs : List Loc} (hI : Inw D ty (FxC q) (wC ty q σ) A s H locs) (x1 x2 x3 x4 : Int32) (hF : b_X3_enter_63 x1 x2 x3 x4 σ = some res) (ls : Array Slot) (hl : lv_has ls 6 [(0, .ref (q 2)), (1, .int x1), (2, .int x2), (3, .int x3), (4, .int x4)]) : W p l e rm_X3_enter s m args below meth c H locs 0 0 (MQ below (Qiw D ty (wC ty q) A res) args s 0 0 A) (F0 m 63 ls []) := by
  unfold b_X3_enter_63 at hF
  refine lv_iconst (v := 0) X.1 X.2.1 dX3_enter_63 (by decide) ?_
  exact w_b_X3_enter_64 X hlk hr hI x1 x2 x3 x4 0 hF ls (lv_sub hl [0, 1, 2, 3, 4] rfl)
def f_X3_enter (x1 x2 x3 : Int32) (σ : St) : Option (Int32 × St) :=
  (f_X0_localsOf x1 x2 σ).bind fun u1 =>
  if u1 = (-1) then
    some (0, sI σ 2 3)
  else
    (f_X0_lengthOf x1 σ).bind fun u4 =>
    (f_X2_bringIn x1 u4 σ).bind fun u6 =>
    if u6.1 = 0 then
      b_X3_enter_63 x1 x2 x3 u1 u6.2
    else
      (f_X3_frameBytes u1 u6.2).bind fun u14 =>
      (f_X2_addFrame x1 u14 u6.2).bind fun u16 =>
      if u16.1 = 0 then
        b_X3_enter_63 x1 x2 x3 u1 u16.2
      else
        b_X3_enter_64 x1 x2 x3 u1 1 u16.2
set_option maxHeartbeats 4000000 in
set_option maxRecDepth 100000 in
theorem m_X3_enter (l : Launch) (D : va_G) (ty : Nat → ClassId) (q : Nat → Nat) (σ : St) (sz : Nat) (x1 x2 x3 : Int32) {res : Int32 × St} (hF : f_X3_enter x1 x2 x3 σ = some res) : Met l yX3_enter (wsy yX3_enter cX3_enter 6 (some .boolean)) rm_X3_enter (Pcw D ty (FxC q) (wC ty q σ) sz [.ref (q 2), .int x1, .int x2, .int x3]) (Qiw D ty (wC ty q) (va_A (wC ty q σ) sz) res) 0 0 (va_A (wC ty q σ) sz) := by
  refine en_w (Qc := fun A => Qiw D ty (wC ty q) A res) (by decide) (Nat.le_of_ble_eq_true rfl) ?_
  intro p e s m args below meth c A X hlk hr _ H locs hI ls hl
  have X : CallFix p m c cX3_enter 6 s args tb RX3 := X
  have hl : lv_has ls 6 [(0, .ref (q 2)), (1, .int x1), (2, .int x2), (3, .int x3)] := hl
  unfold f_X3_enter at hF
  refine lv_aload_n X.1 X.2.1 dX3_enter_0 rfl (lv_at hl 0 rfl) ?_
  refine g_X3_disk X hI dX3_enter_1 ?_
  refine lv_iload_n X.1 X.2.1 dX3_enter_4 rfl (lv_at hl 1 rfl) ?_
  refine lv_iload_n X.1 X.2.1 dX3_enter_5 rfl (lv_at hl 2 rfl) ?_
  obtain ⟨u1, h2, hF⟩ := fb_bnd hF
  refine cl_i (w := wC ty q) (σ := σ) (rest := []) X (fxC q) hI (m_X0_localsOf l D ty q σ _ x1 x2 h2) ok_X0_localsOf ml_X3_166 ⟨rfl, rfl, Nat.le_of_ble_eq_true rfl, Nat.le_of_ble_eq_true rfl⟩ 1 rc_X0 rfl rfl hl.1 rfl (Nat.le_of_ble_eq_true rfl) ⟨Nat.le_of_ble_eq_true rfl, Nat.le_of_ble_eq_true rfl⟩ dX3_enter_6 (fun H locs hI => ?_)
  refine lv_istore (lv' := [(4, .int u1), (0, .ref (q 2)), (1, .int x1), (2, .int x2), (3, .int x3)]) X.1 X.2.1 dX3_enter_9 hl (by decide) rfl (fun ls hl => ?_)
  refine lv_iload X.1 X.2.1 dX3_enter_11 (lv_at hl 0 rfl) ?_
  refine lv_iconst (v := (-1)) X.1 X.2.1 dX3_enter_13 (by decide) ?_
  refine lv_icmp_ne (tgt := 24) X.1 X.2.1 dX3_enter_14 (by decide) (fun c3 => ?_) (fun c3 => ?_)
  · replace hF := fb_neg c3 hF
    refine lv_aload_n X.1 X.2.1 dX3_enter_24 rfl (lv_at hl 1 rfl) ?_
    refine g_X3_memory X hI dX3_enter_25 ?_
    refine lv_iload_n X.1 X.2.1 dX3_enter_28 rfl (lv_at hl 2 rfl) ?_
    refine lv_aload_n X.1 X.2.1 dX3_enter_29 rfl (lv_at hl 1 rfl) ?_
    refine g_X3_disk X hI dX3_enter_30 ?_
    refine lv_iload_n X.1 X.2.1 dX3_enter_33 rfl (lv_at hl 2 rfl) ?_
    obtain ⟨u4, h5, hF⟩ := fb_bnd hF
    refine cl_i (w := wC ty q) (σ := σ) (rest := [.int x1, .ref (q 3)]) X (fxC q) hI (m_X0_lengthOf l D ty q σ _ x1 h5) ok_X0_lengthOf ml_X3_135 ⟨rfl, rfl, Nat.le_of_ble_eq_true rfl, Nat.le_of_ble_eq_true rfl⟩ 1 rc_X0 rfl rfl hl.1 rfl (Nat.le_of_ble_eq_true rfl) ⟨Nat.le_of_ble_eq_true rfl, Nat.le_of_ble_eq_true rfl⟩ dX3_enter_34 (fun H locs hI => ?_)
    obtain ⟨u6, h7, hF⟩ := fb_bnd hF
    refine cl_i (w := wC ty q) (σ := σ) (rest := []) X (fxC q) hI (m_X2_bringIn l D ty q σ _ x1 u4 h7) ok_X2_bringIn ml_X3_169 ⟨rfl, rfl, Nat.le_of_ble_eq_true rfl, Nat.le_of_ble_eq_true rfl⟩ 3 rc_X2 rfl rfl hl.1 rfl (Nat.le_of_ble_eq_true rfl) ⟨Nat.le_of_ble_eq_true rfl, Nat.le_of_ble_eq_true rfl⟩ dX3_enter_37 (fun H locs hI => ?_)
    refine lv_if_eq (tgt := 63) X.1 X.2.1 dX3_enter_40 (by decide) (fun c8 => ?_) (fun c8 => ?_)
    · replace hF := fb_pos c8 hF
      exact w_b_X3_enter_63 X hlk hr hI x1 x2 x3 u1 hF ls (lv_sub hl [1, 2, 3, 4, 0] rfl)
    · replace hF := fb_neg c8 hF
      refine lv_aload_n X.1 X.2.1 dX3_enter_43 rfl (lv_at hl 1 rfl) ?_
      refine g_X3_memory X hI dX3_enter_44 ?_
      refine lv_iload_n X.1 X.2.1 dX3_enter_47 rfl (lv_at hl 2 rfl) ?_
      refine lv_iload X.1 X.2.1 dX3_enter_48 (lv_at hl 0 rfl) ?_
      obtain ⟨u14, h15, hF⟩ := fb_bnd hF
      refine cs_i (w := wC ty q) (σ := u6.2) (rest := [.int x1, .ref (q 3)]) X (fxC q) hI (m_X3_frameBytes l D ty q u6.2 _ u1 h15) ok_X3_frameBytes ml_X3_172 ⟨rfl, rfl, Nat.le_of_ble_eq_true rfl, Nat.le_of_ble_eq_true rfl⟩ rfl hl.1 rfl (Nat.le_of_ble_eq_true rfl) ⟨Nat.le_of_ble_eq_true rfl, Nat.le_of_ble_eq_true rfl⟩ dX3_enter_50 (fun H locs hI => ?_)
      obtain ⟨u16, h17, hF⟩ := fb_bnd hF
      refine cl_i (w := wC ty q) (σ := u6.2) (rest := []) X (fxC q) hI (m_X2_addFrame l D ty q u6.2 _ x1 u14 h17) ok_X2_addFrame ml_X3_175 ⟨rfl, rfl, Nat.le_of_ble_eq_true rfl, Nat.le_of_ble_eq_true rfl⟩ 3 rc_X2 rfl rfl hl.1 rfl (Nat.le_of_ble_eq_true rfl) ⟨Nat.le_of_ble_eq_true rfl, Nat.le_of_ble_eq_true rfl⟩ dX3_enter_53 (fun H locs hI => ?_)
      refine lv_if_eq (tgt := 63) X.1 X.2.1 dX3_enter_56 (by decide) (fun c18 => ?_) (fun c18 => ?_)
      · replace hF := fb_pos c18 hF
        exact w_b_X3_enter_63 X hlk hr hI x1 x2 x3 u1 hF ls (lv_sub hl [1, 2, 3, 4, 0] rfl)
      · replace hF := fb_neg c18 hF
        refine lv_iconst (v := 1) X.1 X.2.1 dX3_enter_59 (by decide) ?_
        refine lv_goto (tgt := 64) X.1 X.2.1 dX3_enter_60 (by decide) ?_
        exact w_b_X3_enter_64 X hlk hr hI x1 x2 x3 u1 1 hF ls (lv_sub hl [1, 2, 3, 4, 0] rfl)
  · replace hF := fb_pos c3 hF
    refine lv_aload_n X.1 X.2.1 dX3_enter_17 rfl (lv_at hl 1 rfl) ?_
    refine lv_iconst (v := 3) X.1 X.2.1 dX3_enter_18 (by decide) ?_
    refine p_X3_status X hI dX3_enter_19 (fun H locs hI => ?_)
    refine lv_iconst (v := 0) X.1 X.2.1 dX3_enter_22 (by decide) ?_
    exact rt_z X hlk hr hI rfl hF dX3_enter_23
abbrev rm_X3_begin : Room := { frames := 4, cells := 0, slots := 0, locals := 100 }
def f_X3_begin (x1 x2 x3 : Int32) (σ : St) : Option (Int32 × St) :=
  (f_X3_makeFresh x3 1 σ).bind fun u1 =>
  (f_X3_enter x1 0 x2 u1.2).bind fun u3 =>
  some (0, u3.2)
set_option maxHeartbeats 4000000 in
set_option maxRecDepth 100000 in
theorem m_X3_begin (l : Launch) (D : va_G) (ty : Nat → ClassId) (q : Nat → Nat) (σ : St) (sz : Nat) (x1 x2 x3 : Int32) {res : Int32 × St} (hF : f_X3_begin x1 x2 x3 σ = some res) : Met l yX3_begin (wsy yX3_begin cX3_begin 4 none) rm_X3_begin (Pcw D ty (FxC q) (wC ty q σ) sz [.ref (q 2), .int x1, .int x2, .int x3]) (Qvw D ty (wC ty q) (va_A (wC ty q σ) sz) res) 0 0 (va_A (wC ty q σ) sz) := by
  refine en_w (Qc := fun A => Qvw D ty (wC ty q) A res) (by decide) (Nat.le_of_ble_eq_true rfl) ?_
  intro p e s m args below meth c A X hlk hr _ H locs hI ls hl
  have X : CallFix p m c cX3_begin 4 s args tb RX3 := X
  have hl : lv_has ls 4 [(0, .ref (q 2)), (1, .int x1), (2, .int x2), (3, .int x3)] := hl
  unfold f_X3_begin at hF
  refine lv_aload_n X.1 X.2.1 dX3_begin_0 rfl (lv_at hl 0 rfl) ?_
  refine lv_iload_n X.1 X.2.1 dX3_begin_1 rfl (lv_at hl 3 rfl) ?_
  refine lv_iconst (v := 1) X.1 X.2.1 dX3_begin_2 (by decide) ?_
  obtain ⟨u1, h2, hF⟩ := fb_bnd hF
  refine cl_v (w := wC ty q) (σ := σ) (rest := []) X (fxC q) hI (m_X3_makeFresh l D ty q σ _ x3 1 h2) ok_X3_makeFresh ml_X3_33 ⟨rfl, rfl, Nat.le_of_ble_eq_true rfl, Nat.le_of_ble_eq_true rfl⟩ 2 rc_X3 rfl rfl hl.1 rfl (Nat.le_of_ble_eq_true rfl) ⟨Nat.le_of_ble_eq_true rfl, Nat.le_of_ble_eq_true rfl⟩ dX3_begin_3 (fun H locs hI => ?_)
  refine lv_aload_n X.1 X.2.1 dX3_begin_6 rfl (lv_at hl 0 rfl) ?_
  refine lv_iload_n X.1 X.2.1 dX3_begin_7 rfl (lv_at hl 1 rfl) ?_
  refine lv_iconst (v := 0) X.1 X.2.1 dX3_begin_8 (by decide) ?_
  refine lv_iload_n X.1 X.2.1 dX3_begin_9 rfl (lv_at hl 2 rfl) ?_
  obtain ⟨u3, h4, hF⟩ := fb_bnd hF
  refine cl_i (w := wC ty q) (σ := u1.2) (rest := []) X (fxC q) hI (m_X3_enter l D ty q u1.2 _ x1 0 x2 h4) ok_X3_enter ml_X3_37 ⟨rfl, rfl, Nat.le_of_ble_eq_true rfl, Nat.le_of_ble_eq_true rfl⟩ 2 rc_X3 rfl rfl hl.1 rfl (Nat.le_of_ble_eq_true rfl) ⟨Nat.le_of_ble_eq_true rfl, Nat.le_of_ble_eq_true rfl⟩ dX3_begin_10 (fun H locs hI => ?_)
  refine lv_pop X.1 X.2.1 dX3_begin_13 rfl ?_
  exact rt_v X hlk hr hI hF dX3_begin_14
abbrev rm_X3_status : Room := { frames := 0, cells := 0, slots := 0, locals := 0 }
def f_X3_status (σ : St) : Option Int32 :=
  some (gI σ 2)
set_option maxHeartbeats 4000000 in
set_option maxRecDepth 100000 in
theorem m_X3_status (l : Launch) (D : va_G) (ty : Nat → ClassId) (q : Nat → Nat) (σ : St) (sz : Nat) {rr : Int32} (hF : f_X3_status  σ = some rr) : Met l yX3_status (wsy yX3_status cX3_status 1 (some .int)) rm_X3_status (Pcw D ty (FxC q) (wC ty q σ) sz [.ref (q 2)]) (Qiw D ty (wC ty q) (va_A (wC ty q σ) sz) (rr, σ)) 0 0 (va_A (wC ty q σ) sz) := by
  refine en_w (Qc := fun A => Qiw D ty (wC ty q) A (rr, σ)) (by decide) (Nat.le_of_ble_eq_true rfl) ?_
  intro p e s m args below meth c A X hlk hr _ H locs hI ls hl
  have X : CallFix p m c cX3_status 1 s args tb RX3 := X
  have hl : lv_has ls 1 [(0, .ref (q 2))] := hl
  unfold f_X3_status at hF
  refine lv_aload_n X.1 X.2.1 dX3_status_0 rfl (lv_at hl 0 rfl) ?_
  refine g_X3_status (v := gI σ 2) X hI rfl dX3_status_1 ?_
  exact rt_i X hlk hr hI (fb_pr hF) dX3_status_4
abbrev rm_X3_outCount : Room := { frames := 0, cells := 0, slots := 0, locals := 0 }
def f_X3_outCount (σ : St) : Option Int32 :=
  some (gI σ 0)
set_option maxHeartbeats 4000000 in
set_option maxRecDepth 100000 in
theorem m_X3_outCount (l : Launch) (D : va_G) (ty : Nat → ClassId) (q : Nat → Nat) (σ : St) (sz : Nat) {rr : Int32} (hF : f_X3_outCount  σ = some rr) : Met l yX3_outCount (wsy yX3_outCount cX3_outCount 1 (some .int)) rm_X3_outCount (Pcw D ty (FxC q) (wC ty q σ) sz [.ref (q 2)]) (Qiw D ty (wC ty q) (va_A (wC ty q σ) sz) (rr, σ)) 0 0 (va_A (wC ty q σ) sz) := by
  refine en_w (Qc := fun A => Qiw D ty (wC ty q) A (rr, σ)) (by decide) (Nat.le_of_ble_eq_true rfl) ?_
  intro p e s m args below meth c A X hlk hr _ H locs hI ls hl
  have X : CallFix p m c cX3_outCount 1 s args tb RX3 := X
  have hl : lv_has ls 1 [(0, .ref (q 2))] := hl
  unfold f_X3_outCount at hF
  refine lv_aload_n X.1 X.2.1 dX3_outCount_0 rfl (lv_at hl 0 rfl) ?_
  refine g_X3_outCount (v := gI σ 0) X hI rfl dX3_outCount_1 ?_
  exact rt_i X hlk hr hI (fb_pr hF) dX3_outCount_4
abbrev rm_X3_outAt : Room := { frames := 0, cells := 0, slots := 0, locals := 0 }
def f_X3_outAt (x1 : Int32) (σ : St) : Option Int32 :=
  if x1 < 0 then
    some 0
  else
    if (gI σ 0) ≤ x1 then
      some 0
    else
      if inB x1 40 = true then
        some (gA σ 1 x1)
      else none
set_option maxHeartbeats 4000000 in
set_option maxRecDepth 100000 in
theorem m_X3_outAt (l : Launch) (D : va_G) (ty : Nat → ClassId) (q : Nat → Nat) (σ : St) (sz : Nat) (x1 : Int32) {rr : Int32} (hF : f_X3_outAt x1 σ = some rr) : Met l yX3_outAt (wsy yX3_outAt cX3_outAt 2 (some .int)) rm_X3_outAt (Pcw D ty (FxC q) (wC ty q σ) sz [.ref (q 2), .int x1]) (Qiw D ty (wC ty q) (va_A (wC ty q σ) sz) (rr, σ)) 0 0 (va_A (wC ty q σ) sz) := by
  refine en_w (Qc := fun A => Qiw D ty (wC ty q) A (rr, σ)) (by decide) (Nat.le_of_ble_eq_true rfl) ?_
  intro p e s m args below meth c A X hlk hr _ H locs hI ls hl
  have X : CallFix p m c cX3_outAt 2 s args tb RX3 := X
  have hl : lv_has ls 2 [(0, .ref (q 2)), (1, .int x1)] := hl
  unfold f_X3_outAt at hF
  refine lv_iload_n X.1 X.2.1 dX3_outAt_0 rfl (lv_at hl 1 rfl) ?_
  refine lv_if_lt (tgt := 21) X.1 X.2.1 dX3_outAt_1 (by decide) (fun c1 => ?_) (fun c1 => ?_)
  · replace hF := fb_pos c1 hF
    refine lv_iconst (v := 0) X.1 X.2.1 dX3_outAt_21 (by decide) ?_
    exact rt_i X hlk hr hI (fb_pr hF) dX3_outAt_22
  · replace hF := fb_neg c1 hF
    refine lv_iload_n X.1 X.2.1 dX3_outAt_4 rfl (lv_at hl 1 rfl) ?_
    refine lv_aload_n X.1 X.2.1 dX3_outAt_5 rfl (lv_at hl 0 rfl) ?_
    refine g_X3_outCount (v := gI σ 0) X hI rfl dX3_outAt_6 ?_
    refine lv_icmp_ge (tgt := 21) X.1 X.2.1 dX3_outAt_9 (by decide) (fun c2 => ?_) (fun c2 => ?_)
    · replace hF := fb_pos c2 hF
      refine lv_iconst (v := 0) X.1 X.2.1 dX3_outAt_21 (by decide) ?_
      exact rt_i X hlk hr hI (fb_pr hF) dX3_outAt_22
    · replace hF := fb_neg c2 hF
      refine lv_aload_n X.1 X.2.1 dX3_outAt_12 rfl (lv_at hl 0 rfl) ?_
      refine g_X3_outs X hI dX3_outAt_13 ?_
      refine lv_iload_n X.1 X.2.1 dX3_outAt_16 rfl (lv_at hl 1 rfl) ?_
      obtain ⟨h3, hF⟩ := fb_chk hF
      refine aC_1 (v := gA σ 1 x1) X hI rfl h3 dX3_outAt_17 ?_
      refine lv_goto (tgt := 22) X.1 X.2.1 dX3_outAt_18 (by decide) ?_
      exact rt_i X hlk hr hI (fb_pr hF) dX3_outAt_22
abbrev rm_X3_localAt : Room := { frames := 2, cells := 0, slots := 0, locals := 44 }
def f_X3_localAt (x1 x2 : Int32) (σ : St) : Option Int32 :=
  (f_X1_localAt x1 x2 σ).bind fun u1 =>
  some u1
set_option maxHeartbeats 4000000 in
set_option maxRecDepth 100000 in
theorem m_X3_localAt (l : Launch) (D : va_G) (ty : Nat → ClassId) (q : Nat → Nat) (σ : St) (sz : Nat) (x1 x2 : Int32) {rr : Int32} (hF : f_X3_localAt x1 x2 σ = some rr) : Met l yX3_localAt (wsy yX3_localAt cX3_localAt 3 (some .int)) rm_X3_localAt (Pcw D ty (FxC q) (wC ty q σ) sz [.ref (q 2), .int x1, .int x2]) (Qiw D ty (wC ty q) (va_A (wC ty q σ) sz) (rr, σ)) 0 0 (va_A (wC ty q σ) sz) := by
  refine en_w (Qc := fun A => Qiw D ty (wC ty q) A (rr, σ)) (by decide) (Nat.le_of_ble_eq_true rfl) ?_
  intro p e s m args below meth c A X hlk hr _ H locs hI ls hl
  have X : CallFix p m c cX3_localAt 3 s args tb RX3 := X
  have hl : lv_has ls 3 [(0, .ref (q 2)), (1, .int x1), (2, .int x2)] := hl
  unfold f_X3_localAt at hF
  refine lv_aload_n X.1 X.2.1 dX3_localAt_0 rfl (lv_at hl 0 rfl) ?_
  refine g_X3_frames X hI dX3_localAt_1 ?_
  refine lv_iload_n X.1 X.2.1 dX3_localAt_4 rfl (lv_at hl 1 rfl) ?_
  refine lv_iload_n X.1 X.2.1 dX3_localAt_5 rfl (lv_at hl 2 rfl) ?_
  obtain ⟨u1, h2, hF⟩ := fb_bnd hF
  refine cl_i (w := wC ty q) (σ := σ) (rest := []) X (fxC q) hI (m_X1_localAt l D ty q σ _ x1 x2 h2) ok_X1_localAt ml_X3_57 ⟨rfl, rfl, Nat.le_of_ble_eq_true rfl, Nat.le_of_ble_eq_true rfl⟩ 4 rc_X1 rfl rfl hl.1 rfl (Nat.le_of_ble_eq_true rfl) ⟨Nat.le_of_ble_eq_true rfl, Nat.le_of_ble_eq_true rfl⟩ dX3_localAt_6 (fun H locs hI => ?_)
  exact rt_i X hlk hr hI (fb_pr hF) dX3_localAt_9
abbrev rm_X3_stateOf : Room := { frames := 2, cells := 0, slots := 0, locals := 41 }
def b_X3_stateOf_16 (x1 z0 : Int32) (σ : St) : Option Int32 :=
  (f_X2_isActive x1 σ).bind fun u4 =>
  if u4 = 0 then
    some (z0 + 0)
  else
    some (z0 + 2)
set_option maxHeartbeats 4000000 in
set_option maxRecDepth 100000 in
theorem w_b_X3_stateOf_16 {l : Launch} {p : Program} {e : Env} {s : State} {m : MethodId} {args : Array Value} {below : List Frame} {meth : Method} {c : Code} {A : Nat → Prop} {D : va_G} {ty : Nat → ClassId} {q : Nat → Nat} {rr : Int32} (X : CallFix p m c cX3_stateOf 2 s args tb RX3) (hlk : meth.locks = false) (hr : meth.sig.returnType = (some .int)) {σ : St} {H : Heap} {locs : List Loc} (hI : Inw D ty (FxC q) (wC ty q σ) A s H locs) (x1 z0 : Int32) (hF : b_X3_stateOf_16 x1 z0 σ = some rr) (ls : Array Slot) (hl : lv_has ls 2 [(0, .ref (q 2)), (1, .int x1)]) : W p l e rm_X3_stateOf s m args below meth c H locs 0 0 (MQ below (Qiw D ty (wC ty q) A (rr, σ)) args s 0 0 A) (F0 m 16 ls [.int z0]) := by
  unfold b_X3_stateOf_16 at hF
  refine lv_aload_n X.1 X.2.1 dX3_stateOf_16 rfl (lv_at hl 0 rfl) ?_
  refine g_X3_memory X hI dX3_stateOf_17 ?_
  refine lv_iload_n X.1 X.2.1 dX3_stateOf_20 rfl (lv_at hl 1 rfl) ?_
  obtain ⟨u4, h5, hF⟩ := fb_bnd hF
  refine cl_i (w := wC ty q) (σ := σ) (rest := [.int z0]) X (fxC q) hI (m_X2_isActive l D ty q σ _ x1 h5) ok_X2_isActive ml_X3_65 ⟨rfl, rfl, Nat.le_of_ble_eq_true rfl, Nat.le_of_ble_eq_true rfl⟩ 3 rc_X2 rfl rfl hl.1 rfl (Nat.le_of_ble_eq_true rfl) ⟨Nat.le_of_ble_eq_true rfl, Nat.le_of_ble_eq_true rfl⟩ dX3_stateOf_21 (fun H locs hI => ?_)
  refine lv_if_eq (tgt := 31) X.1 X.2.1 dX3_stateOf_24 (by decide) (fun c6 => ?_) (fun c6 => ?_)
  · replace hF := fb_pos c6 hF
    refine lv_iconst (v := 0) X.1 X.2.1 dX3_stateOf_31 (by decide) ?_
    refine lv_iadd X.1 X.2.1 dX3_stateOf_32 ?_
    exact rt_i X hlk hr hI (fb_pr hF) dX3_stateOf_33
  · replace hF := fb_neg c6 hF
    refine lv_iconst (v := 2) X.1 X.2.1 dX3_stateOf_27 (by decide) ?_
    refine lv_goto (tgt := 32) X.1 X.2.1 dX3_stateOf_28 (by decide) ?_
    refine lv_iadd X.1 X.2.1 dX3_stateOf_32 ?_
    exact rt_i X hlk hr hI (fb_pr hF) dX3_stateOf_33
def f_X3_stateOf (x1 : Int32) (σ : St) : Option Int32 :=
  (f_X2_isResident x1 σ).bind fun u1 =>
  if u1 = 0 then
    b_X3_stateOf_16 x1 0 σ
  else
    b_X3_stateOf_16 x1 1 σ
set_option maxHeartbeats 4000000 in
set_option maxRecDepth 100000 in
theorem m_X3_stateOf (l : Launch) (D : va_G) (ty : Nat → ClassId) (q : Nat → Nat) (σ : St) (sz : Nat) (x1 : Int32) {rr : Int32} (hF : f_X3_stateOf x1 σ = some rr) : Met l yX3_stateOf (wsy yX3_stateOf cX3_stateOf 2 (some .int)) rm_X3_stateOf (Pcw D ty (FxC q) (wC ty q σ) sz [.ref (q 2), .int x1]) (Qiw D ty (wC ty q) (va_A (wC ty q σ) sz) (rr, σ)) 0 0 (va_A (wC ty q σ) sz) := by
  refine en_w (Qc := fun A => Qiw D ty (wC ty q) A (rr, σ)) (by decide) (Nat.le_of_ble_eq_true rfl) ?_
  intro p e s m args below meth c A X hlk hr _ H locs hI ls hl
  have X : CallFix p m c cX3_stateOf 2 s args tb RX3 := X
  have hl : lv_has ls 2 [(0, .ref (q 2)), (1, .int x1)] := hl
  unfold f_X3_stateOf at hF
  refine lv_aload_n X.1 X.2.1 dX3_stateOf_0 rfl (lv_at hl 0 rfl) ?_
  refine g_X3_memory X hI dX3_stateOf_1 ?_
  refine lv_iload_n X.1 X.2.1 dX3_stateOf_4 rfl (lv_at hl 1 rfl) ?_
  obtain ⟨u1, h2, hF⟩ := fb_bnd hF
  refine cl_i (w := wC ty q) (σ := σ) (rest := []) X (fxC q) hI (m_X2_isResident l D ty q σ _ x1 h2) ok_X2_isResident ml_X3_61 ⟨rfl, rfl, Nat.le_of_ble_eq_true rfl, Nat.le_of_ble_eq_true rfl⟩ 3 rc_X2 rfl rfl hl.1 rfl (Nat.le_of_ble_eq_true rfl) ⟨Nat.le_of_ble_eq_true rfl, Nat.le_of_ble_eq_true rfl⟩ dX3_stateOf_5 (fun H locs hI => ?_)
  refine lv_if_eq (tgt := 15) X.1 X.2.1 dX3_stateOf_8 (by decide) (fun c3 => ?_) (fun c3 => ?_)
  · replace hF := fb_pos c3 hF
    refine lv_iconst (v := 0) X.1 X.2.1 dX3_stateOf_15 (by decide) ?_
    exact w_b_X3_stateOf_16 X hlk hr hI x1 0 hF ls (lv_sub hl [0, 1] rfl)
  · replace hF := fb_neg c3 hF
    refine lv_iconst (v := 1) X.1 X.2.1 dX3_stateOf_11 (by decide) ?_
    refine lv_goto (tgt := 16) X.1 X.2.1 dX3_stateOf_12 (by decide) ?_
    exact w_b_X3_stateOf_16 X hlk hr hI x1 1 hF ls (lv_sub hl [0, 1] rfl)
abbrev rm_X3_fact : Room := { frames := 1, cells := 0, slots := 0, locals := 20 }
def f_X3_fact (x1 : Int32) (σ : St) : Option Int32 :=
  if x1 = 0 then
    some (gI σ 2)
  else
  if x1 = 1 then
    (f_X2_held σ).bind fun u3 =>
    some u3
  else
  if x1 = 2 then
    (f_X2_most σ).bind fun u6 =>
    some u6
  else
  if x1 = 3 then
    (f_X2_loads σ).bind fun u9 =>
    some u9
  else
  if x1 = 4 then
    (f_X2_gone σ).bind fun u12 =>
    some u12
  else
  if x1 = 5 then
    (f_X1_count σ).bind fun u15 =>
    some u15
  else
  if x1 = 6 then
    (f_X1_latestSegment σ).bind fun u18 =>
    some u18
  else
  if x1 = 7 then
    (f_X1_latestPlace σ).bind fun u21 =>
    some u21
  else
  if x1 = 8 then
    (f_X1_depth σ).bind fun u24 =>
    some u24
  else
  if x1 = 9 then
    some (gI σ 1)
  else
  some (gI σ 0)
set_option maxHeartbeats 4000000 in
set_option maxRecDepth 100000 in
theorem m_X3_fact (l : Launch) (D : va_G) (ty : Nat → ClassId) (q : Nat → Nat) (σ : St) (sz : Nat) (x1 : Int32) {rr : Int32} (hF : f_X3_fact x1 σ = some rr) : Met l yX3_fact (wsy yX3_fact cX3_fact 2 (some .int)) rm_X3_fact (Pcw D ty (FxC q) (wC ty q σ) sz [.ref (q 2), .int x1]) (Qiw D ty (wC ty q) (va_A (wC ty q σ) sz) (rr, σ)) 0 0 (va_A (wC ty q σ) sz) := by
  refine en_w (Qc := fun A => Qiw D ty (wC ty q) A (rr, σ)) (by decide) (Nat.le_of_ble_eq_true rfl) ?_
  intro p e s m args below meth c A X hlk hr _ H locs hI ls hl
  have X : CallFix p m c cX3_fact 2 s args tb RX3 := X
  have hl : lv_has ls 2 [(0, .ref (q 2)), (1, .int x1)] := hl
  unfold f_X3_fact at hF
  refine lv_iload_n X.1 X.2.1 dX3_fact_0 rfl (lv_at hl 1 rfl) ?_
  by_cases c1 : x1 = 0
  · replace hF := fb_pos c1 hF
    refine lv_tableIn (tgt := 56) X.1 X.2.1 dX3_fact_1 (by rw [c1]; decide) (by rw [c1]; decide) (by rw [c1]; rfl) (by decide) ?_
    refine lv_aload_n X.1 X.2.1 dX3_fact_56 rfl (lv_at hl 0 rfl) ?_
    refine g_X3_status (v := gI σ 2) X hI rfl dX3_fact_57 ?_
    exact rt_i X hlk hr hI (fb_pr hF) dX3_fact_60
  replace hF := fb_neg c1 hF
  by_cases c2 : x1 = 1
  · replace hF := fb_pos c2 hF
    refine lv_tableIn (tgt := 61) X.1 X.2.1 dX3_fact_1 (by rw [c2]; decide) (by rw [c2]; decide) (by rw [c2]; rfl) (by decide) ?_
    refine lv_aload_n X.1 X.2.1 dX3_fact_61 rfl (lv_at hl 0 rfl) ?_
    refine g_X3_memory X hI dX3_fact_62 ?_
    obtain ⟨u3, h4, hF⟩ := fb_bnd hF
    refine cl_i (w := wC ty q) (σ := σ) (rest := []) X (fxC q) hI (m_X2_held l D ty q σ _  h4) ok_X2_held ml_X3_68 ⟨rfl, rfl, Nat.le_of_ble_eq_true rfl, Nat.le_of_ble_eq_true rfl⟩ 3 rc_X2 rfl rfl hl.1 rfl (Nat.le_of_ble_eq_true rfl) ⟨Nat.le_of_ble_eq_true rfl, Nat.le_of_ble_eq_true rfl⟩ dX3_fact_65 (fun H locs hI => ?_)
    exact rt_i X hlk hr hI (fb_pr hF) dX3_fact_68
  replace hF := fb_neg c2 hF
  by_cases c5 : x1 = 2
  · replace hF := fb_pos c5 hF
    refine lv_tableIn (tgt := 69) X.1 X.2.1 dX3_fact_1 (by rw [c5]; decide) (by rw [c5]; decide) (by rw [c5]; rfl) (by decide) ?_
    refine lv_aload_n X.1 X.2.1 dX3_fact_69 rfl (lv_at hl 0 rfl) ?_
    refine g_X3_memory X hI dX3_fact_70 ?_
    obtain ⟨u6, h7, hF⟩ := fb_bnd hF
    refine cl_i (w := wC ty q) (σ := σ) (rest := []) X (fxC q) hI (m_X2_most l D ty q σ _  h7) ok_X2_most ml_X3_72 ⟨rfl, rfl, Nat.le_of_ble_eq_true rfl, Nat.le_of_ble_eq_true rfl⟩ 3 rc_X2 rfl rfl hl.1 rfl (Nat.le_of_ble_eq_true rfl) ⟨Nat.le_of_ble_eq_true rfl, Nat.le_of_ble_eq_true rfl⟩ dX3_fact_73 (fun H locs hI => ?_)
    exact rt_i X hlk hr hI (fb_pr hF) dX3_fact_76
  replace hF := fb_neg c5 hF
  by_cases c8 : x1 = 3
  · replace hF := fb_pos c8 hF
    refine lv_tableIn (tgt := 77) X.1 X.2.1 dX3_fact_1 (by rw [c8]; decide) (by rw [c8]; decide) (by rw [c8]; rfl) (by decide) ?_
    refine lv_aload_n X.1 X.2.1 dX3_fact_77 rfl (lv_at hl 0 rfl) ?_
    refine g_X3_memory X hI dX3_fact_78 ?_
    obtain ⟨u9, h10, hF⟩ := fb_bnd hF
    refine cl_i (w := wC ty q) (σ := σ) (rest := []) X (fxC q) hI (m_X2_loads l D ty q σ _  h10) ok_X2_loads ml_X3_75 ⟨rfl, rfl, Nat.le_of_ble_eq_true rfl, Nat.le_of_ble_eq_true rfl⟩ 3 rc_X2 rfl rfl hl.1 rfl (Nat.le_of_ble_eq_true rfl) ⟨Nat.le_of_ble_eq_true rfl, Nat.le_of_ble_eq_true rfl⟩ dX3_fact_81 (fun H locs hI => ?_)
    exact rt_i X hlk hr hI (fb_pr hF) dX3_fact_84
  replace hF := fb_neg c8 hF
  by_cases c11 : x1 = 4
  · replace hF := fb_pos c11 hF
    refine lv_tableIn (tgt := 85) X.1 X.2.1 dX3_fact_1 (by rw [c11]; decide) (by rw [c11]; decide) (by rw [c11]; rfl) (by decide) ?_
    refine lv_aload_n X.1 X.2.1 dX3_fact_85 rfl (lv_at hl 0 rfl) ?_
    refine g_X3_memory X hI dX3_fact_86 ?_
    obtain ⟨u12, h13, hF⟩ := fb_bnd hF
    refine cl_i (w := wC ty q) (σ := σ) (rest := []) X (fxC q) hI (m_X2_gone l D ty q σ _  h13) ok_X2_gone ml_X3_78 ⟨rfl, rfl, Nat.le_of_ble_eq_true rfl, Nat.le_of_ble_eq_true rfl⟩ 3 rc_X2 rfl rfl hl.1 rfl (Nat.le_of_ble_eq_true rfl) ⟨Nat.le_of_ble_eq_true rfl, Nat.le_of_ble_eq_true rfl⟩ dX3_fact_89 (fun H locs hI => ?_)
    exact rt_i X hlk hr hI (fb_pr hF) dX3_fact_92
  replace hF := fb_neg c11 hF
  by_cases c14 : x1 = 5
  · replace hF := fb_pos c14 hF
    refine lv_tableIn (tgt := 93) X.1 X.2.1 dX3_fact_1 (by rw [c14]; decide) (by rw [c14]; decide) (by rw [c14]; rfl) (by decide) ?_
    refine lv_aload_n X.1 X.2.1 dX3_fact_93 rfl (lv_at hl 0 rfl) ?_
    refine g_X3_frames X hI dX3_fact_94 ?_
    obtain ⟨u15, h16, hF⟩ := fb_bnd hF
    refine cl_i (w := wC ty q) (σ := σ) (rest := []) X (fxC q) hI (m_X1_count l D ty q σ _  h16) ok_X1_count ml_X3_81 ⟨rfl, rfl, Nat.le_of_ble_eq_true rfl, Nat.le_of_ble_eq_true rfl⟩ 4 rc_X1 rfl rfl hl.1 rfl (Nat.le_of_ble_eq_true rfl) ⟨Nat.le_of_ble_eq_true rfl, Nat.le_of_ble_eq_true rfl⟩ dX3_fact_97 (fun H locs hI => ?_)
    exact rt_i X hlk hr hI (fb_pr hF) dX3_fact_100
  replace hF := fb_neg c14 hF
  by_cases c17 : x1 = 6
  · replace hF := fb_pos c17 hF
    refine lv_tableIn (tgt := 101) X.1 X.2.1 dX3_fact_1 (by rw [c17]; decide) (by rw [c17]; decide) (by rw [c17]; rfl) (by decide) ?_
    refine lv_aload_n X.1 X.2.1 dX3_fact_101 rfl (lv_at hl 0 rfl) ?_
    refine g_X3_frames X hI dX3_fact_102 ?_
    obtain ⟨u18, h19, hF⟩ := fb_bnd hF
    refine cl_i (w := wC ty q) (σ := σ) (rest := []) X (fxC q) hI (m_X1_latestSegment l D ty q σ _  h19) ok_X1_latestSegment ml_X3_84 ⟨rfl, rfl, Nat.le_of_ble_eq_true rfl, Nat.le_of_ble_eq_true rfl⟩ 4 rc_X1 rfl rfl hl.1 rfl (Nat.le_of_ble_eq_true rfl) ⟨Nat.le_of_ble_eq_true rfl, Nat.le_of_ble_eq_true rfl⟩ dX3_fact_105 (fun H locs hI => ?_)
    exact rt_i X hlk hr hI (fb_pr hF) dX3_fact_108
  replace hF := fb_neg c17 hF
  by_cases c20 : x1 = 7
  · replace hF := fb_pos c20 hF
    refine lv_tableIn (tgt := 109) X.1 X.2.1 dX3_fact_1 (by rw [c20]; decide) (by rw [c20]; decide) (by rw [c20]; rfl) (by decide) ?_
    refine lv_aload_n X.1 X.2.1 dX3_fact_109 rfl (lv_at hl 0 rfl) ?_
    refine g_X3_frames X hI dX3_fact_110 ?_
    obtain ⟨u21, h22, hF⟩ := fb_bnd hF
    refine cl_i (w := wC ty q) (σ := σ) (rest := []) X (fxC q) hI (m_X1_latestPlace l D ty q σ _  h22) ok_X1_latestPlace ml_X3_87 ⟨rfl, rfl, Nat.le_of_ble_eq_true rfl, Nat.le_of_ble_eq_true rfl⟩ 4 rc_X1 rfl rfl hl.1 rfl (Nat.le_of_ble_eq_true rfl) ⟨Nat.le_of_ble_eq_true rfl, Nat.le_of_ble_eq_true rfl⟩ dX3_fact_113 (fun H locs hI => ?_)
    exact rt_i X hlk hr hI (fb_pr hF) dX3_fact_116
  replace hF := fb_neg c20 hF
  by_cases c23 : x1 = 8
  · replace hF := fb_pos c23 hF
    refine lv_tableIn (tgt := 117) X.1 X.2.1 dX3_fact_1 (by rw [c23]; decide) (by rw [c23]; decide) (by rw [c23]; rfl) (by decide) ?_
    refine lv_aload_n X.1 X.2.1 dX3_fact_117 rfl (lv_at hl 0 rfl) ?_
    refine g_X3_frames X hI dX3_fact_118 ?_
    obtain ⟨u24, h25, hF⟩ := fb_bnd hF
    refine cl_i (w := wC ty q) (σ := σ) (rest := []) X (fxC q) hI (m_X1_depth l D ty q σ _  h25) ok_X1_depth ml_X3_90 ⟨rfl, rfl, Nat.le_of_ble_eq_true rfl, Nat.le_of_ble_eq_true rfl⟩ 4 rc_X1 rfl rfl hl.1 rfl (Nat.le_of_ble_eq_true rfl) ⟨Nat.le_of_ble_eq_true rfl, Nat.le_of_ble_eq_true rfl⟩ dX3_fact_121 (fun H locs hI => ?_)
    exact rt_i X hlk hr hI (fb_pr hF) dX3_fact_124
  replace hF := fb_neg c23 hF
  by_cases c26 : x1 = 9
  · replace hF := fb_pos c26 hF
    refine lv_tableIn (tgt := 125) X.1 X.2.1 dX3_fact_1 (by rw [c26]; decide) (by rw [c26]; decide) (by rw [c26]; rfl) (by decide) ?_
    refine lv_aload_n X.1 X.2.1 dX3_fact_125 rfl (lv_at hl 0 rfl) ?_
    refine g_X3_result (v := gI σ 1) X hI rfl dX3_fact_126 ?_
    exact rt_i X hlk hr hI (fb_pr hF) dX3_fact_129
  replace hF := fb_neg c26 hF
  have hDf : W p l e rm_X3_fact s m args below meth c H locs 0 0 (MQ below (Qiw D ty (wC ty q) A (rr, σ)) args s 0 0 A) (F0 m 130 ls []) := by
    refine lv_aload_n X.1 X.2.1 dX3_fact_130 rfl (lv_at hl 0 rfl) ?_
    refine g_X3_outCount (v := gI σ 0) X hI rfl dX3_fact_131 ?_
    exact rt_i X hlk hr hI (fb_pr hF) dX3_fact_134
  refine lv_tableOut (tgt := 130) X.1 X.2.1 dX3_fact_1 ?_ (by decide) hDf
  by_cases g27 : (x1).toInt < 0
  · exact Or.inl g27
  · refine Or.inr ?_
    have n0 : ¬ (x1).toInt = 0 := fun h => c1 (Int32.toInt_inj.mp (h.trans (by decide)))
    have n1 : ¬ (x1).toInt = 1 := fun h => c2 (Int32.toInt_inj.mp (h.trans (by decide)))
    have n2 : ¬ (x1).toInt = 2 := fun h => c5 (Int32.toInt_inj.mp (h.trans (by decide)))
    have n3 : ¬ (x1).toInt = 3 := fun h => c8 (Int32.toInt_inj.mp (h.trans (by decide)))
    have n4 : ¬ (x1).toInt = 4 := fun h => c11 (Int32.toInt_inj.mp (h.trans (by decide)))
    have n5 : ¬ (x1).toInt = 5 := fun h => c14 (Int32.toInt_inj.mp (h.trans (by decide)))
    have n6 : ¬ (x1).toInt = 6 := fun h => c17 (Int32.toInt_inj.mp (h.trans (by decide)))
    have n7 : ¬ (x1).toInt = 7 := fun h => c20 (Int32.toInt_inj.mp (h.trans (by decide)))
    have n8 : ¬ (x1).toInt = 8 := fun h => c23 (Int32.toInt_inj.mp (h.trans (by decide)))
    have n9 : ¬ (x1).toInt = 9 := fun h => c26 (Int32.toInt_inj.mp (h.trans (by decide)))
    omega
abbrev rm_X3_kindAt : Room := { frames := 1, cells := 0, slots := 0, locals := 23 }
def f_X3_kindAt (x1 x2 : Int32) (σ : St) : Option Int32 :=
  (f_X0_lengthOf x1 σ).bind fun u1 =>
  if x2 < 0 then
    some (-1)
  else
    if x2 < u1 then
      (f_X0_byteAt x1 x2 σ).bind fun u5 =>
      if u5 < 0 then
        some (-1)
      else
        if 13 ≤ u5 then
          some (-1)
        else
          if inB u5 13 = true then
            if (x2 + (tLen u5.toNatClampNeg)) ≤ u1 then
              some u5
            else
              some (-1)
          else none
    else
      some (-1)
set_option maxHeartbeats 4000000 in
set_option maxRecDepth 100000 in
theorem m_X3_kindAt (l : Launch) (D : va_G) (ty : Nat → ClassId) (q : Nat → Nat) (σ : St) (sz : Nat) (x1 x2 : Int32) {rr : Int32} (hF : f_X3_kindAt x1 x2 σ = some rr) : Met l yX3_kindAt (wsy yX3_kindAt cX3_kindAt 5 (some .int)) rm_X3_kindAt (Pcw D ty (FxC q) (wC ty q σ) sz [.ref (q 2), .int x1, .int x2]) (Qiw D ty (wC ty q) (va_A (wC ty q σ) sz) (rr, σ)) 0 0 (va_A (wC ty q σ) sz) := by
  refine en_w (Qc := fun A => Qiw D ty (wC ty q) A (rr, σ)) (by decide) (Nat.le_of_ble_eq_true rfl) ?_
  intro p e s m args below meth c A X hlk hr _ H locs hI ls hl
  have X : CallFix p m c cX3_kindAt 5 s args tb RX3 := X
  have hl : lv_has ls 5 [(0, .ref (q 2)), (1, .int x1), (2, .int x2)] := hl
  unfold f_X3_kindAt at hF
  refine lv_aload_n X.1 X.2.1 dX3_kindAt_0 rfl (lv_at hl 0 rfl) ?_
  refine g_X3_disk X hI dX3_kindAt_1 ?_
  refine lv_iload_n X.1 X.2.1 dX3_kindAt_4 rfl (lv_at hl 1 rfl) ?_
  obtain ⟨u1, h2, hF⟩ := fb_bnd hF
  refine cl_i (w := wC ty q) (σ := σ) (rest := []) X (fxC q) hI (m_X0_lengthOf l D ty q σ _ x1 h2) ok_X0_lengthOf ml_X3_135 ⟨rfl, rfl, Nat.le_of_ble_eq_true rfl, Nat.le_of_ble_eq_true rfl⟩ 1 rc_X0 rfl rfl hl.1 rfl (Nat.le_of_ble_eq_true rfl) ⟨Nat.le_of_ble_eq_true rfl, Nat.le_of_ble_eq_true rfl⟩ dX3_kindAt_5 (fun H locs hI => ?_)
  refine lv_istore_n (lv' := [(3, .int u1), (0, .ref (q 2)), (1, .int x1), (2, .int x2)]) X.1 X.2.1 dX3_kindAt_8 rfl hl (by decide) rfl (fun ls hl => ?_)
  refine lv_iload_n X.1 X.2.1 dX3_kindAt_9 rfl (lv_at hl 3 rfl) ?_
  refine lv_if_lt (tgt := 18) X.1 X.2.1 dX3_kindAt_10 (by decide) (fun c3 => ?_) (fun c3 => ?_)
  · replace hF := fb_pos c3 hF
    refine lv_iconst (v := (-1)) X.1 X.2.1 dX3_kindAt_18 (by decide) ?_
    exact rt_i X hlk hr hI (fb_pr hF) dX3_kindAt_19
  · replace hF := fb_neg c3 hF
    refine lv_iload_n X.1 X.2.1 dX3_kindAt_13 rfl (lv_at hl 3 rfl) ?_
    refine lv_iload_n X.1 X.2.1 dX3_kindAt_14 rfl (lv_at hl 0 rfl) ?_
    refine lv_icmp_lt (tgt := 20) X.1 X.2.1 dX3_kindAt_15 (by decide) (fun c4 => ?_) (fun c4 => ?_)
    · replace hF := fb_pos c4 hF
      refine lv_aload_n X.1 X.2.1 dX3_kindAt_20 rfl (lv_at hl 1 rfl) ?_
      refine g_X3_disk X hI dX3_kindAt_21 ?_
      refine lv_iload_n X.1 X.2.1 dX3_kindAt_24 rfl (lv_at hl 2 rfl) ?_
      refine lv_iload_n X.1 X.2.1 dX3_kindAt_25 rfl (lv_at hl 3 rfl) ?_
      obtain ⟨u5, h6, hF⟩ := fb_bnd hF
      refine cl_i (w := wC ty q) (σ := σ) (rest := []) X (fxC q) hI (m_X0_byteAt l D ty q σ _ x1 x2 h6) ok_X0_byteAt ml_X3_99 ⟨rfl, rfl, Nat.le_of_ble_eq_true rfl, Nat.le_of_ble_eq_true rfl⟩ 1 rc_X0 rfl rfl hl.1 rfl (Nat.le_of_ble_eq_true rfl) ⟨Nat.le_of_ble_eq_true rfl, Nat.le_of_ble_eq_true rfl⟩ dX3_kindAt_26 (fun H locs hI => ?_)
      refine lv_istore (lv' := [(4, .int u5), (3, .int u1), (0, .ref (q 2)), (1, .int x1), (2, .int x2)]) X.1 X.2.1 dX3_kindAt_29 hl (by decide) rfl (fun ls hl => ?_)
      refine lv_iload X.1 X.2.1 dX3_kindAt_31 (lv_at hl 0 rfl) ?_
      refine lv_if_lt (tgt := 57) X.1 X.2.1 dX3_kindAt_33 (by decide) (fun c7 => ?_) (fun c7 => ?_)
      · replace hF := fb_pos c7 hF
        refine lv_iconst (v := (-1)) X.1 X.2.1 dX3_kindAt_57 (by decide) ?_
        exact rt_i X hlk hr hI (fb_pr hF) dX3_kindAt_58
      · replace hF := fb_neg c7 hF
        refine lv_iload X.1 X.2.1 dX3_kindAt_36 (lv_at hl 0 rfl) ?_
        refine g_X3_LENGTHS X hI dX3_kindAt_38 ?_
        refine nS_21 X hI dX3_kindAt_41 ?_
        refine lv_icmp_ge (tgt := 57) X.1 X.2.1 dX3_kindAt_42 (by decide) (fun c8 => ?_) (fun c8 => ?_)
        · replace hF := fb_pos c8 hF
          refine lv_iconst (v := (-1)) X.1 X.2.1 dX3_kindAt_57 (by decide) ?_
          exact rt_i X hlk hr hI (fb_pr hF) dX3_kindAt_58
        · replace hF := fb_neg c8 hF
          refine lv_iload_n X.1 X.2.1 dX3_kindAt_45 rfl (lv_at hl 4 rfl) ?_
          refine g_X3_LENGTHS X hI dX3_kindAt_46 ?_
          refine lv_iload X.1 X.2.1 dX3_kindAt_49 (lv_at hl 0 rfl) ?_
          obtain ⟨h9, hF⟩ := fb_chk hF
          refine aS_21 (v := tLen u5.toNatClampNeg) X hI rfl h9 dX3_kindAt_51 ?_
          refine lv_iadd X.1 X.2.1 dX3_kindAt_52 ?_
          refine lv_iload_n X.1 X.2.1 dX3_kindAt_53 rfl (lv_at hl 1 rfl) ?_
          refine lv_icmp_le (tgt := 59) X.1 X.2.1 dX3_kindAt_54 (by decide) (fun c10 => ?_) (fun c10 => ?_)
          · replace hF := fb_pos c10 hF
            refine lv_iload X.1 X.2.1 dX3_kindAt_59 (lv_at hl 0 rfl) ?_
            exact rt_i X hlk hr hI (fb_pr hF) dX3_kindAt_61
          · replace hF := fb_neg c10 hF
            refine lv_iconst (v := (-1)) X.1 X.2.1 dX3_kindAt_57 (by decide) ?_
            exact rt_i X hlk hr hI (fb_pr hF) dX3_kindAt_58
    · replace hF := fb_neg c4 hF
      refine lv_iconst (v := (-1)) X.1 X.2.1 dX3_kindAt_18 (by decide) ?_
      exact rt_i X hlk hr hI (fb_pr hF) dX3_kindAt_19
abbrev rm_X3_push : Room := { frames := 2, cells := 0, slots := 0, locals := 53 }
def f_X3_push (x1 : Int32) (σ : St) : Option (Int32 × St) :=
  (f_X2_hold 4 (-1) σ).bind fun u1 =>
  if u1.1 = 0 then
    some (0, sI u1.2 2 4)
  else
    (f_X1_push x1 u1.2).bind fun u4 =>
    some (1, u4.2)
set_option maxHeartbeats 4000000 in
set_option maxRecDepth 100000 in
theorem m_X3_push (l : Launch) (D : va_G) (ty : Nat → ClassId) (q : Nat → Nat) (σ : St) (sz : Nat) (x1 : Int32) {res : Int32 × St} (hF : f_X3_push x1 σ = some res) : Met l yX3_push (wsy yX3_push cX3_push 2 (some .boolean)) rm_X3_push (Pcw D ty (FxC q) (wC ty q σ) sz [.ref (q 2), .int x1]) (Qiw D ty (wC ty q) (va_A (wC ty q σ) sz) res) 0 0 (va_A (wC ty q σ) sz) := by
  refine en_w (Qc := fun A => Qiw D ty (wC ty q) A res) (by decide) (Nat.le_of_ble_eq_true rfl) ?_
  intro p e s m args below meth c A X hlk hr _ H locs hI ls hl
  have X : CallFix p m c cX3_push 2 s args tb RX3 := X
  have hl : lv_has ls 2 [(0, .ref (q 2)), (1, .int x1)] := hl
  unfold f_X3_push at hF
  refine lv_aload_n X.1 X.2.1 dX3_push_0 rfl (lv_at hl 0 rfl) ?_
  refine g_X3_memory X hI dX3_push_1 ?_
  refine lv_iconst (v := 4) X.1 X.2.1 dX3_push_4 (by decide) ?_
  refine lv_iconst (v := (-1)) X.1 X.2.1 dX3_push_5 (by decide) ?_
  obtain ⟨u1, h2, hF⟩ := fb_bnd hF
  refine cl_i (w := wC ty q) (σ := σ) (rest := []) X (fxC q) hI (m_X2_hold l D ty q σ _ 4 (-1) h2) ok_X2_hold ml_X3_145 ⟨rfl, rfl, Nat.le_of_ble_eq_true rfl, Nat.le_of_ble_eq_true rfl⟩ 3 rc_X2 rfl rfl hl.1 rfl (Nat.le_of_ble_eq_true rfl) ⟨Nat.le_of_ble_eq_true rfl, Nat.le_of_ble_eq_true rfl⟩ dX3_push_6 (fun H locs hI => ?_)
  refine lv_if_ne (tgt := 19) X.1 X.2.1 dX3_push_9 (by decide) (fun c3 => ?_) (fun c3 => ?_)
  · replace hF := fb_neg c3 hF
    refine lv_aload_n X.1 X.2.1 dX3_push_19 rfl (lv_at hl 0 rfl) ?_
    refine g_X3_frames X hI dX3_push_20 ?_
    refine lv_iload_n X.1 X.2.1 dX3_push_23 rfl (lv_at hl 1 rfl) ?_
    obtain ⟨u4, h5, hF⟩ := fb_bnd hF
    refine cl_v (w := wC ty q) (σ := u1.2) (rest := []) X (fxC q) hI (m_X1_push l D ty q u1.2 _ x1 h5) ok_X1_push ml_X3_149 ⟨rfl, rfl, Nat.le_of_ble_eq_true rfl, Nat.le_of_ble_eq_true rfl⟩ 4 rc_X1 rfl rfl hl.1 rfl (Nat.le_of_ble_eq_true rfl) ⟨Nat.le_of_ble_eq_true rfl, Nat.le_of_ble_eq_true rfl⟩ dX3_push_24 (fun H locs hI => ?_)
    refine lv_iconst (v := 1) X.1 X.2.1 dX3_push_27 (by decide) ?_
    exact rt_z X hlk hr hI rfl hF dX3_push_28
  · replace hF := fb_pos c3 hF
    refine lv_aload_n X.1 X.2.1 dX3_push_12 rfl (lv_at hl 0 rfl) ?_
    refine lv_iconst (v := 4) X.1 X.2.1 dX3_push_13 (by decide) ?_
    refine p_X3_status X hI dX3_push_14 (fun H locs hI => ?_)
    refine lv_iconst (v := 0) X.1 X.2.1 dX3_push_17 (by decide) ?_
    exact rt_z X hlk hr hI rfl hF dX3_push_18
abbrev rm_X3_pushAndMove : Room := { frames := 3, cells := 0, slots := 0, locals := 74 }
def f_X3_pushAndMove (x1 x2 : Int32) (σ : St) : Option (Int32 × St) :=
  (f_X3_push x1 σ).bind fun u1 =>
  if u1.1 = 0 then
    some (0, u1.2)
  else
    (f_X1_moveTo x2 u1.2).bind fun u4 =>
    some (0, u4.2)
set_option maxHeartbeats 4000000 in
set_option maxRecDepth 100000 in
theorem m_X3_pushAndMove (l : Launch) (D : va_G) (ty : Nat → ClassId) (q : Nat → Nat) (σ : St) (sz : Nat) (x1 x2 : Int32) {res : Int32 × St} (hF : f_X3_pushAndMove x1 x2 σ = some res) : Met l yX3_pushAndMove (wsy yX3_pushAndMove cX3_pushAndMove 3 none) rm_X3_pushAndMove (Pcw D ty (FxC q) (wC ty q σ) sz [.ref (q 2), .int x1, .int x2]) (Qvw D ty (wC ty q) (va_A (wC ty q σ) sz) res) 0 0 (va_A (wC ty q σ) sz) := by
  refine en_w (Qc := fun A => Qvw D ty (wC ty q) A res) (by decide) (Nat.le_of_ble_eq_true rfl) ?_
  intro p e s m args below meth c A X hlk hr _ H locs hI ls hl
  have X : CallFix p m c cX3_pushAndMove 3 s args tb RX3 := X
  have hl : lv_has ls 3 [(0, .ref (q 2)), (1, .int x1), (2, .int x2)] := hl
  unfold f_X3_pushAndMove at hF
  refine lv_aload_n X.1 X.2.1 dX3_pushAndMove_0 rfl (lv_at hl 0 rfl) ?_
  refine lv_iload_n X.1 X.2.1 dX3_pushAndMove_1 rfl (lv_at hl 1 rfl) ?_
  obtain ⟨u1, h2, hF⟩ := fb_bnd hF
  refine cl_i (w := wC ty q) (σ := σ) (rest := []) X (fxC q) hI (m_X3_push l D ty q σ _ x1 h2) ok_X3_push ml_X3_152 ⟨rfl, rfl, Nat.le_of_ble_eq_true rfl, Nat.le_of_ble_eq_true rfl⟩ 2 rc_X3 rfl rfl hl.1 rfl (Nat.le_of_ble_eq_true rfl) ⟨Nat.le_of_ble_eq_true rfl, Nat.le_of_ble_eq_true rfl⟩ dX3_pushAndMove_2 (fun H locs hI => ?_)
  refine lv_if_eq (tgt := 16) X.1 X.2.1 dX3_pushAndMove_5 (by decide) (fun c3 => ?_) (fun c3 => ?_)
  · replace hF := fb_pos c3 hF
    exact rt_v X hlk hr hI hF dX3_pushAndMove_16
  · replace hF := fb_neg c3 hF
    refine lv_aload_n X.1 X.2.1 dX3_pushAndMove_8 rfl (lv_at hl 0 rfl) ?_
    refine g_X3_frames X hI dX3_pushAndMove_9 ?_
    refine lv_iload_n X.1 X.2.1 dX3_pushAndMove_12 rfl (lv_at hl 2 rfl) ?_
    obtain ⟨u4, h5, hF⟩ := fb_bnd hF
    refine cl_v (w := wC ty q) (σ := u1.2) (rest := []) X (fxC q) hI (m_X1_moveTo l D ty q u1.2 _ x2 h5) ok_X1_moveTo ml_X3_119 ⟨rfl, rfl, Nat.le_of_ble_eq_true rfl, Nat.le_of_ble_eq_true rfl⟩ 4 rc_X1 rfl rfl hl.1 rfl (Nat.le_of_ble_eq_true rfl) ⟨Nat.le_of_ble_eq_true rfl, Nat.le_of_ble_eq_true rfl⟩ dX3_pushAndMove_13 (fun H locs hI => ?_)
    exact rt_v X hlk hr hI hF dX3_pushAndMove_16
abbrev rm_X3_getLocal : Room := { frames := 4, cells := 0, slots := 0, locals := 96 }
def f_X3_getLocal (x1 x2 : Int32) (σ : St) : Option (Int32 × St) :=
  (f_X1_count σ).bind fun u1 =>
  (f_X1_hasLocal (u1 - 1) x1 σ).bind fun u3 =>
  if u3 = 0 then
    some (0, sI σ 2 3)
  else
    (f_X1_localAt (u1 - 1) x1 σ).bind fun u6 =>
    (f_X3_pushAndMove u6 x2 σ).bind fun u8 =>
    some (0, u8.2)
set_option maxHeartbeats 4000000 in
set_option maxRecDepth 100000 in
theorem m_X3_getLocal (l : Launch) (D : va_G) (ty : Nat → ClassId) (q : Nat → Nat) (σ : St) (sz : Nat) (x1 x2 : Int32) {res : Int32 × St} (hF : f_X3_getLocal x1 x2 σ = some res) : Met l yX3_getLocal (wsy yX3_getLocal cX3_getLocal 4 none) rm_X3_getLocal (Pcw D ty (FxC q) (wC ty q σ) sz [.ref (q 2), .int x1, .int x2]) (Qvw D ty (wC ty q) (va_A (wC ty q σ) sz) res) 0 0 (va_A (wC ty q σ) sz) := by
  refine en_w (Qc := fun A => Qvw D ty (wC ty q) A res) (by decide) (Nat.le_of_ble_eq_true rfl) ?_
  intro p e s m args below meth c A X hlk hr _ H locs hI ls hl
  have X : CallFix p m c cX3_getLocal 4 s args tb RX3 := X
  have hl : lv_has ls 4 [(0, .ref (q 2)), (1, .int x1), (2, .int x2)] := hl
  unfold f_X3_getLocal at hF
  refine lv_aload_n X.1 X.2.1 dX3_getLocal_0 rfl (lv_at hl 0 rfl) ?_
  refine g_X3_frames X hI dX3_getLocal_1 ?_
  obtain ⟨u1, h2, hF⟩ := fb_bnd hF
  refine cl_i (w := wC ty q) (σ := σ) (rest := []) X (fxC q) hI (m_X1_count l D ty q σ _  h2) ok_X1_count ml_X3_81 ⟨rfl, rfl, Nat.le_of_ble_eq_true rfl, Nat.le_of_ble_eq_true rfl⟩ 4 rc_X1 rfl rfl hl.1 rfl (Nat.le_of_ble_eq_true rfl) ⟨Nat.le_of_ble_eq_true rfl, Nat.le_of_ble_eq_true rfl⟩ dX3_getLocal_4 (fun H locs hI => ?_)
  refine lv_iconst (v := 1) X.1 X.2.1 dX3_getLocal_7 (by decide) ?_
  refine lv_isub X.1 X.2.1 dX3_getLocal_8 ?_
  refine lv_istore_n (lv' := [(3, .int (u1 - 1)), (0, .ref (q 2)), (1, .int x1), (2, .int x2)]) X.1 X.2.1 dX3_getLocal_9 rfl hl (by decide) rfl (fun ls hl => ?_)
  refine lv_aload_n X.1 X.2.1 dX3_getLocal_10 rfl (lv_at hl 1 rfl) ?_
  refine g_X3_frames X hI dX3_getLocal_11 ?_
  refine lv_iload_n X.1 X.2.1 dX3_getLocal_14 rfl (lv_at hl 0 rfl) ?_
  refine lv_iload_n X.1 X.2.1 dX3_getLocal_15 rfl (lv_at hl 2 rfl) ?_
  obtain ⟨u3, h4, hF⟩ := fb_bnd hF
  refine cl_i (w := wC ty q) (σ := σ) (rest := []) X (fxC q) hI (m_X1_hasLocal l D ty q σ _ (u1 - 1) x1 h4) ok_X1_hasLocal ml_X3_154 ⟨rfl, rfl, Nat.le_of_ble_eq_true rfl, Nat.le_of_ble_eq_true rfl⟩ 4 rc_X1 rfl rfl hl.1 rfl (Nat.le_of_ble_eq_true rfl) ⟨Nat.le_of_ble_eq_true rfl, Nat.le_of_ble_eq_true rfl⟩ dX3_getLocal_16 (fun H locs hI => ?_)
  refine lv_if_ne (tgt := 28) X.1 X.2.1 dX3_getLocal_19 (by decide) (fun c5 => ?_) (fun c5 => ?_)
  · replace hF := fb_neg c5 hF
    refine lv_aload_n X.1 X.2.1 dX3_getLocal_28 rfl (lv_at hl 1 rfl) ?_
    refine lv_aload_n X.1 X.2.1 dX3_getLocal_29 rfl (lv_at hl 1 rfl) ?_
    refine g_X3_frames X hI dX3_getLocal_30 ?_
    refine lv_iload_n X.1 X.2.1 dX3_getLocal_33 rfl (lv_at hl 0 rfl) ?_
    refine lv_iload_n X.1 X.2.1 dX3_getLocal_34 rfl (lv_at hl 2 rfl) ?_
    obtain ⟨u6, h7, hF⟩ := fb_bnd hF
    refine cl_i (w := wC ty q) (σ := σ) (rest := [.ref (q 2)]) X (fxC q) hI (m_X1_localAt l D ty q σ _ (u1 - 1) x1 h7) ok_X1_localAt ml_X3_57 ⟨rfl, rfl, Nat.le_of_ble_eq_true rfl, Nat.le_of_ble_eq_true rfl⟩ 4 rc_X1 rfl rfl hl.1 rfl (Nat.le_of_ble_eq_true rfl) ⟨Nat.le_of_ble_eq_true rfl, Nat.le_of_ble_eq_true rfl⟩ dX3_getLocal_35 (fun H locs hI => ?_)
    refine lv_iload_n X.1 X.2.1 dX3_getLocal_38 rfl (lv_at hl 3 rfl) ?_
    obtain ⟨u8, h9, hF⟩ := fb_bnd hF
    refine cl_v (w := wC ty q) (σ := σ) (rest := []) X (fxC q) hI (m_X3_pushAndMove l D ty q σ _ u6 x2 h9) ok_X3_pushAndMove ml_X3_107 ⟨rfl, rfl, Nat.le_of_ble_eq_true rfl, Nat.le_of_ble_eq_true rfl⟩ 2 rc_X3 rfl rfl hl.1 rfl (Nat.le_of_ble_eq_true rfl) ⟨Nat.le_of_ble_eq_true rfl, Nat.le_of_ble_eq_true rfl⟩ dX3_getLocal_39 (fun H locs hI => ?_)
    exact rt_v X hlk hr hI hF dX3_getLocal_42
  · replace hF := fb_pos c5 hF
    refine lv_aload_n X.1 X.2.1 dX3_getLocal_22 rfl (lv_at hl 1 rfl) ?_
    refine lv_iconst (v := 3) X.1 X.2.1 dX3_getLocal_23 (by decide) ?_
    refine p_X3_status X hI dX3_getLocal_24 (fun H locs hI => ?_)
    exact rt_v X hlk hr hI hF dX3_getLocal_27
abbrev rm_X3_take : Room := { frames := 2, cells := 0, slots := 0, locals := 40 }
def f_X3_take (σ : St) : Option (Int32 × St) :=
  (f_X2_dropNumber σ).bind fun u1 =>
  (f_X1_pop u1.2).bind fun u3 =>
  some (u3.1, u3.2)
set_option maxHeartbeats 4000000 in
set_option maxRecDepth 100000 in
theorem m_X3_take (l : Launch) (D : va_G) (ty : Nat → ClassId) (q : Nat → Nat) (σ : St) (sz : Nat) {res : Int32 × St} (hF : f_X3_take  σ = some res) : Met l yX3_take (wsy yX3_take cX3_take 1 (some .int)) rm_X3_take (Pcw D ty (FxC q) (wC ty q σ) sz [.ref (q 2)]) (Qiw D ty (wC ty q) (va_A (wC ty q σ) sz) res) 0 0 (va_A (wC ty q σ) sz) := by
  refine en_w (Qc := fun A => Qiw D ty (wC ty q) A res) (by decide) (Nat.le_of_ble_eq_true rfl) ?_
  intro p e s m args below meth c A X hlk hr _ H locs hI ls hl
  have X : CallFix p m c cX3_take 1 s args tb RX3 := X
  have hl : lv_has ls 1 [(0, .ref (q 2))] := hl
  unfold f_X3_take at hF
  refine lv_aload_n X.1 X.2.1 dX3_take_0 rfl (lv_at hl 0 rfl) ?_
  refine g_X3_memory X hI dX3_take_1 ?_
  obtain ⟨u1, h2, hF⟩ := fb_bnd hF
  refine cl_v (w := wC ty q) (σ := σ) (rest := []) X (fxC q) hI (m_X2_dropNumber l D ty q σ _  h2) ok_X2_dropNumber ml_X3_139 ⟨rfl, rfl, Nat.le_of_ble_eq_true rfl, Nat.le_of_ble_eq_true rfl⟩ 3 rc_X2 rfl rfl hl.1 rfl (Nat.le_of_ble_eq_true rfl) ⟨Nat.le_of_ble_eq_true rfl, Nat.le_of_ble_eq_true rfl⟩ dX3_take_4 (fun H locs hI => ?_)
  refine lv_aload_n X.1 X.2.1 dX3_take_7 rfl (lv_at hl 0 rfl) ?_
  refine g_X3_frames X hI dX3_take_8 ?_
  obtain ⟨u3, h4, hF⟩ := fb_bnd hF
  refine cl_i (w := wC ty q) (σ := u1.2) (rest := []) X (fxC q) hI (m_X1_pop l D ty q u1.2 _  h4) ok_X1_pop ml_X3_142 ⟨rfl, rfl, Nat.le_of_ble_eq_true rfl, Nat.le_of_ble_eq_true rfl⟩ 4 rc_X1 rfl rfl hl.1 rfl (Nat.le_of_ble_eq_true rfl) ⟨Nat.le_of_ble_eq_true rfl, Nat.le_of_ble_eq_true rfl⟩ dX3_take_11 (fun H locs hI => ?_)
  exact rt_i X hlk hr hI hF dX3_take_14
abbrev rm_X3_setLocal : Room := { frames := 3, cells := 0, slots := 0, locals := 60 }
def f_X3_setLocal (x1 x2 : Int32) (σ : St) : Option (Int32 × St) :=
  (f_X1_count σ).bind fun u1 =>
  (f_X1_hasLocal (u1 - 1) x1 σ).bind fun u3 =>
  if u3 = 0 then
    some (0, sI σ 2 3)
  else
    (f_X3_take σ).bind fun u6 =>
    (f_X1_setLocal (u1 - 1) x1 u6.1 u6.2).bind fun u8 =>
    (f_X1_moveTo x2 u8.2).bind fun u10 =>
    some (0, u10.2)
set_option maxHeartbeats 4000000 in
set_option maxRecDepth 100000 in
theorem m_X3_setLocal (l : Launch) (D : va_G) (ty : Nat → ClassId) (q : Nat → Nat) (σ : St) (sz : Nat) (x1 x2 : Int32) {res : Int32 × St} (hF : f_X3_setLocal x1 x2 σ = some res) : Met l yX3_setLocal (wsy yX3_setLocal cX3_setLocal 4 none) rm_X3_setLocal (Pcw D ty (FxC q) (wC ty q σ) sz [.ref (q 2), .int x1, .int x2]) (Qvw D ty (wC ty q) (va_A (wC ty q σ) sz) res) 0 0 (va_A (wC ty q σ) sz) := by
  refine en_w (Qc := fun A => Qvw D ty (wC ty q) A res) (by decide) (Nat.le_of_ble_eq_true rfl) ?_
  intro p e s m args below meth c A X hlk hr _ H locs hI ls hl
  have X : CallFix p m c cX3_setLocal 4 s args tb RX3 := X
  have hl : lv_has ls 4 [(0, .ref (q 2)), (1, .int x1), (2, .int x2)] := hl
  unfold f_X3_setLocal at hF
  refine lv_aload_n X.1 X.2.1 dX3_setLocal_0 rfl (lv_at hl 0 rfl) ?_
  refine g_X3_frames X hI dX3_setLocal_1 ?_
  obtain ⟨u1, h2, hF⟩ := fb_bnd hF
  refine cl_i (w := wC ty q) (σ := σ) (rest := []) X (fxC q) hI (m_X1_count l D ty q σ _  h2) ok_X1_count ml_X3_81 ⟨rfl, rfl, Nat.le_of_ble_eq_true rfl, Nat.le_of_ble_eq_true rfl⟩ 4 rc_X1 rfl rfl hl.1 rfl (Nat.le_of_ble_eq_true rfl) ⟨Nat.le_of_ble_eq_true rfl, Nat.le_of_ble_eq_true rfl⟩ dX3_setLocal_4 (fun H locs hI => ?_)
  refine lv_iconst (v := 1) X.1 X.2.1 dX3_setLocal_7 (by decide) ?_
  refine lv_isub X.1 X.2.1 dX3_setLocal_8 ?_
  refine lv_istore_n (lv' := [(3, .int (u1 - 1)), (0, .ref (q 2)), (1, .int x1), (2, .int x2)]) X.1 X.2.1 dX3_setLocal_9 rfl hl (by decide) rfl (fun ls hl => ?_)
  refine lv_aload_n X.1 X.2.1 dX3_setLocal_10 rfl (lv_at hl 1 rfl) ?_
  refine g_X3_frames X hI dX3_setLocal_11 ?_
  refine lv_iload_n X.1 X.2.1 dX3_setLocal_14 rfl (lv_at hl 0 rfl) ?_
  refine lv_iload_n X.1 X.2.1 dX3_setLocal_15 rfl (lv_at hl 2 rfl) ?_
  obtain ⟨u3, h4, hF⟩ := fb_bnd hF
  refine cl_i (w := wC ty q) (σ := σ) (rest := []) X (fxC q) hI (m_X1_hasLocal l D ty q σ _ (u1 - 1) x1 h4) ok_X1_hasLocal ml_X3_154 ⟨rfl, rfl, Nat.le_of_ble_eq_true rfl, Nat.le_of_ble_eq_true rfl⟩ 4 rc_X1 rfl rfl hl.1 rfl (Nat.le_of_ble_eq_true rfl) ⟨Nat.le_of_ble_eq_true rfl, Nat.le_of_ble_eq_true rfl⟩ dX3_setLocal_16 (fun H locs hI => ?_)
  refine lv_if_ne (tgt := 28) X.1 X.2.1 dX3_setLocal_19 (by decide) (fun c5 => ?_) (fun c5 => ?_)
  · replace hF := fb_neg c5 hF
    refine lv_aload_n X.1 X.2.1 dX3_setLocal_28 rfl (lv_at hl 1 rfl) ?_
    refine g_X3_frames X hI dX3_setLocal_29 ?_
    refine lv_iload_n X.1 X.2.1 dX3_setLocal_32 rfl (lv_at hl 0 rfl) ?_
    refine lv_iload_n X.1 X.2.1 dX3_setLocal_33 rfl (lv_at hl 2 rfl) ?_
    refine lv_aload_n X.1 X.2.1 dX3_setLocal_34 rfl (lv_at hl 1 rfl) ?_
    obtain ⟨u6, h7, hF⟩ := fb_bnd hF
    refine cl_i (w := wC ty q) (σ := σ) (rest := [.int x1, .int (u1 - 1), .ref (q 4)]) X (fxC q) hI (m_X3_take l D ty q σ _  h7) ok_X3_take ml_X3_116 ⟨rfl, rfl, Nat.le_of_ble_eq_true rfl, Nat.le_of_ble_eq_true rfl⟩ 2 rc_X3 rfl rfl hl.1 rfl (Nat.le_of_ble_eq_true rfl) ⟨Nat.le_of_ble_eq_true rfl, Nat.le_of_ble_eq_true rfl⟩ dX3_setLocal_35 (fun H locs hI => ?_)
    obtain ⟨u8, h9, hF⟩ := fb_bnd hF
    refine cl_v (w := wC ty q) (σ := u6.2) (rest := []) X (fxC q) hI (m_X1_setLocal l D ty q u6.2 _ (u1 - 1) x1 u6.1 h9) ok_X1_setLocal ml_X3_157 ⟨rfl, rfl, Nat.le_of_ble_eq_true rfl, Nat.le_of_ble_eq_true rfl⟩ 4 rc_X1 rfl rfl hl.1 rfl (Nat.le_of_ble_eq_true rfl) ⟨Nat.le_of_ble_eq_true rfl, Nat.le_of_ble_eq_true rfl⟩ dX3_setLocal_38 (fun H locs hI => ?_)
    refine lv_aload_n X.1 X.2.1 dX3_setLocal_41 rfl (lv_at hl 1 rfl) ?_
    refine g_X3_frames X hI dX3_setLocal_42 ?_
    refine lv_iload_n X.1 X.2.1 dX3_setLocal_45 rfl (lv_at hl 3 rfl) ?_
    obtain ⟨u10, h11, hF⟩ := fb_bnd hF
    refine cl_v (w := wC ty q) (σ := u8.2) (rest := []) X (fxC q) hI (m_X1_moveTo l D ty q u8.2 _ x2 h11) ok_X1_moveTo ml_X3_119 ⟨rfl, rfl, Nat.le_of_ble_eq_true rfl, Nat.le_of_ble_eq_true rfl⟩ 4 rc_X1 rfl rfl hl.1 rfl (Nat.le_of_ble_eq_true rfl) ⟨Nat.le_of_ble_eq_true rfl, Nat.le_of_ble_eq_true rfl⟩ dX3_setLocal_46 (fun H locs hI => ?_)
    exact rt_v X hlk hr hI hF dX3_setLocal_49
  · replace hF := fb_pos c5 hF
    refine lv_aload_n X.1 X.2.1 dX3_setLocal_22 rfl (lv_at hl 1 rfl) ?_
    refine lv_iconst (v := 3) X.1 X.2.1 dX3_setLocal_23 (by decide) ?_
    refine p_X3_status X hI dX3_setLocal_24 (fun H locs hI => ?_)
    exact rt_v X hlk hr hI hF dX3_setLocal_27
abbrev rm_X3_callFrom : Room := { frames := 4, cells := 0, slots := 0, locals := 100 }
def f_X3_callFrom (x1 x2 x3 : Int32) (σ : St) : Option (Int32 × St) :=
  (f_X3_take σ).bind fun u1 =>
  (f_X3_enter x2 x3 u1.1 u1.2).bind fun u3 =>
  if u3.1 = 0 then
    some (0, u3.2)
  else
    (f_X1_moveCallerTo x1 u3.2).bind fun u6 =>
    some (0, u6.2)
set_option maxHeartbeats 4000000 in
set_option maxRecDepth 100000 in
theorem m_X3_callFrom (l : Launch) (D : va_G) (ty : Nat → ClassId) (q : Nat → Nat) (σ : St) (sz : Nat) (x1 x2 x3 : Int32) {res : Int32 × St} (hF : f_X3_callFrom x1 x2 x3 σ = some res) : Met l yX3_callFrom (wsy yX3_callFrom cX3_callFrom 4 none) rm_X3_callFrom (Pcw D ty (FxC q) (wC ty q σ) sz [.ref (q 2), .int x1, .int x2, .int x3]) (Qvw D ty (wC ty q) (va_A (wC ty q σ) sz) res) 0 0 (va_A (wC ty q σ) sz) := by
  refine en_w (Qc := fun A => Qvw D ty (wC ty q) A res) (by decide) (Nat.le_of_ble_eq_true rfl) ?_
  intro p e s m args below meth c A X hlk hr _ H locs hI ls hl
  have X : CallFix p m c cX3_callFrom 4 s args tb RX3 := X
  have hl : lv_has ls 4 [(0, .ref (q 2)), (1, .int x1), (2, .int x2), (3, .int x3)] := hl
  unfold f_X3_callFrom at hF
  refine lv_aload_n X.1 X.2.1 dX3_callFrom_0 rfl (lv_at hl 0 rfl) ?_
  refine lv_iload_n X.1 X.2.1 dX3_callFrom_1 rfl (lv_at hl 2 rfl) ?_
  refine lv_iload_n X.1 X.2.1 dX3_callFrom_2 rfl (lv_at hl 3 rfl) ?_
  refine lv_aload_n X.1 X.2.1 dX3_callFrom_3 rfl (lv_at hl 0 rfl) ?_
  obtain ⟨u1, h2, hF⟩ := fb_bnd hF
  refine cl_i (w := wC ty q) (σ := σ) (rest := [.int x3, .int x2, .ref (q 2)]) X (fxC q) hI (m_X3_take l D ty q σ _  h2) ok_X3_take ml_X3_116 ⟨rfl, rfl, Nat.le_of_ble_eq_true rfl, Nat.le_of_ble_eq_true rfl⟩ 2 rc_X3 rfl rfl hl.1 rfl (Nat.le_of_ble_eq_true rfl) ⟨Nat.le_of_ble_eq_true rfl, Nat.le_of_ble_eq_true rfl⟩ dX3_callFrom_4 (fun H locs hI => ?_)
  obtain ⟨u3, h4, hF⟩ := fb_bnd hF
  refine cl_i (w := wC ty q) (σ := u1.2) (rest := []) X (fxC q) hI (m_X3_enter l D ty q u1.2 _ x2 x3 u1.1 h4) ok_X3_enter ml_X3_37 ⟨rfl, rfl, Nat.le_of_ble_eq_true rfl, Nat.le_of_ble_eq_true rfl⟩ 2 rc_X3 rfl rfl hl.1 rfl (Nat.le_of_ble_eq_true rfl) ⟨Nat.le_of_ble_eq_true rfl, Nat.le_of_ble_eq_true rfl⟩ dX3_callFrom_7 (fun H locs hI => ?_)
  refine lv_if_eq (tgt := 21) X.1 X.2.1 dX3_callFrom_10 (by decide) (fun c5 => ?_) (fun c5 => ?_)
  · replace hF := fb_pos c5 hF
    exact rt_v X hlk hr hI hF dX3_callFrom_21
  · replace hF := fb_neg c5 hF
    refine lv_aload_n X.1 X.2.1 dX3_callFrom_13 rfl (lv_at hl 0 rfl) ?_
    refine g_X3_frames X hI dX3_callFrom_14 ?_
    refine lv_iload_n X.1 X.2.1 dX3_callFrom_17 rfl (lv_at hl 1 rfl) ?_
    obtain ⟨u6, h7, hF⟩ := fb_bnd hF
    refine cl_v (w := wC ty q) (σ := u3.2) (rest := []) X (fxC q) hI (m_X1_moveCallerTo l D ty q u3.2 _ x1 h7) ok_X1_moveCallerTo ml_X3_163 ⟨rfl, rfl, Nat.le_of_ble_eq_true rfl, Nat.le_of_ble_eq_true rfl⟩ 4 rc_X1 rfl rfl hl.1 rfl (Nat.le_of_ble_eq_true rfl) ⟨Nat.le_of_ble_eq_true rfl, Nat.le_of_ble_eq_true rfl⟩ dX3_callFrom_18 (fun H locs hI => ?_)
    exact rt_v X hlk hr hI hF dX3_callFrom_21
abbrev rm_X3_giveBack : Room := { frames := 3, cells := 0, slots := 0, locals := 74 }
def f_X3_giveBack (σ : St) : Option (Int32 × St) :=
  (f_X3_take σ).bind fun u1 =>
  (f_X1_count u1.2).bind fun u3 =>
  if u3 = 1 then
    some (0, sI (sI u1.2 1 u1.1) 2 2)
  else
    (f_X1_latestLocals u1.2).bind fun u6 =>
    (f_X3_frameBytes u6 u1.2).bind fun u8 =>
    (f_X1_depth u1.2).bind fun u10 =>
    (f_X1_latestSegment u1.2).bind fun u12 =>
    (f_X2_dropFrame u12 (u8 + (4 * u10)) u1.2).bind fun u14 =>
    (f_X1_close u14.2).bind fun u16 =>
    (f_X3_push u1.1 u16.2).bind fun u18 =>
    some (0, u18.2)
set_option maxHeartbeats 4000000 in
set_option maxRecDepth 100000 in
theorem m_X3_giveBack (l : Launch) (D : va_G) (ty : Nat → ClassId) (q : Nat → Nat) (σ : St) (sz : Nat) {res : Int32 × St} (hF : f_X3_giveBack  σ = some res) : Met l yX3_giveBack (wsy yX3_giveBack cX3_giveBack 3 none) rm_X3_giveBack (Pcw D ty (FxC q) (wC ty q σ) sz [.ref (q 2)]) (Qvw D ty (wC ty q) (va_A (wC ty q σ) sz) res) 0 0 (va_A (wC ty q σ) sz) := by
  refine en_w (Qc := fun A => Qvw D ty (wC ty q) A res) (by decide) (Nat.le_of_ble_eq_true rfl) ?_
  intro p e s m args below meth c A X hlk hr _ H locs hI ls hl
  have X : CallFix p m c cX3_giveBack 3 s args tb RX3 := X
  have hl : lv_has ls 3 [(0, .ref (q 2))] := hl
  unfold f_X3_giveBack at hF
  refine lv_aload_n X.1 X.2.1 dX3_giveBack_0 rfl (lv_at hl 0 rfl) ?_
  obtain ⟨u1, h2, hF⟩ := fb_bnd hF
  refine cl_i (w := wC ty q) (σ := σ) (rest := []) X (fxC q) hI (m_X3_take l D ty q σ _  h2) ok_X3_take ml_X3_116 ⟨rfl, rfl, Nat.le_of_ble_eq_true rfl, Nat.le_of_ble_eq_true rfl⟩ 2 rc_X3 rfl rfl hl.1 rfl (Nat.le_of_ble_eq_true rfl) ⟨Nat.le_of_ble_eq_true rfl, Nat.le_of_ble_eq_true rfl⟩ dX3_giveBack_1 (fun H locs hI => ?_)
  refine lv_istore_n (lv' := [(1, .int u1.1), (0, .ref (q 2))]) X.1 X.2.1 dX3_giveBack_4 rfl hl (by decide) rfl (fun ls hl => ?_)
  refine lv_aload_n X.1 X.2.1 dX3_giveBack_5 rfl (lv_at hl 1 rfl) ?_
  refine g_X3_frames X hI dX3_giveBack_6 ?_
  obtain ⟨u3, h4, hF⟩ := fb_bnd hF
  refine cl_i (w := wC ty q) (σ := u1.2) (rest := []) X (fxC q) hI (m_X1_count l D ty q u1.2 _  h4) ok_X1_count ml_X3_81 ⟨rfl, rfl, Nat.le_of_ble_eq_true rfl, Nat.le_of_ble_eq_true rfl⟩ 4 rc_X1 rfl rfl hl.1 rfl (Nat.le_of_ble_eq_true rfl) ⟨Nat.le_of_ble_eq_true rfl, Nat.le_of_ble_eq_true rfl⟩ dX3_giveBack_9 (fun H locs hI => ?_)
  refine lv_iconst (v := 1) X.1 X.2.1 dX3_giveBack_12 (by decide) ?_
  refine lv_icmp_ne (tgt := 27) X.1 X.2.1 dX3_giveBack_13 (by decide) (fun c5 => ?_) (fun c5 => ?_)
  · replace hF := fb_neg c5 hF
    refine lv_aload_n X.1 X.2.1 dX3_giveBack_27 rfl (lv_at hl 1 rfl) ?_
    refine g_X3_frames X hI dX3_giveBack_28 ?_
    obtain ⟨u6, h7, hF⟩ := fb_bnd hF
    refine cl_i (w := wC ty q) (σ := u1.2) (rest := []) X (fxC q) hI (m_X1_latestLocals l D ty q u1.2 _  h7) ok_X1_latestLocals ml_X3_185 ⟨rfl, rfl, Nat.le_of_ble_eq_true rfl, Nat.le_of_ble_eq_true rfl⟩ 4 rc_X1 rfl rfl hl.1 rfl (Nat.le_of_ble_eq_true rfl) ⟨Nat.le_of_ble_eq_true rfl, Nat.le_of_ble_eq_true rfl⟩ dX3_giveBack_31 (fun H locs hI => ?_)
    obtain ⟨u8, h9, hF⟩ := fb_bnd hF
    refine cs_i (w := wC ty q) (σ := u1.2) (rest := []) X (fxC q) hI (m_X3_frameBytes l D ty q u1.2 _ u6 h9) ok_X3_frameBytes ml_X3_172 ⟨rfl, rfl, Nat.le_of_ble_eq_true rfl, Nat.le_of_ble_eq_true rfl⟩ rfl hl.1 rfl (Nat.le_of_ble_eq_true rfl) ⟨Nat.le_of_ble_eq_true rfl, Nat.le_of_ble_eq_true rfl⟩ dX3_giveBack_34 (fun H locs hI => ?_)
    refine lv_iconst (v := 4) X.1 X.2.1 dX3_giveBack_37 (by decide) ?_
    refine lv_aload_n X.1 X.2.1 dX3_giveBack_38 rfl (lv_at hl 1 rfl) ?_
    refine g_X3_frames X hI dX3_giveBack_39 ?_
    obtain ⟨u10, h11, hF⟩ := fb_bnd hF
    refine cl_i (w := wC ty q) (σ := u1.2) (rest := [.int 4, .int u8]) X (fxC q) hI (m_X1_depth l D ty q u1.2 _  h11) ok_X1_depth ml_X3_90 ⟨rfl, rfl, Nat.le_of_ble_eq_true rfl, Nat.le_of_ble_eq_true rfl⟩ 4 rc_X1 rfl rfl hl.1 rfl (Nat.le_of_ble_eq_true rfl) ⟨Nat.le_of_ble_eq_true rfl, Nat.le_of_ble_eq_true rfl⟩ dX3_giveBack_42 (fun H locs hI => ?_)
    refine lv_imul X.1 X.2.1 dX3_giveBack_45 ?_
    refine lv_iadd X.1 X.2.1 dX3_giveBack_46 ?_
    refine lv_istore_n (lv' := [(2, .int (u8 + (4 * u10))), (1, .int u1.1), (0, .ref (q 2))]) X.1 X.2.1 dX3_giveBack_47 rfl hl (by decide) rfl (fun ls hl => ?_)
    refine lv_aload_n X.1 X.2.1 dX3_giveBack_48 rfl (lv_at hl 2 rfl) ?_
    refine g_X3_memory X hI dX3_giveBack_49 ?_
    refine lv_aload_n X.1 X.2.1 dX3_giveBack_52 rfl (lv_at hl 2 rfl) ?_
    refine g_X3_frames X hI dX3_giveBack_53 ?_
    obtain ⟨u12, h13, hF⟩ := fb_bnd hF
    refine cl_i (w := wC ty q) (σ := u1.2) (rest := [.ref (q 3)]) X (fxC q) hI (m_X1_latestSegment l D ty q u1.2 _  h13) ok_X1_latestSegment ml_X3_84 ⟨rfl, rfl, Nat.le_of_ble_eq_true rfl, Nat.le_of_ble_eq_true rfl⟩ 4 rc_X1 rfl rfl hl.1 rfl (Nat.le_of_ble_eq_true rfl) ⟨Nat.le_of_ble_eq_true rfl, Nat.le_of_ble_eq_true rfl⟩ dX3_giveBack_56 (fun H locs hI => ?_)
    refine lv_iload_n X.1 X.2.1 dX3_giveBack_59 rfl (lv_at hl 0 rfl) ?_
    obtain ⟨u14, h15, hF⟩ := fb_bnd hF
    refine cl_v (w := wC ty q) (σ := u1.2) (rest := []) X (fxC q) hI (m_X2_dropFrame l D ty q u1.2 _ u12 (u8 + (4 * u10)) h15) ok_X2_dropFrame ml_X3_188 ⟨rfl, rfl, Nat.le_of_ble_eq_true rfl, Nat.le_of_ble_eq_true rfl⟩ 3 rc_X2 rfl rfl hl.1 rfl (Nat.le_of_ble_eq_true rfl) ⟨Nat.le_of_ble_eq_true rfl, Nat.le_of_ble_eq_true rfl⟩ dX3_giveBack_60 (fun H locs hI => ?_)
    refine lv_aload_n X.1 X.2.1 dX3_giveBack_63 rfl (lv_at hl 2 rfl) ?_
    refine g_X3_frames X hI dX3_giveBack_64 ?_
    obtain ⟨u16, h17, hF⟩ := fb_bnd hF
    refine cl_v (w := wC ty q) (σ := u14.2) (rest := []) X (fxC q) hI (m_X1_close l D ty q u14.2 _  h17) ok_X1_close ml_X3_191 ⟨rfl, rfl, Nat.le_of_ble_eq_true rfl, Nat.le_of_ble_eq_true rfl⟩ 4 rc_X1 rfl rfl hl.1 rfl (Nat.le_of_ble_eq_true rfl) ⟨Nat.le_of_ble_eq_true rfl, Nat.le_of_ble_eq_true rfl⟩ dX3_giveBack_67 (fun H locs hI => ?_)
    refine lv_aload_n X.1 X.2.1 dX3_giveBack_70 rfl (lv_at hl 2 rfl) ?_
    refine lv_iload_n X.1 X.2.1 dX3_giveBack_71 rfl (lv_at hl 1 rfl) ?_
    obtain ⟨u18, h19, hF⟩ := fb_bnd hF
    refine cl_i (w := wC ty q) (σ := u16.2) (rest := []) X (fxC q) hI (m_X3_push l D ty q u16.2 _ u1.1 h19) ok_X3_push ml_X3_152 ⟨rfl, rfl, Nat.le_of_ble_eq_true rfl, Nat.le_of_ble_eq_true rfl⟩ 2 rc_X3 rfl rfl hl.1 rfl (Nat.le_of_ble_eq_true rfl) ⟨Nat.le_of_ble_eq_true rfl, Nat.le_of_ble_eq_true rfl⟩ dX3_giveBack_72 (fun H locs hI => ?_)
    refine lv_pop X.1 X.2.1 dX3_giveBack_75 rfl ?_
    exact rt_v X hlk hr hI hF dX3_giveBack_76
  · replace hF := fb_pos c5 hF
    refine lv_aload_n X.1 X.2.1 dX3_giveBack_16 rfl (lv_at hl 1 rfl) ?_
    refine lv_iload_n X.1 X.2.1 dX3_giveBack_17 rfl (lv_at hl 0 rfl) ?_
    refine p_X3_result X hI dX3_giveBack_18 (fun H locs hI => ?_)
    refine lv_aload_n X.1 X.2.1 dX3_giveBack_21 rfl (lv_at hl 1 rfl) ?_
    refine lv_iconst (v := 2) X.1 X.2.1 dX3_giveBack_22 (by decide) ?_
    refine p_X3_status X hI dX3_giveBack_23 (fun H locs hI => ?_)
    exact rt_v X hlk hr hI hF dX3_giveBack_26
abbrev rm_X3_putOut : Room := { frames := 3, cells := 0, slots := 0, locals := 60 }
def f_X3_putOut (x1 : Int32) (σ : St) : Option (Int32 × St) :=
  if (gI σ 0) < 40 then
    (f_X3_take σ).bind fun u2 =>
    if inB (gI σ 0) 40 = true then
      (f_X1_moveTo x1 (sI (sA u2.2 1 (gI σ 0) u2.1) 0 ((gI u2.2 0) + 1))).bind fun u5 =>
      some (0, u5.2)
    else none
  else
    some (0, sI σ 2 3)
set_option maxHeartbeats 4000000 in
set_option maxRecDepth 100000 in
theorem m_X3_putOut (l : Launch) (D : va_G) (ty : Nat → ClassId) (q : Nat → Nat) (σ : St) (sz : Nat) (x1 : Int32) {res : Int32 × St} (hF : f_X3_putOut x1 σ = some res) : Met l yX3_putOut (wsy yX3_putOut cX3_putOut 2 none) rm_X3_putOut (Pcw D ty (FxC q) (wC ty q σ) sz [.ref (q 2), .int x1]) (Qvw D ty (wC ty q) (va_A (wC ty q σ) sz) res) 0 0 (va_A (wC ty q σ) sz) := by
  refine en_w (Qc := fun A => Qvw D ty (wC ty q) A res) (by decide) (Nat.le_of_ble_eq_true rfl) ?_
  intro p e s m args below meth c A X hlk hr _ H locs hI ls hl
  have X : CallFix p m c cX3_putOut 2 s args tb RX3 := X
  have hl : lv_has ls 2 [(0, .ref (q 2)), (1, .int x1)] := hl
  unfold f_X3_putOut at hF
  refine lv_aload_n X.1 X.2.1 dX3_putOut_0 rfl (lv_at hl 0 rfl) ?_
  refine g_X3_outCount (v := gI σ 0) X hI rfl dX3_putOut_1 ?_
  refine lv_bipush (v := 40) X.1 X.2.1 dX3_putOut_4 (by decide) ?_
  refine lv_icmp_lt (tgt := 15) X.1 X.2.1 dX3_putOut_6 (by decide) (fun c1 => ?_) (fun c1 => ?_)
  · replace hF := fb_pos c1 hF
    refine lv_aload_n X.1 X.2.1 dX3_putOut_15 rfl (lv_at hl 0 rfl) ?_
    refine g_X3_outs X hI dX3_putOut_16 ?_
    refine lv_aload_n X.1 X.2.1 dX3_putOut_19 rfl (lv_at hl 0 rfl) ?_
    refine g_X3_outCount (v := gI σ 0) X hI rfl dX3_putOut_20 ?_
    refine lv_aload_n X.1 X.2.1 dX3_putOut_23 rfl (lv_at hl 0 rfl) ?_
    obtain ⟨u2, h3, hF⟩ := fb_bnd hF
    refine cl_i (w := wC ty q) (σ := σ) (rest := [.int (gI σ 0), .ref (q 7)]) X (fxC q) hI (m_X3_take l D ty q σ _  h3) ok_X3_take ml_X3_116 ⟨rfl, rfl, Nat.le_of_ble_eq_true rfl, Nat.le_of_ble_eq_true rfl⟩ 2 rc_X3 rfl rfl hl.1 rfl (Nat.le_of_ble_eq_true rfl) ⟨Nat.le_of_ble_eq_true rfl, Nat.le_of_ble_eq_true rfl⟩ dX3_putOut_24 (fun H locs hI => ?_)
    obtain ⟨h4, hF⟩ := fb_chk hF
    refine sC_1 X hI h4 dX3_putOut_27 (fun H locs hI => ?_)
    refine lv_aload_n X.1 X.2.1 dX3_putOut_28 rfl (lv_at hl 0 rfl) ?_
    refine lv_dup X.1 X.2.1 dX3_putOut_29 rfl ?_
    refine g_X3_outCount (v := gI u2.2 0) X hI rfl dX3_putOut_30 ?_
    refine lv_iconst (v := 1) X.1 X.2.1 dX3_putOut_33 (by decide) ?_
    refine lv_iadd X.1 X.2.1 dX3_putOut_34 ?_
    refine p_X3_outCount X hI dX3_putOut_35 (fun H locs hI => ?_)
    refine lv_aload_n X.1 X.2.1 dX3_putOut_38 rfl (lv_at hl 0 rfl) ?_
    refine g_X3_frames X hI dX3_putOut_39 ?_
    refine lv_iload_n X.1 X.2.1 dX3_putOut_42 rfl (lv_at hl 1 rfl) ?_
    obtain ⟨u5, h6, hF⟩ := fb_bnd hF
    refine cl_v (w := wC ty q) (σ := sI (sA u2.2 1 (gI σ 0) u2.1) 0 ((gI u2.2 0) + 1)) (rest := []) X (fxC q) hI (m_X1_moveTo l D ty q (sI (sA u2.2 1 (gI σ 0) u2.1) 0 ((gI u2.2 0) + 1)) _ x1 h6) ok_X1_moveTo ml_X3_119 ⟨rfl, rfl, Nat.le_of_ble_eq_true rfl, Nat.le_of_ble_eq_true rfl⟩ 4 rc_X1 rfl rfl hl.1 rfl (Nat.le_of_ble_eq_true rfl) ⟨Nat.le_of_ble_eq_true rfl, Nat.le_of_ble_eq_true rfl⟩ dX3_putOut_43 (fun H locs hI => ?_)
    exact rt_v X hlk hr hI hF dX3_putOut_46
  · replace hF := fb_neg c1 hF
    refine lv_aload_n X.1 X.2.1 dX3_putOut_9 rfl (lv_at hl 0 rfl) ?_
    refine lv_iconst (v := 3) X.1 X.2.1 dX3_putOut_10 (by decide) ?_
    refine p_X3_status X hI dX3_putOut_11 (fun H locs hI => ?_)
    exact rt_v X hlk hr hI hF dX3_putOut_14
abbrev rm_X3_valueOf : Room := { frames := 0, cells := 0, slots := 0, locals := 0 }
def f_X3_valueOf (x0 x1 x2 : Int32) (σ : St) : Option Int32 :=
  if x0 = 4 then
    some (x1 + x2)
  else
  if x0 = 5 then
    some (x1 - x2)
  else
  if x0 = 6 then
    if x2 ≤ x1 then
      some 0
    else
      some 1
  else
  if x0 = 7 then
    some (x1 * x2)
  else
  some 0
set_option maxHeartbeats 4000000 in
set_option maxRecDepth 100000 in
theorem m_X3_valueOf (l : Launch) (D : va_G) (ty : Nat → ClassId) (q : Nat → Nat) (σ : St) (sz : Nat) (x0 x1 x2 : Int32) {rr : Int32} (hF : f_X3_valueOf x0 x1 x2 σ = some rr) : Met l yX3_valueOf (wsy yX3_valueOf cX3_valueOf 3 (some .int)) rm_X3_valueOf (Pcw D ty (FxC q) (wC ty q σ) sz [.int x0, .int x1, .int x2]) (Qiw D ty (wC ty q) (va_A (wC ty q σ) sz) (rr, σ)) 0 0 (va_A (wC ty q σ) sz) := by
  refine en_w (Qc := fun A => Qiw D ty (wC ty q) A (rr, σ)) (by decide) (Nat.le_of_ble_eq_true rfl) ?_
  intro p e s m args below meth c A X hlk hr _ H locs hI ls hl
  have X : CallFix p m c cX3_valueOf 3 s args tb RX3 := X
  have hl : lv_has ls 3 [(0, .int x0), (1, .int x1), (2, .int x2)] := hl
  unfold f_X3_valueOf at hF
  refine lv_iload_n X.1 X.2.1 dX3_valueOf_0 rfl (lv_at hl 0 rfl) ?_
  by_cases c1 : x0 = 4
  · replace hF := fb_pos c1 hF
    refine lv_tableIn (tgt := 32) X.1 X.2.1 dX3_valueOf_1 (by rw [c1]; decide) (by rw [c1]; decide) (by rw [c1]; rfl) (by decide) ?_
    refine lv_iload_n X.1 X.2.1 dX3_valueOf_32 rfl (lv_at hl 1 rfl) ?_
    refine lv_iload_n X.1 X.2.1 dX3_valueOf_33 rfl (lv_at hl 2 rfl) ?_
    refine lv_iadd X.1 X.2.1 dX3_valueOf_34 ?_
    exact rt_i X hlk hr hI (fb_pr hF) dX3_valueOf_35
  replace hF := fb_neg c1 hF
  by_cases c2 : x0 = 5
  · replace hF := fb_pos c2 hF
    refine lv_tableIn (tgt := 36) X.1 X.2.1 dX3_valueOf_1 (by rw [c2]; decide) (by rw [c2]; decide) (by rw [c2]; rfl) (by decide) ?_
    refine lv_iload_n X.1 X.2.1 dX3_valueOf_36 rfl (lv_at hl 1 rfl) ?_
    refine lv_iload_n X.1 X.2.1 dX3_valueOf_37 rfl (lv_at hl 2 rfl) ?_
    refine lv_isub X.1 X.2.1 dX3_valueOf_38 ?_
    exact rt_i X hlk hr hI (fb_pr hF) dX3_valueOf_39
  replace hF := fb_neg c2 hF
  by_cases c3 : x0 = 6
  · replace hF := fb_pos c3 hF
    refine lv_tableIn (tgt := 40) X.1 X.2.1 dX3_valueOf_1 (by rw [c3]; decide) (by rw [c3]; decide) (by rw [c3]; rfl) (by decide) ?_
    refine lv_iload_n X.1 X.2.1 dX3_valueOf_40 rfl (lv_at hl 1 rfl) ?_
    refine lv_iload_n X.1 X.2.1 dX3_valueOf_41 rfl (lv_at hl 2 rfl) ?_
    refine lv_icmp_ge (tgt := 49) X.1 X.2.1 dX3_valueOf_42 (by decide) (fun c4 => ?_) (fun c4 => ?_)
    · replace hF := fb_pos c4 hF
      refine lv_iconst (v := 0) X.1 X.2.1 dX3_valueOf_49 (by decide) ?_
      exact rt_i X hlk hr hI (fb_pr hF) dX3_valueOf_50
    · replace hF := fb_neg c4 hF
      refine lv_iconst (v := 1) X.1 X.2.1 dX3_valueOf_45 (by decide) ?_
      refine lv_goto (tgt := 50) X.1 X.2.1 dX3_valueOf_46 (by decide) ?_
      exact rt_i X hlk hr hI (fb_pr hF) dX3_valueOf_50
  replace hF := fb_neg c3 hF
  by_cases c5 : x0 = 7
  · replace hF := fb_pos c5 hF
    refine lv_tableIn (tgt := 51) X.1 X.2.1 dX3_valueOf_1 (by rw [c5]; decide) (by rw [c5]; decide) (by rw [c5]; rfl) (by decide) ?_
    refine lv_iload_n X.1 X.2.1 dX3_valueOf_51 rfl (lv_at hl 1 rfl) ?_
    refine lv_iload_n X.1 X.2.1 dX3_valueOf_52 rfl (lv_at hl 2 rfl) ?_
    refine lv_imul X.1 X.2.1 dX3_valueOf_53 ?_
    exact rt_i X hlk hr hI (fb_pr hF) dX3_valueOf_54
  replace hF := fb_neg c5 hF
  have hDf : W p l e rm_X3_valueOf s m args below meth c H locs 0 0 (MQ below (Qiw D ty (wC ty q) A (rr, σ)) args s 0 0 A) (F0 m 55 ls []) := by
    refine lv_iconst (v := 0) X.1 X.2.1 dX3_valueOf_55 (by decide) ?_
    exact rt_i X hlk hr hI (fb_pr hF) dX3_valueOf_56
  refine lv_tableOut (tgt := 55) X.1 X.2.1 dX3_valueOf_1 ?_ (by decide) hDf
  by_cases g6 : (x0).toInt < 4
  · exact Or.inl g6
  · refine Or.inr ?_
    have n4 : ¬ (x0).toInt = 4 := fun h => c1 (Int32.toInt_inj.mp (h.trans (by decide)))
    have n5 : ¬ (x0).toInt = 5 := fun h => c2 (Int32.toInt_inj.mp (h.trans (by decide)))
    have n6 : ¬ (x0).toInt = 6 := fun h => c3 (Int32.toInt_inj.mp (h.trans (by decide)))
    have n7 : ¬ (x0).toInt = 7 := fun h => c5 (Int32.toInt_inj.mp (h.trans (by decide)))
    omega
abbrev rm_X3_calculate : Room := { frames := 4, cells := 0, slots := 0, locals := 96 }
def f_X3_calculate (x1 x2 : Int32) (σ : St) : Option (Int32 × St) :=
  (f_X3_take σ).bind fun u1 =>
  (f_X3_take u1.2).bind fun u3 =>
  (f_X3_valueOf x1 u3.1 u1.1 u3.2).bind fun u5 =>
  (f_X3_pushAndMove u5 x2 u3.2).bind fun u7 =>
  some (0, u7.2)
set_option maxHeartbeats 4000000 in
set_option maxRecDepth 100000 in
theorem m_X3_calculate (l : Launch) (D : va_G) (ty : Nat → ClassId) (q : Nat → Nat) (σ : St) (sz : Nat) (x1 x2 : Int32) {res : Int32 × St} (hF : f_X3_calculate x1 x2 σ = some res) : Met l yX3_calculate (wsy yX3_calculate cX3_calculate 5 none) rm_X3_calculate (Pcw D ty (FxC q) (wC ty q σ) sz [.ref (q 2), .int x1, .int x2]) (Qvw D ty (wC ty q) (va_A (wC ty q σ) sz) res) 0 0 (va_A (wC ty q σ) sz) := by
  refine en_w (Qc := fun A => Qvw D ty (wC ty q) A res) (by decide) (Nat.le_of_ble_eq_true rfl) ?_
  intro p e s m args below meth c A X hlk hr _ H locs hI ls hl
  have X : CallFix p m c cX3_calculate 5 s args tb RX3 := X
  have hl : lv_has ls 5 [(0, .ref (q 2)), (1, .int x1), (2, .int x2)] := hl
  unfold f_X3_calculate at hF
  refine lv_aload_n X.1 X.2.1 dX3_calculate_0 rfl (lv_at hl 0 rfl) ?_
  obtain ⟨u1, h2, hF⟩ := fb_bnd hF
  refine cl_i (w := wC ty q) (σ := σ) (rest := []) X (fxC q) hI (m_X3_take l D ty q σ _  h2) ok_X3_take ml_X3_116 ⟨rfl, rfl, Nat.le_of_ble_eq_true rfl, Nat.le_of_ble_eq_true rfl⟩ 2 rc_X3 rfl rfl hl.1 rfl (Nat.le_of_ble_eq_true rfl) ⟨Nat.le_of_ble_eq_true rfl, Nat.le_of_ble_eq_true rfl⟩ dX3_calculate_1 (fun H locs hI => ?_)
  refine lv_istore_n (lv' := [(3, .int u1.1), (0, .ref (q 2)), (1, .int x1), (2, .int x2)]) X.1 X.2.1 dX3_calculate_4 rfl hl (by decide) rfl (fun ls hl => ?_)
  refine lv_aload_n X.1 X.2.1 dX3_calculate_5 rfl (lv_at hl 1 rfl) ?_
  obtain ⟨u3, h4, hF⟩ := fb_bnd hF
  refine cl_i (w := wC ty q) (σ := u1.2) (rest := []) X (fxC q) hI (m_X3_take l D ty q u1.2 _  h4) ok_X3_take ml_X3_116 ⟨rfl, rfl, Nat.le_of_ble_eq_true rfl, Nat.le_of_ble_eq_true rfl⟩ 2 rc_X3 rfl rfl hl.1 rfl (Nat.le_of_ble_eq_true rfl) ⟨Nat.le_of_ble_eq_true rfl, Nat.le_of_ble_eq_true rfl⟩ dX3_calculate_6 (fun H locs hI => ?_)
  refine lv_istore (lv' := [(4, .int u3.1), (3, .int u1.1), (0, .ref (q 2)), (1, .int x1), (2, .int x2)]) X.1 X.2.1 dX3_calculate_9 hl (by decide) rfl (fun ls hl => ?_)
  refine lv_aload_n X.1 X.2.1 dX3_calculate_11 rfl (lv_at hl 2 rfl) ?_
  refine lv_iload_n X.1 X.2.1 dX3_calculate_12 rfl (lv_at hl 3 rfl) ?_
  refine lv_iload X.1 X.2.1 dX3_calculate_13 (lv_at hl 0 rfl) ?_
  refine lv_iload_n X.1 X.2.1 dX3_calculate_15 rfl (lv_at hl 1 rfl) ?_
  obtain ⟨u5, h6, hF⟩ := fb_bnd hF
  refine cs_i (w := wC ty q) (σ := u3.2) (rest := [.ref (q 2)]) X (fxC q) hI (m_X3_valueOf l D ty q u3.2 _ x1 u3.1 u1.1 h6) ok_X3_valueOf ml_X3_159 ⟨rfl, rfl, Nat.le_of_ble_eq_true rfl, Nat.le_of_ble_eq_true rfl⟩ rfl hl.1 rfl (Nat.le_of_ble_eq_true rfl) ⟨Nat.le_of_ble_eq_true rfl, Nat.le_of_ble_eq_true rfl⟩ dX3_calculate_16 (fun H locs hI => ?_)
  refine lv_iload_n X.1 X.2.1 dX3_calculate_19 rfl (lv_at hl 4 rfl) ?_
  obtain ⟨u7, h8, hF⟩ := fb_bnd hF
  refine cl_v (w := wC ty q) (σ := u3.2) (rest := []) X (fxC q) hI (m_X3_pushAndMove l D ty q u3.2 _ u5 x2 h8) ok_X3_pushAndMove ml_X3_107 ⟨rfl, rfl, Nat.le_of_ble_eq_true rfl, Nat.le_of_ble_eq_true rfl⟩ 2 rc_X3 rfl rfl hl.1 rfl (Nat.le_of_ble_eq_true rfl) ⟨Nat.le_of_ble_eq_true rfl, Nat.le_of_ble_eq_true rfl⟩ dX3_calculate_20 (fun H locs hI => ?_)
  exact rt_v X hlk hr hI hF dX3_calculate_23
abbrev rm_X3_doInstruction : Room := { frames := 5, cells := 0, slots := 0, locals := 123 }
def f_X3_doInstruction (σ : St) : Option (Int32 × St) :=
  (f_X1_latestSegment σ).bind fun u1 =>
  (f_X1_latestPlace σ).bind fun u3 =>
  (f_X3_kindAt u1 u3 σ).bind fun u5 =>
  if u5 = (-1) then
    some (0, sI σ 2 3)
  else
    (f_X1_depth σ).bind fun u8 =>
    if inB u5 13 = true then
      if (tTak u5.toNatClampNeg) ≤ u8 then
        (f_X0_byteAt u1 (u3 + 1) σ).bind fun u12 =>
        if inB u5 13 = true then
          if u5 = 0 then
            some (0, sI σ 2 2)
          else
          if u5 = 1 then
            (f_X3_pushAndMove u12 (u3 + (tLen u5.toNatClampNeg)) σ).bind fun u17 =>
            some (0, u17.2)
          else
          if u5 = 2 then
            (f_X3_getLocal u12 (u3 + (tLen u5.toNatClampNeg)) σ).bind fun u20 =>
            some (0, u20.2)
          else
          if u5 = 3 then
            (f_X3_setLocal u12 (u3 + (tLen u5.toNatClampNeg)) σ).bind fun u23 =>
            some (0, u23.2)
          else
          if u5 = 8 then
            (f_X3_take σ).bind fun u26 =>
            if u26.1 = 0 then
              (f_X1_moveTo ((u3 + (tLen u5.toNatClampNeg)) + u12) u26.2).bind fun u31 =>
              some (0, u31.2)
            else
              (f_X1_moveTo (u3 + (tLen u5.toNatClampNeg)) u26.2).bind fun u29 =>
              some (0, u29.2)
          else
          if u5 = 9 then
            (f_X1_moveTo ((u3 + (tLen u5.toNatClampNeg)) + u12) σ).bind fun u34 =>
            some (0, u34.2)
          else
          if u5 = 10 then
            (f_X0_byteAt u1 (u3 + 2) σ).bind fun u37 =>
            (f_X3_callFrom (u3 + (tLen u5.toNatClampNeg)) u12 u37 σ).bind fun u39 =>
            some (0, u39.2)
          else
          if u5 = 11 then
            (f_X3_giveBack σ).bind fun u42 =>
            some (0, u42.2)
          else
          if u5 = 12 then
            (f_X3_putOut (u3 + (tLen u5.toNatClampNeg)) σ).bind fun u45 =>
            some (0, u45.2)
          else
          (f_X3_calculate u5 (u3 + (tLen u5.toNatClampNeg)) σ).bind fun u47 =>
          some (0, u47.2)
        else none
      else
        some (0, sI σ 2 3)
    else none
set_option maxHeartbeats 4000000 in
set_option maxRecDepth 100000 in
theorem m_X3_doInstruction (l : Launch) (D : va_G) (ty : Nat → ClassId) (q : Nat → Nat) (σ : St) (sz : Nat) {res : Int32 × St} (hF : f_X3_doInstruction  σ = some res) : Met l yX3_doInstruction (wsy yX3_doInstruction cX3_doInstruction 6 none) rm_X3_doInstruction (Pcw D ty (FxC q) (wC ty q σ) sz [.ref (q 2)]) (Qvw D ty (wC ty q) (va_A (wC ty q σ) sz) res) 0 0 (va_A (wC ty q σ) sz) := by
  refine en_w (Qc := fun A => Qvw D ty (wC ty q) A res) (by decide) (Nat.le_of_ble_eq_true rfl) ?_
  intro p e s m args below meth c A X hlk hr _ H locs hI ls hl
  have X : CallFix p m c cX3_doInstruction 6 s args tb RX3 := X
  have hl : lv_has ls 6 [(0, .ref (q 2))] := hl
  unfold f_X3_doInstruction at hF
  refine lv_aload_n X.1 X.2.1 dX3_doInstruction_0 rfl (lv_at hl 0 rfl) ?_
  refine g_X3_frames X hI dX3_doInstruction_1 ?_
  obtain ⟨u1, h2, hF⟩ := fb_bnd hF
  refine cl_i (w := wC ty q) (σ := σ) (rest := []) X (fxC q) hI (m_X1_latestSegment l D ty q σ _  h2) ok_X1_latestSegment ml_X3_84 ⟨rfl, rfl, Nat.le_of_ble_eq_true rfl, Nat.le_of_ble_eq_true rfl⟩ 4 rc_X1 rfl rfl hl.1 rfl (Nat.le_of_ble_eq_true rfl) ⟨Nat.le_of_ble_eq_true rfl, Nat.le_of_ble_eq_true rfl⟩ dX3_doInstruction_4 (fun H locs hI => ?_)
  refine lv_istore_n (lv' := [(1, .int u1), (0, .ref (q 2))]) X.1 X.2.1 dX3_doInstruction_7 rfl hl (by decide) rfl (fun ls hl => ?_)
  refine lv_aload_n X.1 X.2.1 dX3_doInstruction_8 rfl (lv_at hl 1 rfl) ?_
  refine g_X3_frames X hI dX3_doInstruction_9 ?_
  obtain ⟨u3, h4, hF⟩ := fb_bnd hF
  refine cl_i (w := wC ty q) (σ := σ) (rest := []) X (fxC q) hI (m_X1_latestPlace l D ty q σ _  h4) ok_X1_latestPlace ml_X3_87 ⟨rfl, rfl, Nat.le_of_ble_eq_true rfl, Nat.le_of_ble_eq_true rfl⟩ 4 rc_X1 rfl rfl hl.1 rfl (Nat.le_of_ble_eq_true rfl) ⟨Nat.le_of_ble_eq_true rfl, Nat.le_of_ble_eq_true rfl⟩ dX3_doInstruction_12 (fun H locs hI => ?_)
  refine lv_istore_n (lv' := [(2, .int u3), (1, .int u1), (0, .ref (q 2))]) X.1 X.2.1 dX3_doInstruction_15 rfl hl (by decide) rfl (fun ls hl => ?_)
  refine lv_aload_n X.1 X.2.1 dX3_doInstruction_16 rfl (lv_at hl 2 rfl) ?_
  refine lv_iload_n X.1 X.2.1 dX3_doInstruction_17 rfl (lv_at hl 1 rfl) ?_
  refine lv_iload_n X.1 X.2.1 dX3_doInstruction_18 rfl (lv_at hl 0 rfl) ?_
  obtain ⟨u5, h6, hF⟩ := fb_bnd hF
  refine cl_i (w := wC ty q) (σ := σ) (rest := []) X (fxC q) hI (m_X3_kindAt l D ty q σ _ u1 u3 h6) ok_X3_kindAt ml_X3_93 ⟨rfl, rfl, Nat.le_of_ble_eq_true rfl, Nat.le_of_ble_eq_true rfl⟩ 2 rc_X3 rfl rfl hl.1 rfl (Nat.le_of_ble_eq_true rfl) ⟨Nat.le_of_ble_eq_true rfl, Nat.le_of_ble_eq_true rfl⟩ dX3_doInstruction_19 (fun H locs hI => ?_)
  refine lv_istore_n (lv' := [(3, .int u5), (2, .int u3), (1, .int u1), (0, .ref (q 2))]) X.1 X.2.1 dX3_doInstruction_22 rfl hl (by decide) rfl (fun ls hl => ?_)
  refine lv_iload_n X.1 X.2.1 dX3_doInstruction_23 rfl (lv_at hl 0 rfl) ?_
  refine lv_iconst (v := (-1)) X.1 X.2.1 dX3_doInstruction_24 (by decide) ?_
  refine lv_icmp_eq (tgt := 43) X.1 X.2.1 dX3_doInstruction_25 (by decide) (fun c7 => ?_) (fun c7 => ?_)
  · replace hF := fb_pos c7 hF
    refine lv_aload_n X.1 X.2.1 dX3_doInstruction_43 rfl (lv_at hl 3 rfl) ?_
    refine lv_iconst (v := 3) X.1 X.2.1 dX3_doInstruction_44 (by decide) ?_
    refine p_X3_status X hI dX3_doInstruction_45 (fun H locs hI => ?_)
    exact rt_v X hlk hr hI hF dX3_doInstruction_48
  · replace hF := fb_neg c7 hF
    refine lv_aload_n X.1 X.2.1 dX3_doInstruction_28 rfl (lv_at hl 3 rfl) ?_
    refine g_X3_frames X hI dX3_doInstruction_29 ?_
    obtain ⟨u8, h9, hF⟩ := fb_bnd hF
    refine cl_i (w := wC ty q) (σ := σ) (rest := []) X (fxC q) hI (m_X1_depth l D ty q σ _  h9) ok_X1_depth ml_X3_90 ⟨rfl, rfl, Nat.le_of_ble_eq_true rfl, Nat.le_of_ble_eq_true rfl⟩ 4 rc_X1 rfl rfl hl.1 rfl (Nat.le_of_ble_eq_true rfl) ⟨Nat.le_of_ble_eq_true rfl, Nat.le_of_ble_eq_true rfl⟩ dX3_doInstruction_32 (fun H locs hI => ?_)
    refine g_X3_TAKES X hI dX3_doInstruction_35 ?_
    refine lv_iload_n X.1 X.2.1 dX3_doInstruction_38 rfl (lv_at hl 0 rfl) ?_
    obtain ⟨h10, hF⟩ := fb_chk hF
    refine aS_22 (v := tTak u5.toNatClampNeg) X hI rfl h10 dX3_doInstruction_39 ?_
    refine lv_icmp_ge (tgt := 49) X.1 X.2.1 dX3_doInstruction_40 (by decide) (fun c11 => ?_) (fun c11 => ?_)
    · replace hF := fb_pos c11 hF
      refine lv_aload_n X.1 X.2.1 dX3_doInstruction_49 rfl (lv_at hl 3 rfl) ?_
      refine g_X3_disk X hI dX3_doInstruction_50 ?_
      refine lv_iload_n X.1 X.2.1 dX3_doInstruction_53 rfl (lv_at hl 2 rfl) ?_
      refine lv_iload_n X.1 X.2.1 dX3_doInstruction_54 rfl (lv_at hl 1 rfl) ?_
      refine lv_iconst (v := 1) X.1 X.2.1 dX3_doInstruction_55 (by decide) ?_
      refine lv_iadd X.1 X.2.1 dX3_doInstruction_56 ?_
      obtain ⟨u12, h13, hF⟩ := fb_bnd hF
      refine cl_i (w := wC ty q) (σ := σ) (rest := []) X (fxC q) hI (m_X0_byteAt l D ty q σ _ u1 (u3 + 1) h13) ok_X0_byteAt ml_X3_99 ⟨rfl, rfl, Nat.le_of_ble_eq_true rfl, Nat.le_of_ble_eq_true rfl⟩ 1 rc_X0 rfl rfl hl.1 rfl (Nat.le_of_ble_eq_true rfl) ⟨Nat.le_of_ble_eq_true rfl, Nat.le_of_ble_eq_true rfl⟩ dX3_doInstruction_57 (fun H locs hI => ?_)
      refine lv_istore (lv' := [(4, .int u12), (3, .int u5), (2, .int u3), (1, .int u1), (0, .ref (q 2))]) X.1 X.2.1 dX3_doInstruction_60 hl (by decide) rfl (fun ls hl => ?_)
      refine lv_iload_n X.1 X.2.1 dX3_doInstruction_62 rfl (lv_at hl 2 rfl) ?_
      refine g_X3_LENGTHS X hI dX3_doInstruction_63 ?_
      refine lv_iload_n X.1 X.2.1 dX3_doInstruction_66 rfl (lv_at hl 1 rfl) ?_
      obtain ⟨h14, hF⟩ := fb_chk hF
      refine aS_21 (v := tLen u5.toNatClampNeg) X hI rfl h14 dX3_doInstruction_67 ?_
      refine lv_iadd X.1 X.2.1 dX3_doInstruction_68 ?_
      refine lv_istore (lv' := [(5, .int (u3 + (tLen u5.toNatClampNeg))), (4, .int u12), (3, .int u5), (2, .int u3), (1, .int u1), (0, .ref (q 2))]) X.1 X.2.1 dX3_doInstruction_69 hl (by decide) rfl (fun ls hl => ?_)
      refine lv_iload_n X.1 X.2.1 dX3_doInstruction_71 rfl (lv_at hl 2 rfl) ?_
      by_cases c15 : u5 = 0
      · replace hF := fb_pos c15 hF
        refine lv_tableIn (tgt := 140) X.1 X.2.1 dX3_doInstruction_72 (by rw [c15]; decide) (by rw [c15]; decide) (by rw [c15]; rfl) (by decide) ?_
        refine lv_aload_n X.1 X.2.1 dX3_doInstruction_140 rfl (lv_at hl 5 rfl) ?_
        refine lv_iconst (v := 2) X.1 X.2.1 dX3_doInstruction_141 (by decide) ?_
        refine p_X3_status X hI dX3_doInstruction_142 (fun H locs hI => ?_)
        refine lv_goto (tgt := 268) X.1 X.2.1 dX3_doInstruction_145 (by decide) ?_
        exact rt_v X hlk hr hI hF dX3_doInstruction_268
      replace hF := fb_neg c15 hF
      by_cases c16 : u5 = 1
      · replace hF := fb_pos c16 hF
        refine lv_tableIn (tgt := 148) X.1 X.2.1 dX3_doInstruction_72 (by rw [c16]; decide) (by rw [c16]; decide) (by rw [c16]; rfl) (by decide) ?_
        refine lv_aload_n X.1 X.2.1 dX3_doInstruction_148 rfl (lv_at hl 5 rfl) ?_
        refine lv_iload X.1 X.2.1 dX3_doInstruction_149 (lv_at hl 1 rfl) ?_
        refine lv_iload X.1 X.2.1 dX3_doInstruction_151 (lv_at hl 0 rfl) ?_
        obtain ⟨u17, h18, hF⟩ := fb_bnd hF
        refine cl_v (w := wC ty q) (σ := σ) (rest := []) X (fxC q) hI (m_X3_pushAndMove l D ty q σ _ u12 (u3 + (tLen u5.toNatClampNeg)) h18) ok_X3_pushAndMove ml_X3_107 ⟨rfl, rfl, Nat.le_of_ble_eq_true rfl, Nat.le_of_ble_eq_true rfl⟩ 2 rc_X3 rfl rfl hl.1 rfl (Nat.le_of_ble_eq_true rfl) ⟨Nat.le_of_ble_eq_true rfl, Nat.le_of_ble_eq_true rfl⟩ dX3_doInstruction_153 (fun H locs hI => ?_)
        refine lv_goto (tgt := 268) X.1 X.2.1 dX3_doInstruction_156 (by decide) ?_
        exact rt_v X hlk hr hI hF dX3_doInstruction_268
      replace hF := fb_neg c16 hF
      by_cases c19 : u5 = 2
      · replace hF := fb_pos c19 hF
        refine lv_tableIn (tgt := 159) X.1 X.2.1 dX3_doInstruction_72 (by rw [c19]; decide) (by rw [c19]; decide) (by rw [c19]; rfl) (by decide) ?_
        refine lv_aload_n X.1 X.2.1 dX3_doInstruction_159 rfl (lv_at hl 5 rfl) ?_
        refine lv_iload X.1 X.2.1 dX3_doInstruction_160 (lv_at hl 1 rfl) ?_
        refine lv_iload X.1 X.2.1 dX3_doInstruction_162 (lv_at hl 0 rfl) ?_
        obtain ⟨u20, h21, hF⟩ := fb_bnd hF
        refine cl_v (w := wC ty q) (σ := σ) (rest := []) X (fxC q) hI (m_X3_getLocal l D ty q σ _ u12 (u3 + (tLen u5.toNatClampNeg)) h21) ok_X3_getLocal ml_X3_110 ⟨rfl, rfl, Nat.le_of_ble_eq_true rfl, Nat.le_of_ble_eq_true rfl⟩ 2 rc_X3 rfl rfl hl.1 rfl (Nat.le_of_ble_eq_true rfl) ⟨Nat.le_of_ble_eq_true rfl, Nat.le_of_ble_eq_true rfl⟩ dX3_doInstruction_164 (fun H locs hI => ?_)
        refine lv_goto (tgt := 268) X.1 X.2.1 dX3_doInstruction_167 (by decide) ?_
        exact rt_v X hlk hr hI hF dX3_doInstruction_268
      replace hF := fb_neg c19 hF
      by_cases c22 : u5 = 3
      · replace hF := fb_pos c22 hF
        refine lv_tableIn (tgt := 170) X.1 X.2.1 dX3_doInstruction_72 (by rw [c22]; decide) (by rw [c22]; decide) (by rw [c22]; rfl) (by decide) ?_
        refine lv_aload_n X.1 X.2.1 dX3_doInstruction_170 rfl (lv_at hl 5 rfl) ?_
        refine lv_iload X.1 X.2.1 dX3_doInstruction_171 (lv_at hl 1 rfl) ?_
        refine lv_iload X.1 X.2.1 dX3_doInstruction_173 (lv_at hl 0 rfl) ?_
        obtain ⟨u23, h24, hF⟩ := fb_bnd hF
        refine cl_v (w := wC ty q) (σ := σ) (rest := []) X (fxC q) hI (m_X3_setLocal l D ty q σ _ u12 (u3 + (tLen u5.toNatClampNeg)) h24) ok_X3_setLocal ml_X3_113 ⟨rfl, rfl, Nat.le_of_ble_eq_true rfl, Nat.le_of_ble_eq_true rfl⟩ 2 rc_X3 rfl rfl hl.1 rfl (Nat.le_of_ble_eq_true rfl) ⟨Nat.le_of_ble_eq_true rfl, Nat.le_of_ble_eq_true rfl⟩ dX3_doInstruction_175 (fun H locs hI => ?_)
        refine lv_goto (tgt := 268) X.1 X.2.1 dX3_doInstruction_178 (by decide) ?_
        exact rt_v X hlk hr hI hF dX3_doInstruction_268
      replace hF := fb_neg c22 hF
      by_cases c25 : u5 = 8
      · replace hF := fb_pos c25 hF
        refine lv_tableIn (tgt := 181) X.1 X.2.1 dX3_doInstruction_72 (by rw [c25]; decide) (by rw [c25]; decide) (by rw [c25]; rfl) (by decide) ?_
        refine lv_aload_n X.1 X.2.1 dX3_doInstruction_181 rfl (lv_at hl 5 rfl) ?_
        refine g_X3_frames X hI dX3_doInstruction_182 ?_
        refine lv_aload_n X.1 X.2.1 dX3_doInstruction_185 rfl (lv_at hl 5 rfl) ?_
        obtain ⟨u26, h27, hF⟩ := fb_bnd hF
        refine cl_i (w := wC ty q) (σ := σ) (rest := [.ref (q 4)]) X (fxC q) hI (m_X3_take l D ty q σ _  h27) ok_X3_take ml_X3_116 ⟨rfl, rfl, Nat.le_of_ble_eq_true rfl, Nat.le_of_ble_eq_true rfl⟩ 2 rc_X3 rfl rfl hl.1 rfl (Nat.le_of_ble_eq_true rfl) ⟨Nat.le_of_ble_eq_true rfl, Nat.le_of_ble_eq_true rfl⟩ dX3_doInstruction_186 (fun H locs hI => ?_)
        refine lv_if_ne (tgt := 200) X.1 X.2.1 dX3_doInstruction_189 (by decide) (fun c28 => ?_) (fun c28 => ?_)
        · replace hF := fb_neg c28 hF
          refine lv_iload X.1 X.2.1 dX3_doInstruction_200 (lv_at hl 0 rfl) ?_
          obtain ⟨u29, h30, hF⟩ := fb_bnd hF
          refine cl_v (w := wC ty q) (σ := u26.2) (rest := []) X (fxC q) hI (m_X1_moveTo l D ty q u26.2 _ (u3 + (tLen u5.toNatClampNeg)) h30) ok_X1_moveTo ml_X3_119 ⟨rfl, rfl, Nat.le_of_ble_eq_true rfl, Nat.le_of_ble_eq_true rfl⟩ 4 rc_X1 rfl rfl hl.1 rfl (Nat.le_of_ble_eq_true rfl) ⟨Nat.le_of_ble_eq_true rfl, Nat.le_of_ble_eq_true rfl⟩ dX3_doInstruction_202 (fun H locs hI => ?_)
          refine lv_goto (tgt := 268) X.1 X.2.1 dX3_doInstruction_205 (by decide) ?_
          exact rt_v X hlk hr hI hF dX3_doInstruction_268
        · replace hF := fb_pos c28 hF
          refine lv_iload X.1 X.2.1 dX3_doInstruction_192 (lv_at hl 0 rfl) ?_
          refine lv_iload X.1 X.2.1 dX3_doInstruction_194 (lv_at hl 1 rfl) ?_
          refine lv_iadd X.1 X.2.1 dX3_doInstruction_196 ?_
          refine lv_goto (tgt := 202) X.1 X.2.1 dX3_doInstruction_197 (by decide) ?_
          obtain ⟨u31, h32, hF⟩ := fb_bnd hF
          refine cl_v (w := wC ty q) (σ := u26.2) (rest := []) X (fxC q) hI (m_X1_moveTo l D ty q u26.2 _ ((u3 + (tLen u5.toNatClampNeg)) + u12) h32) ok_X1_moveTo ml_X3_119 ⟨rfl, rfl, Nat.le_of_ble_eq_true rfl, Nat.le_of_ble_eq_true rfl⟩ 4 rc_X1 rfl rfl hl.1 rfl (Nat.le_of_ble_eq_true rfl) ⟨Nat.le_of_ble_eq_true rfl, Nat.le_of_ble_eq_true rfl⟩ dX3_doInstruction_202 (fun H locs hI => ?_)
          refine lv_goto (tgt := 268) X.1 X.2.1 dX3_doInstruction_205 (by decide) ?_
          exact rt_v X hlk hr hI hF dX3_doInstruction_268
      replace hF := fb_neg c25 hF
      by_cases c33 : u5 = 9
      · replace hF := fb_pos c33 hF
        refine lv_tableIn (tgt := 208) X.1 X.2.1 dX3_doInstruction_72 (by rw [c33]; decide) (by rw [c33]; decide) (by rw [c33]; rfl) (by decide) ?_
        refine lv_aload_n X.1 X.2.1 dX3_doInstruction_208 rfl (lv_at hl 5 rfl) ?_
        refine g_X3_frames X hI dX3_doInstruction_209 ?_
        refine lv_iload X.1 X.2.1 dX3_doInstruction_212 (lv_at hl 0 rfl) ?_
        refine lv_iload X.1 X.2.1 dX3_doInstruction_214 (lv_at hl 1 rfl) ?_
        refine lv_iadd X.1 X.2.1 dX3_doInstruction_216 ?_
        obtain ⟨u34, h35, hF⟩ := fb_bnd hF
        refine cl_v (w := wC ty q) (σ := σ) (rest := []) X (fxC q) hI (m_X1_moveTo l D ty q σ _ ((u3 + (tLen u5.toNatClampNeg)) + u12) h35) ok_X1_moveTo ml_X3_119 ⟨rfl, rfl, Nat.le_of_ble_eq_true rfl, Nat.le_of_ble_eq_true rfl⟩ 4 rc_X1 rfl rfl hl.1 rfl (Nat.le_of_ble_eq_true rfl) ⟨Nat.le_of_ble_eq_true rfl, Nat.le_of_ble_eq_true rfl⟩ dX3_doInstruction_217 (fun H locs hI => ?_)
        refine lv_goto (tgt := 268) X.1 X.2.1 dX3_doInstruction_220 (by decide) ?_
        exact rt_v X hlk hr hI hF dX3_doInstruction_268
      replace hF := fb_neg c33 hF
      by_cases c36 : u5 = 10
      · replace hF := fb_pos c36 hF
        refine lv_tableIn (tgt := 223) X.1 X.2.1 dX3_doInstruction_72 (by rw [c36]; decide) (by rw [c36]; decide) (by rw [c36]; rfl) (by decide) ?_
        refine lv_aload_n X.1 X.2.1 dX3_doInstruction_223 rfl (lv_at hl 5 rfl) ?_
        refine lv_iload X.1 X.2.1 dX3_doInstruction_224 (lv_at hl 0 rfl) ?_
        refine lv_iload X.1 X.2.1 dX3_doInstruction_226 (lv_at hl 1 rfl) ?_
        refine lv_aload_n X.1 X.2.1 dX3_doInstruction_228 rfl (lv_at hl 5 rfl) ?_
        refine g_X3_disk X hI dX3_doInstruction_229 ?_
        refine lv_iload_n X.1 X.2.1 dX3_doInstruction_232 rfl (lv_at hl 4 rfl) ?_
        refine lv_iload_n X.1 X.2.1 dX3_doInstruction_233 rfl (lv_at hl 3 rfl) ?_
        refine lv_iconst (v := 2) X.1 X.2.1 dX3_doInstruction_234 (by decide) ?_
        refine lv_iadd X.1 X.2.1 dX3_doInstruction_235 ?_
        obtain ⟨u37, h38, hF⟩ := fb_bnd hF
        refine cl_i (w := wC ty q) (σ := σ) (rest := [.int u12, .int (u3 + (tLen u5.toNatClampNeg)), .ref (q 2)]) X (fxC q) hI (m_X0_byteAt l D ty q σ _ u1 (u3 + 2) h38) ok_X0_byteAt ml_X3_99 ⟨rfl, rfl, Nat.le_of_ble_eq_true rfl, Nat.le_of_ble_eq_true rfl⟩ 1 rc_X0 rfl rfl hl.1 rfl (Nat.le_of_ble_eq_true rfl) ⟨Nat.le_of_ble_eq_true rfl, Nat.le_of_ble_eq_true rfl⟩ dX3_doInstruction_236 (fun H locs hI => ?_)
        obtain ⟨u39, h40, hF⟩ := fb_bnd hF
        refine cl_v (w := wC ty q) (σ := σ) (rest := []) X (fxC q) hI (m_X3_callFrom l D ty q σ _ (u3 + (tLen u5.toNatClampNeg)) u12 u37 h40) ok_X3_callFrom ml_X3_122 ⟨rfl, rfl, Nat.le_of_ble_eq_true rfl, Nat.le_of_ble_eq_true rfl⟩ 2 rc_X3 rfl rfl hl.1 rfl (Nat.le_of_ble_eq_true rfl) ⟨Nat.le_of_ble_eq_true rfl, Nat.le_of_ble_eq_true rfl⟩ dX3_doInstruction_239 (fun H locs hI => ?_)
        refine lv_goto (tgt := 268) X.1 X.2.1 dX3_doInstruction_242 (by decide) ?_
        exact rt_v X hlk hr hI hF dX3_doInstruction_268
      replace hF := fb_neg c36 hF
      by_cases c41 : u5 = 11
      · replace hF := fb_pos c41 hF
        refine lv_tableIn (tgt := 245) X.1 X.2.1 dX3_doInstruction_72 (by rw [c41]; decide) (by rw [c41]; decide) (by rw [c41]; rfl) (by decide) ?_
        refine lv_aload_n X.1 X.2.1 dX3_doInstruction_245 rfl (lv_at hl 5 rfl) ?_
        obtain ⟨u42, h43, hF⟩ := fb_bnd hF
        refine cl_v (w := wC ty q) (σ := σ) (rest := []) X (fxC q) hI (m_X3_giveBack l D ty q σ _  h43) ok_X3_giveBack ml_X3_126 ⟨rfl, rfl, Nat.le_of_ble_eq_true rfl, Nat.le_of_ble_eq_true rfl⟩ 2 rc_X3 rfl rfl hl.1 rfl (Nat.le_of_ble_eq_true rfl) ⟨Nat.le_of_ble_eq_true rfl, Nat.le_of_ble_eq_true rfl⟩ dX3_doInstruction_246 (fun H locs hI => ?_)
        refine lv_goto (tgt := 268) X.1 X.2.1 dX3_doInstruction_249 (by decide) ?_
        exact rt_v X hlk hr hI hF dX3_doInstruction_268
      replace hF := fb_neg c41 hF
      by_cases c44 : u5 = 12
      · replace hF := fb_pos c44 hF
        refine lv_tableIn (tgt := 252) X.1 X.2.1 dX3_doInstruction_72 (by rw [c44]; decide) (by rw [c44]; decide) (by rw [c44]; rfl) (by decide) ?_
        refine lv_aload_n X.1 X.2.1 dX3_doInstruction_252 rfl (lv_at hl 5 rfl) ?_
        refine lv_iload X.1 X.2.1 dX3_doInstruction_253 (lv_at hl 0 rfl) ?_
        obtain ⟨u45, h46, hF⟩ := fb_bnd hF
        refine cl_v (w := wC ty q) (σ := σ) (rest := []) X (fxC q) hI (m_X3_putOut l D ty q σ _ (u3 + (tLen u5.toNatClampNeg)) h46) ok_X3_putOut ml_X3_129 ⟨rfl, rfl, Nat.le_of_ble_eq_true rfl, Nat.le_of_ble_eq_true rfl⟩ 2 rc_X3 rfl rfl hl.1 rfl (Nat.le_of_ble_eq_true rfl) ⟨Nat.le_of_ble_eq_true rfl, Nat.le_of_ble_eq_true rfl⟩ dX3_doInstruction_255 (fun H locs hI => ?_)
        refine lv_goto (tgt := 268) X.1 X.2.1 dX3_doInstruction_258 (by decide) ?_
        exact rt_v X hlk hr hI hF dX3_doInstruction_268
      replace hF := fb_neg c44 hF
      have hDf : W p l e rm_X3_doInstruction s m args below meth c H locs 0 0 (MQ below (Qvw D ty (wC ty q) A res) args s 0 0 A) (F0 m 261 ls []) := by
        refine lv_aload_n X.1 X.2.1 dX3_doInstruction_261 rfl (lv_at hl 5 rfl) ?_
        refine lv_iload_n X.1 X.2.1 dX3_doInstruction_262 rfl (lv_at hl 2 rfl) ?_
        refine lv_iload X.1 X.2.1 dX3_doInstruction_263 (lv_at hl 0 rfl) ?_
        obtain ⟨u47, h48, hF⟩ := fb_bnd hF
        refine cl_v (w := wC ty q) (σ := σ) (rest := []) X (fxC q) hI (m_X3_calculate l D ty q σ _ u5 (u3 + (tLen u5.toNatClampNeg)) h48) ok_X3_calculate ml_X3_132 ⟨rfl, rfl, Nat.le_of_ble_eq_true rfl, Nat.le_of_ble_eq_true rfl⟩ 2 rc_X3 rfl rfl hl.1 rfl (Nat.le_of_ble_eq_true rfl) ⟨Nat.le_of_ble_eq_true rfl, Nat.le_of_ble_eq_true rfl⟩ dX3_doInstruction_265 (fun H locs hI => ?_)
        exact rt_v X hlk hr hI hF dX3_doInstruction_268
      by_cases c49 : u5 = 4
      · exact lv_tableIn (tgt := 261) X.1 X.2.1 dX3_doInstruction_72 (by rw [c49]; decide) (by rw [c49]; decide) (by rw [c49]; rfl) (by decide) hDf
      by_cases c50 : u5 = 5
      · exact lv_tableIn (tgt := 261) X.1 X.2.1 dX3_doInstruction_72 (by rw [c50]; decide) (by rw [c50]; decide) (by rw [c50]; rfl) (by decide) hDf
      by_cases c51 : u5 = 6
      · exact lv_tableIn (tgt := 261) X.1 X.2.1 dX3_doInstruction_72 (by rw [c51]; decide) (by rw [c51]; decide) (by rw [c51]; rfl) (by decide) hDf
      by_cases c52 : u5 = 7
      · exact lv_tableIn (tgt := 261) X.1 X.2.1 dX3_doInstruction_72 (by rw [c52]; decide) (by rw [c52]; decide) (by rw [c52]; rfl) (by decide) hDf
      refine lv_tableOut (tgt := 261) X.1 X.2.1 dX3_doInstruction_72 ?_ (by decide) hDf
      by_cases g53 : (u5).toInt < 0
      · exact Or.inl g53
      · refine Or.inr ?_
        have n0 : ¬ (u5).toInt = 0 := fun h => c15 (Int32.toInt_inj.mp (h.trans (by decide)))
        have n1 : ¬ (u5).toInt = 1 := fun h => c16 (Int32.toInt_inj.mp (h.trans (by decide)))
        have n2 : ¬ (u5).toInt = 2 := fun h => c19 (Int32.toInt_inj.mp (h.trans (by decide)))
        have n3 : ¬ (u5).toInt = 3 := fun h => c22 (Int32.toInt_inj.mp (h.trans (by decide)))
        have n4 : ¬ (u5).toInt = 4 := fun h => c49 (Int32.toInt_inj.mp (h.trans (by decide)))
        have n5 : ¬ (u5).toInt = 5 := fun h => c50 (Int32.toInt_inj.mp (h.trans (by decide)))
        have n6 : ¬ (u5).toInt = 6 := fun h => c51 (Int32.toInt_inj.mp (h.trans (by decide)))
        have n7 : ¬ (u5).toInt = 7 := fun h => c52 (Int32.toInt_inj.mp (h.trans (by decide)))
        have n8 : ¬ (u5).toInt = 8 := fun h => c25 (Int32.toInt_inj.mp (h.trans (by decide)))
        have n9 : ¬ (u5).toInt = 9 := fun h => c33 (Int32.toInt_inj.mp (h.trans (by decide)))
        have n10 : ¬ (u5).toInt = 10 := fun h => c36 (Int32.toInt_inj.mp (h.trans (by decide)))
        have n11 : ¬ (u5).toInt = 11 := fun h => c41 (Int32.toInt_inj.mp (h.trans (by decide)))
        have n12 : ¬ (u5).toInt = 12 := fun h => c44 (Int32.toInt_inj.mp (h.trans (by decide)))
        omega
    · replace hF := fb_neg c11 hF
      refine lv_aload_n X.1 X.2.1 dX3_doInstruction_43 rfl (lv_at hl 3 rfl) ?_
      refine lv_iconst (v := 3) X.1 X.2.1 dX3_doInstruction_44 (by decide) ?_
      refine p_X3_status X hI dX3_doInstruction_45 (fun H locs hI => ?_)
      exact rt_v X hlk hr hI hF dX3_doInstruction_48
