abbrev rm_X4_requireSegment : Room := { frames := 6, cells := 1, slots := 6, locals := 90 }
def f_X4_requireSegment (x0 : Int32) (σ : St) : Option Rx :=
  (f_X4_isSegment x0 σ).bind fun u1 =>
  if u1 = 0 then
    some ((1, 0), σ)
  else
    some ((0, 0), σ)
set_option maxHeartbeats 4000000 in
set_option maxRecDepth 100000 in
theorem m_X4_requireSegment (l : Launch) (hst : l.stackTraces = false) (D : va_G) (ty : Nat → ClassId) (q : Nat → Nat) (σ : St) (sz : Nat) (x0 : Int32) {res : Rx} (hF : f_X4_requireSegment x0 σ = some res) : vx_Met l yX4_requireSegment (wsy yX4_requireSegment cX4_requireSegment 1 none) rm_X4_requireSegment (Pcw D ty (FxD q) (wC ty q σ) sz [.int x0]) (Qvx D ty (wC ty q) (va_A (wC ty q σ) sz) res) (Xcx D ty (wC ty q) (va_A (wC ty q σ) sz) res) 1 6 (va_A (wC ty q σ) sz) := by
  refine en_x (Qc := fun A => Qvx D ty (wC ty q) A res) (XC := fun A => Xcx D ty (wC ty q) A res) (by decide) (Nat.le_of_ble_eq_true rfl) ?_
  intro p e s m args below meth c A X hlk hr hno H locs hI hG ls hl
  have X : CallFix p m c cX4_requireSegment 1 s args tb RX4 := X
  have hl : lv_has ls 1 [(0, .int x0)] := hl
  unfold f_X4_requireSegment at hF
  refine lv_iload_n X.1 X.2.1 dX4_requireSegment_0 rfl (lv_at hl 0 rfl) ?_
  obtain ⟨u1, h2, hF⟩ := fb_bnd hF
  refine cs_i (w := wC ty q) (σ := σ) (rest := []) X (fxC q) hI (m_X4_isSegment l D ty q σ _ x0 h2) ok_X4_isSegment ml_X4_98 ⟨rfl, rfl, Nat.le_of_ble_eq_true rfl, Nat.le_of_ble_eq_true rfl⟩ rfl hl.1 rfl (Nat.le_of_ble_eq_true rfl) ⟨Nat.le_of_ble_eq_true rfl, Nat.le_of_ble_eq_true rfl⟩ dX4_requireSegment_1 (fun H locs hI => ?_)
  refine lv_if_ne (tgt := 17) X.1 X.2.1 dX4_requireSegment_4 (by decide) (fun c3 => ?_) (fun c3 => ?_)
  · replace hF := fb_neg c3 hF
    exact rx_v X hlk hr hI hF dX4_requireSegment_17 (Nat.le_of_ble_eq_true rfl) (Nat.le_of_ble_eq_true rfl)
  · replace hF := fb_pos c3 hF
    exact th_x X hlk hno hst hI hG 1 (by decide) tho_1_57_53 (tx := "no such segment") (by decide +kernel) hl.1 dX4_requireSegment_7 dX4_requireSegment_10 dX4_requireSegment_11 dX4_requireSegment_13 dX4_requireSegment_16 (Nat.le_of_ble_eq_true rfl) (Nat.le_of_ble_eq_true rfl) (Nat.le_of_ble_eq_true rfl) (Nat.le_of_ble_eq_true rfl) hF (Nat.le_of_ble_eq_true rfl) (Nat.le_of_ble_eq_true rfl)
abbrev rm_X4_code : Room := { frames := 7, cells := 2, slots := 12, locals := 110 }
def f_X4_code (x1 x2 : Int32) (σ : St) : Option Rx :=
  (f_X4_requireSegment x1 σ).bind fun u1 => if u1.1.1 = 0 then
    (f_X0_lengthOf x1 u1.2).bind fun u3 =>
    if u3 < 80 then
      (f_X3_forget u1.2).bind fun u6 =>
      (f_X0_append x1 x2 u6.2).bind fun u8 =>
      (f_X0_lengthOf x1 u8.2).bind fun u10 =>
      some ((0, u10), u8.2)
    else
      some ((3, 0), u1.2)
  else some u1
set_option maxHeartbeats 4000000 in
set_option maxRecDepth 100000 in
theorem m_X4_code (l : Launch) (hst : l.stackTraces = false) (D : va_G) (ty : Nat → ClassId) (q : Nat → Nat) (σ : St) (sz : Nat) (x1 x2 : Int32) {res : Rx} (hF : f_X4_code x1 x2 σ = some res) : vx_Met l yX4_code (wsy yX4_code cX4_code 3 (some .int)) rm_X4_code (Pcw D ty (FxD q) (wC ty q σ) sz [.ref (q 0), .int x1, .int x2]) (Qix D ty (wC ty q) (va_A (wC ty q σ) sz) res) (Xcx D ty (wC ty q) (va_A (wC ty q σ) sz) res) 2 12 (va_A (wC ty q σ) sz) := by
  refine en_x (Qc := fun A => Qix D ty (wC ty q) A res) (XC := fun A => Xcx D ty (wC ty q) A res) (by decide) (Nat.le_of_ble_eq_true rfl) ?_
  intro p e s m args below meth c A X hlk hr hno H locs hI hG ls hl
  have X : CallFix p m c cX4_code 3 s args tb RX4 := X
  have hl : lv_has ls 3 [(0, .ref (q 0)), (1, .int x1), (2, .int x2)] := hl
  unfold f_X4_code at hF
  refine lv_iload_n X.1 X.2.1 dX4_code_0 rfl (lv_at hl 1 rfl) ?_
  obtain ⟨u1, h2, hF⟩ := fb_bnd hF
  refine cx_v (w := wC ty q) (σ := σ) (rest := []) X hlk hno hI hG (m_X4_requireSegment l hst D ty q σ _ x1 h2) ok_X4_requireSegment ml_X4_25 ⟨rfl, rfl, Nat.le_of_ble_eq_true rfl, Nat.le_of_ble_eq_true rfl⟩ rfl hl.1 rfl (Nat.le_of_ble_eq_true rfl) ⟨Nat.le_of_ble_eq_true rfl, Nat.le_of_ble_eq_true rfl⟩ dX4_code_1 (Nat.le_of_ble_eq_true rfl) (Nat.le_of_ble_eq_true rfl) (fun hk => Option.some.inj (fb_neg hk hF)) (fun hk H locs hI => ?_)
  replace hF := fb_pos hk hF
  refine lv_aload_n X.1 X.2.1 dX4_code_4 rfl (lv_at hl 0 rfl) ?_
  refine g_X4_disk X hI dX4_code_5 ?_
  refine lv_iload_n X.1 X.2.1 dX4_code_8 rfl (lv_at hl 1 rfl) ?_
  obtain ⟨u3, h4, hF⟩ := fb_bnd hF
  refine cl_i (w := wC ty q) (σ := u1.2) (rest := []) X (fxC q) hI (m_X0_lengthOf l D ty q u1.2 _ x1 h4) ok_X0_lengthOf ml_X4_29 ⟨rfl, rfl, Nat.le_of_ble_eq_true rfl, Nat.le_of_ble_eq_true rfl⟩ 1 rc_X0 rfl rfl hl.1 rfl (Nat.le_of_ble_eq_true rfl) ⟨Nat.le_of_ble_eq_true rfl, Nat.le_of_ble_eq_true rfl⟩ dX4_code_9 (fun H locs hI => ?_)
  refine lv_bipush (v := 80) X.1 X.2.1 dX4_code_12 (by decide) ?_
  refine lv_icmp_lt (tgt := 27) X.1 X.2.1 dX4_code_14 (by decide) (fun c5 => ?_) (fun c5 => ?_)
  · replace hF := fb_pos c5 hF
    refine lv_aload_n X.1 X.2.1 dX4_code_27 rfl (lv_at hl 0 rfl) ?_
    refine g_X4_run X hI dX4_code_28 ?_
    obtain ⟨u6, h7, hF⟩ := fb_bnd hF
    refine cl_v (w := wC ty q) (σ := u1.2) (rest := []) X (fxC q) hI (m_X3_forget l D ty q u1.2 _  h7) ok_X3_forget ml_X4_40 ⟨rfl, rfl, Nat.le_of_ble_eq_true rfl, Nat.le_of_ble_eq_true rfl⟩ 2 rc_X3 rfl rfl hl.1 rfl (Nat.le_of_ble_eq_true rfl) ⟨Nat.le_of_ble_eq_true rfl, Nat.le_of_ble_eq_true rfl⟩ dX4_code_31 (fun H locs hI => ?_)
    refine lv_aload_n X.1 X.2.1 dX4_code_34 rfl (lv_at hl 0 rfl) ?_
    refine g_X4_disk X hI dX4_code_35 ?_
    refine lv_iload_n X.1 X.2.1 dX4_code_38 rfl (lv_at hl 1 rfl) ?_
    refine lv_iload_n X.1 X.2.1 dX4_code_39 rfl (lv_at hl 2 rfl) ?_
    obtain ⟨u8, h9, hF⟩ := fb_bnd hF
    refine cl_v (w := wC ty q) (σ := u6.2) (rest := []) X (fxC q) hI (m_X0_append l D ty q u6.2 _ x1 x2 h9) ok_X0_append ml_X4_43 ⟨rfl, rfl, Nat.le_of_ble_eq_true rfl, Nat.le_of_ble_eq_true rfl⟩ 1 rc_X0 rfl rfl hl.1 rfl (Nat.le_of_ble_eq_true rfl) ⟨Nat.le_of_ble_eq_true rfl, Nat.le_of_ble_eq_true rfl⟩ dX4_code_40 (fun H locs hI => ?_)
    refine lv_aload_n X.1 X.2.1 dX4_code_43 rfl (lv_at hl 0 rfl) ?_
    refine g_X4_disk X hI dX4_code_44 ?_
    refine lv_iload_n X.1 X.2.1 dX4_code_47 rfl (lv_at hl 1 rfl) ?_
    obtain ⟨u10, h11, hF⟩ := fb_bnd hF
    refine cl_i (w := wC ty q) (σ := u8.2) (rest := []) X (fxC q) hI (m_X0_lengthOf l D ty q u8.2 _ x1 h11) ok_X0_lengthOf ml_X4_29 ⟨rfl, rfl, Nat.le_of_ble_eq_true rfl, Nat.le_of_ble_eq_true rfl⟩ 1 rc_X0 rfl rfl hl.1 rfl (Nat.le_of_ble_eq_true rfl) ⟨Nat.le_of_ble_eq_true rfl, Nat.le_of_ble_eq_true rfl⟩ dX4_code_48 (fun H locs hI => ?_)
    exact rx_i X hlk hr hI hF dX4_code_51 (Nat.le_of_ble_eq_true rfl) (Nat.le_of_ble_eq_true rfl)
  · replace hF := fb_neg c5 hF
    exact th_x X hlk hno hst hI hG 3 (by decide) tho_3_37_33 (tx := "the segment is full") (by decide +kernel) hl.1 dX4_code_17 dX4_code_20 dX4_code_21 dX4_code_23 dX4_code_26 (Nat.le_of_ble_eq_true rfl) (Nat.le_of_ble_eq_true rfl) (Nat.le_of_ble_eq_true rfl) (Nat.le_of_ble_eq_true rfl) hF (Nat.le_of_ble_eq_true rfl) (Nat.le_of_ble_eq_true rfl)
abbrev rm_X4_clear : Room := { frames := 7, cells := 1, slots := 6, locals := 110 }
def f_X4_clear (x1 : Int32) (σ : St) : Option Rx :=
  (f_X4_requireSegment x1 σ).bind fun u1 => if u1.1.1 = 0 then
    (f_X3_forget u1.2).bind fun u3 =>
    (f_X0_wipe x1 u3.2).bind fun u5 =>
    some ((0, 0), u5.2)
  else some u1
set_option maxHeartbeats 4000000 in
set_option maxRecDepth 100000 in
theorem m_X4_clear (l : Launch) (hst : l.stackTraces = false) (D : va_G) (ty : Nat → ClassId) (q : Nat → Nat) (σ : St) (sz : Nat) (x1 : Int32) {res : Rx} (hF : f_X4_clear x1 σ = some res) : vx_Met l yX4_clear (wsy yX4_clear cX4_clear 2 none) rm_X4_clear (Pcw D ty (FxD q) (wC ty q σ) sz [.ref (q 0), .int x1]) (Qvx D ty (wC ty q) (va_A (wC ty q σ) sz) res) (Xcx D ty (wC ty q) (va_A (wC ty q σ) sz) res) 1 6 (va_A (wC ty q σ) sz) := by
  refine en_x (Qc := fun A => Qvx D ty (wC ty q) A res) (XC := fun A => Xcx D ty (wC ty q) A res) (by decide) (Nat.le_of_ble_eq_true rfl) ?_
  intro p e s m args below meth c A X hlk hr hno H locs hI hG ls hl
  have X : CallFix p m c cX4_clear 2 s args tb RX4 := X
  have hl : lv_has ls 2 [(0, .ref (q 0)), (1, .int x1)] := hl
  unfold f_X4_clear at hF
  refine lv_iload_n X.1 X.2.1 dX4_clear_0 rfl (lv_at hl 1 rfl) ?_
  obtain ⟨u1, h2, hF⟩ := fb_bnd hF
  refine cx_v (w := wC ty q) (σ := σ) (rest := []) X hlk hno hI hG (m_X4_requireSegment l hst D ty q σ _ x1 h2) ok_X4_requireSegment ml_X4_25 ⟨rfl, rfl, Nat.le_of_ble_eq_true rfl, Nat.le_of_ble_eq_true rfl⟩ rfl hl.1 rfl (Nat.le_of_ble_eq_true rfl) ⟨Nat.le_of_ble_eq_true rfl, Nat.le_of_ble_eq_true rfl⟩ dX4_clear_1 (Nat.le_of_ble_eq_true rfl) (Nat.le_of_ble_eq_true rfl) (fun hk => Option.some.inj (fb_neg hk hF)) (fun hk H locs hI => ?_)
  replace hF := fb_pos hk hF
  refine lv_aload_n X.1 X.2.1 dX4_clear_4 rfl (lv_at hl 0 rfl) ?_
  refine g_X4_run X hI dX4_clear_5 ?_
  obtain ⟨u3, h4, hF⟩ := fb_bnd hF
  refine cl_v (w := wC ty q) (σ := u1.2) (rest := []) X (fxC q) hI (m_X3_forget l D ty q u1.2 _  h4) ok_X3_forget ml_X4_40 ⟨rfl, rfl, Nat.le_of_ble_eq_true rfl, Nat.le_of_ble_eq_true rfl⟩ 2 rc_X3 rfl rfl hl.1 rfl (Nat.le_of_ble_eq_true rfl) ⟨Nat.le_of_ble_eq_true rfl, Nat.le_of_ble_eq_true rfl⟩ dX4_clear_8 (fun H locs hI => ?_)
  refine lv_aload_n X.1 X.2.1 dX4_clear_11 rfl (lv_at hl 0 rfl) ?_
  refine g_X4_disk X hI dX4_clear_12 ?_
  refine lv_iload_n X.1 X.2.1 dX4_clear_15 rfl (lv_at hl 1 rfl) ?_
  obtain ⟨u5, h6, hF⟩ := fb_bnd hF
  refine cl_v (w := wC ty q) (σ := u3.2) (rest := []) X (fxC q) hI (m_X0_wipe l D ty q u3.2 _ x1 h6) ok_X0_wipe ml_X4_47 ⟨rfl, rfl, Nat.le_of_ble_eq_true rfl, Nat.le_of_ble_eq_true rfl⟩ 1 rc_X0 rfl rfl hl.1 rfl (Nat.le_of_ble_eq_true rfl) ⟨Nat.le_of_ble_eq_true rfl, Nat.le_of_ble_eq_true rfl⟩ dX4_clear_16 (fun H locs hI => ?_)
  exact rx_v X hlk hr hI hF dX4_clear_19 (Nat.le_of_ble_eq_true rfl) (Nat.le_of_ble_eq_true rfl)
abbrev rm_X4_good : Room := { frames := 7, cells := 1, slots := 6, locals := 110 }
def f_X4_good (x1 : Int32) (σ : St) : Option Rx :=
  (f_X4_requireSegment x1 σ).bind fun u1 => if u1.1.1 = 0 then
    (f_X0_proceduresOf x1 u1.2).bind fun u3 =>
    some ((0, u3), u1.2)
  else some u1
set_option maxHeartbeats 4000000 in
set_option maxRecDepth 100000 in
theorem m_X4_good (l : Launch) (hst : l.stackTraces = false) (D : va_G) (ty : Nat → ClassId) (q : Nat → Nat) (σ : St) (sz : Nat) (x1 : Int32) {res : Rx} (hF : f_X4_good x1 σ = some res) : vx_Met l yX4_good (wsy yX4_good cX4_good 2 (some .int)) rm_X4_good (Pcw D ty (FxD q) (wC ty q σ) sz [.ref (q 0), .int x1]) (Qix D ty (wC ty q) (va_A (wC ty q σ) sz) res) (Xcx D ty (wC ty q) (va_A (wC ty q σ) sz) res) 1 6 (va_A (wC ty q σ) sz) := by
  refine en_x (Qc := fun A => Qix D ty (wC ty q) A res) (XC := fun A => Xcx D ty (wC ty q) A res) (by decide) (Nat.le_of_ble_eq_true rfl) ?_
  intro p e s m args below meth c A X hlk hr hno H locs hI hG ls hl
  have X : CallFix p m c cX4_good 2 s args tb RX4 := X
  have hl : lv_has ls 2 [(0, .ref (q 0)), (1, .int x1)] := hl
  unfold f_X4_good at hF
  refine lv_iload_n X.1 X.2.1 dX4_good_0 rfl (lv_at hl 1 rfl) ?_
  obtain ⟨u1, h2, hF⟩ := fb_bnd hF
  refine cx_v (w := wC ty q) (σ := σ) (rest := []) X hlk hno hI hG (m_X4_requireSegment l hst D ty q σ _ x1 h2) ok_X4_requireSegment ml_X4_25 ⟨rfl, rfl, Nat.le_of_ble_eq_true rfl, Nat.le_of_ble_eq_true rfl⟩ rfl hl.1 rfl (Nat.le_of_ble_eq_true rfl) ⟨Nat.le_of_ble_eq_true rfl, Nat.le_of_ble_eq_true rfl⟩ dX4_good_1 (Nat.le_of_ble_eq_true rfl) (Nat.le_of_ble_eq_true rfl) (fun hk => Option.some.inj (fb_neg hk hF)) (fun hk H locs hI => ?_)
  replace hF := fb_pos hk hF
  refine lv_aload_n X.1 X.2.1 dX4_good_4 rfl (lv_at hl 0 rfl) ?_
  refine g_X4_disk X hI dX4_good_5 ?_
  refine lv_iload_n X.1 X.2.1 dX4_good_8 rfl (lv_at hl 1 rfl) ?_
  obtain ⟨u3, h4, hF⟩ := fb_bnd hF
  refine cl_i (w := wC ty q) (σ := u1.2) (rest := []) X (fxC q) hI (m_X0_proceduresOf l D ty q u1.2 _ x1 h4) ok_X0_proceduresOf ml_X4_50 ⟨rfl, rfl, Nat.le_of_ble_eq_true rfl, Nat.le_of_ble_eq_true rfl⟩ 1 rc_X0 rfl rfl hl.1 rfl (Nat.le_of_ble_eq_true rfl) ⟨Nat.le_of_ble_eq_true rfl, Nat.le_of_ble_eq_true rfl⟩ dX4_good_9 (fun H locs hI => ?_)
  exact rx_i X hlk hr hI hF dX4_good_12 (Nat.le_of_ble_eq_true rfl) (Nat.le_of_ble_eq_true rfl)
abbrev rm_X4_start : Room := { frames := 7, cells := 2, slots := 12, locals := 123 }
def f_X4_start (x1 x2 x3 : Int32) (σ : St) : Option Rx :=
  (f_X4_requireSegment x1 σ).bind fun u1 => if u1.1.1 = 0 then
    if x3 < 0 then
      some ((1, 0), u1.2)
    else
      if x3 ≤ 4000 then
        (f_X0_proceduresOf x1 u1.2).bind fun u5 =>
        if u5 = 0 then
          some ((2, 0), u1.2)
        else
          (f_X3_begin x1 x2 x3 u1.2).bind fun u8 =>
          some ((0, 0), u8.2)
      else
        some ((1, 0), u1.2)
  else some u1
set_option maxHeartbeats 4000000 in
set_option maxRecDepth 100000 in
theorem m_X4_start (l : Launch) (hst : l.stackTraces = false) (D : va_G) (ty : Nat → ClassId) (q : Nat → Nat) (σ : St) (sz : Nat) (x1 x2 x3 : Int32) {res : Rx} (hF : f_X4_start x1 x2 x3 σ = some res) : vx_Met l yX4_start (wsy yX4_start cX4_start 4 none) rm_X4_start (Pcw D ty (FxD q) (wC ty q σ) sz [.ref (q 0), .int x1, .int x2, .int x3]) (Qvx D ty (wC ty q) (va_A (wC ty q σ) sz) res) (Xcx D ty (wC ty q) (va_A (wC ty q σ) sz) res) 2 12 (va_A (wC ty q σ) sz) := by
  refine en_x (Qc := fun A => Qvx D ty (wC ty q) A res) (XC := fun A => Xcx D ty (wC ty q) A res) (by decide) (Nat.le_of_ble_eq_true rfl) ?_
  intro p e s m args below meth c A X hlk hr hno H locs hI hG ls hl
  have X : CallFix p m c cX4_start 4 s args tb RX4 := X
  have hl : lv_has ls 4 [(0, .ref (q 0)), (1, .int x1), (2, .int x2), (3, .int x3)] := hl
  unfold f_X4_start at hF
  refine lv_iload_n X.1 X.2.1 dX4_start_0 rfl (lv_at hl 1 rfl) ?_
  obtain ⟨u1, h2, hF⟩ := fb_bnd hF
  refine cx_v (w := wC ty q) (σ := σ) (rest := []) X hlk hno hI hG (m_X4_requireSegment l hst D ty q σ _ x1 h2) ok_X4_requireSegment ml_X4_25 ⟨rfl, rfl, Nat.le_of_ble_eq_true rfl, Nat.le_of_ble_eq_true rfl⟩ rfl hl.1 rfl (Nat.le_of_ble_eq_true rfl) ⟨Nat.le_of_ble_eq_true rfl, Nat.le_of_ble_eq_true rfl⟩ dX4_start_1 (Nat.le_of_ble_eq_true rfl) (Nat.le_of_ble_eq_true rfl) (fun hk => Option.some.inj (fb_neg hk hF)) (fun hk H locs hI => ?_)
  replace hF := fb_pos hk hF
  refine lv_iload_n X.1 X.2.1 dX4_start_4 rfl (lv_at hl 3 rfl) ?_
  refine lv_if_lt (tgt := 15) X.1 X.2.1 dX4_start_5 (by decide) (fun c3 => ?_) (fun c3 => ?_)
  · replace hF := fb_pos c3 hF
    exact th_x X hlk hno hst hI hG 1 (by decide) tho_1_57_53 (tx := "no such limit") (by decide +kernel) hl.1 dX4_start_15 dX4_start_18 dX4_start_19 dX4_start_21 dX4_start_24 (Nat.le_of_ble_eq_true rfl) (Nat.le_of_ble_eq_true rfl) (Nat.le_of_ble_eq_true rfl) (Nat.le_of_ble_eq_true rfl) hF (Nat.le_of_ble_eq_true rfl) (Nat.le_of_ble_eq_true rfl)
  · replace hF := fb_neg c3 hF
    refine lv_iload_n X.1 X.2.1 dX4_start_8 rfl (lv_at hl 3 rfl) ?_
    refine lv_sipush (v := 4000) X.1 X.2.1 dX4_start_9 (by decide) ?_
    refine lv_icmp_le (tgt := 25) X.1 X.2.1 dX4_start_12 (by decide) (fun c4 => ?_) (fun c4 => ?_)
    · replace hF := fb_pos c4 hF
      refine lv_aload_n X.1 X.2.1 dX4_start_25 rfl (lv_at hl 0 rfl) ?_
      refine g_X4_disk X hI dX4_start_26 ?_
      refine lv_iload_n X.1 X.2.1 dX4_start_29 rfl (lv_at hl 1 rfl) ?_
      obtain ⟨u5, h6, hF⟩ := fb_bnd hF
      refine cl_i (w := wC ty q) (σ := u1.2) (rest := []) X (fxC q) hI (m_X0_proceduresOf l D ty q u1.2 _ x1 h6) ok_X0_proceduresOf ml_X4_50 ⟨rfl, rfl, Nat.le_of_ble_eq_true rfl, Nat.le_of_ble_eq_true rfl⟩ 1 rc_X0 rfl rfl hl.1 rfl (Nat.le_of_ble_eq_true rfl) ⟨Nat.le_of_ble_eq_true rfl, Nat.le_of_ble_eq_true rfl⟩ dX4_start_30 (fun H locs hI => ?_)
      refine lv_if_ne (tgt := 46) X.1 X.2.1 dX4_start_33 (by decide) (fun c7 => ?_) (fun c7 => ?_)
      · replace hF := fb_neg c7 hF
        refine lv_aload_n X.1 X.2.1 dX4_start_46 rfl (lv_at hl 0 rfl) ?_
        refine g_X4_run X hI dX4_start_47 ?_
        refine lv_iload_n X.1 X.2.1 dX4_start_50 rfl (lv_at hl 1 rfl) ?_
        refine lv_iload_n X.1 X.2.1 dX4_start_51 rfl (lv_at hl 2 rfl) ?_
        refine lv_iload_n X.1 X.2.1 dX4_start_52 rfl (lv_at hl 3 rfl) ?_
        obtain ⟨u8, h9, hF⟩ := fb_bnd hF
        refine cl_v (w := wC ty q) (σ := u1.2) (rest := []) X (fxC q) hI (m_X3_begin l D ty q u1.2 _ x1 x2 x3 h9) ok_X3_begin ml_X4_63 ⟨rfl, rfl, Nat.le_of_ble_eq_true rfl, Nat.le_of_ble_eq_true rfl⟩ 2 rc_X3 rfl rfl hl.1 rfl (Nat.le_of_ble_eq_true rfl) ⟨Nat.le_of_ble_eq_true rfl, Nat.le_of_ble_eq_true rfl⟩ dX4_start_53 (fun H locs hI => ?_)
        exact rx_v X hlk hr hI hF dX4_start_56 (Nat.le_of_ble_eq_true rfl) (Nat.le_of_ble_eq_true rfl)
      · replace hF := fb_pos c7 hF
        exact th_x X hlk hno hst hI hG 2 (by decide) tho_2_62_58 (tx := "the segment is not good") (by decide +kernel) hl.1 dX4_start_36 dX4_start_39 dX4_start_40 dX4_start_42 dX4_start_45 (Nat.le_of_ble_eq_true rfl) (Nat.le_of_ble_eq_true rfl) (Nat.le_of_ble_eq_true rfl) (Nat.le_of_ble_eq_true rfl) hF (Nat.le_of_ble_eq_true rfl) (Nat.le_of_ble_eq_true rfl)
    · replace hF := fb_neg c4 hF
      exact th_x X hlk hno hst hI hG 1 (by decide) tho_1_57_53 (tx := "no such limit") (by decide +kernel) hl.1 dX4_start_15 dX4_start_18 dX4_start_19 dX4_start_21 dX4_start_24 (Nat.le_of_ble_eq_true rfl) (Nat.le_of_ble_eq_true rfl) (Nat.le_of_ble_eq_true rfl) (Nat.le_of_ble_eq_true rfl) hF (Nat.le_of_ble_eq_true rfl) (Nat.le_of_ble_eq_true rfl)
abbrev rm_X4_step : Room := { frames := 6, cells := 1, slots := 6, locals := 148 }
def b_X4_step_43 : Nat → Int32 → Int32 → St → Option Rx
  | 0, _, _, _ => none
  | n + 1, x1, x2, σ =>
    if x1 ≤ x2 then
      some ((0, x2), σ)
    else
      (f_X3_status σ).bind fun u7 =>
      if u7 = 1 then
        (f_X3_doInstruction σ).bind fun u10 =>
        b_X4_step_43 n x1 (x2 + 1) u10.2
      else
        some ((0, x2), σ)
set_option maxHeartbeats 4000000 in
set_option maxRecDepth 100000 in
theorem w_b_X4_step_43 {l : Launch} {p : Program} {e : Env} {s : State} {m : MethodId} {args : Array Value} {below : List Frame} {meth : Method} {c : Code} {A : Nat → Prop} {D : va_G} {ty : Nat → ClassId} {q : Nat → Nat} {res : Rx} (X : CallFix p m c cX4_step 3 s args tb RX4) (hlk : meth.locks = false) (hr : meth.sig.returnType = (some .int)) (hno : ∀ x ∈ c.exceptionTable.toList, False) (hG : Gx A s s.heap) : ∀ (n : Nat) (x1 x2 : Int32) (σ : St) (H : Heap) (locs : List Loc) (ls : Array Slot), b_X4_step_43 n x1 x2 σ = some res → Inw D ty (FxC q) (wC ty q σ) A s H locs → lv_has ls 3 [(0, .ref (q 0)), (1, .int x1), (2, .int x2)] → W p l e rm_X4_step s m args below meth c H locs 0 0 (vx_MQ below (Qix D ty (wC ty q) A res) (Xcx D ty (wC ty q) A res) args s 1 6 A) (F0 m 43 ls []) := by
  intro n
  induction n with
  | zero =>
    intro x1 x2 σ H locs ls hF
    cases hF
  | succ n ih =>
    intro x1 x2 σ H locs ls hF hI hl
    rw [b_X4_step_43] at hF
    refine lv_iload_n X.1 X.2.1 dX4_step_43 rfl (lv_at hl 2 rfl) ?_
    refine lv_iload_n X.1 X.2.1 dX4_step_44 rfl (lv_at hl 1 rfl) ?_
    refine lv_icmp_ge (tgt := 72) X.1 X.2.1 dX4_step_45 (by decide) (fun c6 => ?_) (fun c6 => ?_)
    · replace hF := fb_pos c6 hF
      refine lv_iload_n X.1 X.2.1 dX4_step_72 rfl (lv_at hl 2 rfl) ?_
      exact rx_i X hlk hr hI hF dX4_step_73 (Nat.le_of_ble_eq_true rfl) (Nat.le_of_ble_eq_true rfl)
    · replace hF := fb_neg c6 hF
      refine lv_aload_n X.1 X.2.1 dX4_step_48 rfl (lv_at hl 0 rfl) ?_
      refine g_X4_run X hI dX4_step_49 ?_
      obtain ⟨u7, h8, hF⟩ := fb_bnd hF
      refine cl_i (w := wC ty q) (σ := σ) (rest := []) X (fxC q) hI (m_X3_status l D ty q σ _  h8) ok_X3_status ml_X4_67 ⟨rfl, rfl, Nat.le_of_ble_eq_true rfl, Nat.le_of_ble_eq_true rfl⟩ 2 rc_X3 rfl rfl hl.1 rfl (Nat.le_of_ble_eq_true rfl) ⟨Nat.le_of_ble_eq_true rfl, Nat.le_of_ble_eq_true rfl⟩ dX4_step_52 (fun H locs hI => ?_)
      refine lv_iconst (v := 1) X.1 X.2.1 dX4_step_55 (by decide) ?_
      refine lv_icmp_ne (tgt := 72) X.1 X.2.1 dX4_step_56 (by decide) (fun c9 => ?_) (fun c9 => ?_)
      · replace hF := fb_neg c9 hF
        refine lv_iload_n X.1 X.2.1 dX4_step_72 rfl (lv_at hl 2 rfl) ?_
        exact rx_i X hlk hr hI hF dX4_step_73 (Nat.le_of_ble_eq_true rfl) (Nat.le_of_ble_eq_true rfl)
      · replace hF := fb_pos c9 hF
        refine lv_aload_n X.1 X.2.1 dX4_step_59 rfl (lv_at hl 0 rfl) ?_
        refine g_X4_run X hI dX4_step_60 ?_
        obtain ⟨u10, h11, hF⟩ := fb_bnd hF
        refine cl_v (w := wC ty q) (σ := σ) (rest := []) X (fxC q) hI (m_X3_doInstruction l D ty q σ _  h11) ok_X3_doInstruction ml_X4_75 ⟨rfl, rfl, Nat.le_of_ble_eq_true rfl, Nat.le_of_ble_eq_true rfl⟩ 2 rc_X3 rfl rfl hl.1 rfl (Nat.le_of_ble_eq_true rfl) ⟨Nat.le_of_ble_eq_true rfl, Nat.le_of_ble_eq_true rfl⟩ dX4_step_63 (fun H locs hI => ?_)
        refine lv_iinc (v := x2 + 1) (lv' := [(2, .int (x2 + 1)), (0, .ref (q 0)), (1, .int x1)]) X.1 X.2.1 dX4_step_66 hl (k := 2) rfl rfl (by decide) rfl (fun ls hl => ?_)
        refine lv_goto (tgt := 43) X.1 X.2.1 dX4_step_69 (by decide) ?_
        exact ih x1 (x2 + 1) _ _ _ ls hF hI (lv_sub hl [1, 2, 0] rfl)
def f_X4_step (x1 : Int32) (σ : St) : Option Rx :=
  (f_X3_status σ).bind fun u1 =>
  if u1 = 0 then
    some ((2, 0), σ)
  else
    if x1 < 0 then
      some ((1, 0), σ)
    else
      if x1 ≤ 2000 then
        b_X4_step_43 2002 x1 0 σ
      else
        some ((1, 0), σ)
set_option maxHeartbeats 4000000 in
set_option maxRecDepth 100000 in
theorem m_X4_step (l : Launch) (hst : l.stackTraces = false) (D : va_G) (ty : Nat → ClassId) (q : Nat → Nat) (σ : St) (sz : Nat) (x1 : Int32) {res : Rx} (hF : f_X4_step x1 σ = some res) : vx_Met l yX4_step (wsy yX4_step cX4_step 3 (some .int)) rm_X4_step (Pcw D ty (FxD q) (wC ty q σ) sz [.ref (q 0), .int x1]) (Qix D ty (wC ty q) (va_A (wC ty q σ) sz) res) (Xcx D ty (wC ty q) (va_A (wC ty q σ) sz) res) 1 6 (va_A (wC ty q σ) sz) := by
  refine en_x (Qc := fun A => Qix D ty (wC ty q) A res) (XC := fun A => Xcx D ty (wC ty q) A res) (by decide) (Nat.le_of_ble_eq_true rfl) ?_
  intro p e s m args below meth c A X hlk hr hno H locs hI hG ls hl
  have X : CallFix p m c cX4_step 3 s args tb RX4 := X
  have hl : lv_has ls 3 [(0, .ref (q 0)), (1, .int x1)] := hl
  unfold f_X4_step at hF
  refine lv_aload_n X.1 X.2.1 dX4_step_0 rfl (lv_at hl 0 rfl) ?_
  refine g_X4_run X hI dX4_step_1 ?_
  obtain ⟨u1, h2, hF⟩ := fb_bnd hF
  refine cl_i (w := wC ty q) (σ := σ) (rest := []) X (fxC q) hI (m_X3_status l D ty q σ _  h2) ok_X3_status ml_X4_67 ⟨rfl, rfl, Nat.le_of_ble_eq_true rfl, Nat.le_of_ble_eq_true rfl⟩ 2 rc_X3 rfl rfl hl.1 rfl (Nat.le_of_ble_eq_true rfl) ⟨Nat.le_of_ble_eq_true rfl, Nat.le_of_ble_eq_true rfl⟩ dX4_step_4 (fun H locs hI => ?_)
  refine lv_if_ne (tgt := 20) X.1 X.2.1 dX4_step_7 (by decide) (fun c3 => ?_) (fun c3 => ?_)
  · replace hF := fb_neg c3 hF
    refine lv_iload_n X.1 X.2.1 dX4_step_20 rfl (lv_at hl 1 rfl) ?_
    refine lv_if_lt (tgt := 31) X.1 X.2.1 dX4_step_21 (by decide) (fun c4 => ?_) (fun c4 => ?_)
    · replace hF := fb_pos c4 hF
      exact th_x X hlk hno hst hI hG 1 (by decide) tho_1_57_53 (tx := "no such number of steps") (by decide +kernel) hl.1 dX4_step_31 dX4_step_34 dX4_step_35 dX4_step_37 dX4_step_40 (Nat.le_of_ble_eq_true rfl) (Nat.le_of_ble_eq_true rfl) (Nat.le_of_ble_eq_true rfl) (Nat.le_of_ble_eq_true rfl) hF (Nat.le_of_ble_eq_true rfl) (Nat.le_of_ble_eq_true rfl)
    · replace hF := fb_neg c4 hF
      refine lv_iload_n X.1 X.2.1 dX4_step_24 rfl (lv_at hl 1 rfl) ?_
      refine lv_sipush (v := 2000) X.1 X.2.1 dX4_step_25 (by decide) ?_
      refine lv_icmp_le (tgt := 41) X.1 X.2.1 dX4_step_28 (by decide) (fun c5 => ?_) (fun c5 => ?_)
      · replace hF := fb_pos c5 hF
        refine lv_iconst (v := 0) X.1 X.2.1 dX4_step_41 (by decide) ?_
        refine lv_istore_n (lv' := [(2, .int 0), (0, .ref (q 0)), (1, .int x1)]) X.1 X.2.1 dX4_step_42 rfl hl (by decide) rfl (fun ls hl => ?_)
        exact w_b_X4_step_43 X hlk hr hno hG 2002 x1 0 _ _ _ ls hF hI (lv_sub hl [1, 2, 0] rfl)
      · replace hF := fb_neg c5 hF
        exact th_x X hlk hno hst hI hG 1 (by decide) tho_1_57_53 (tx := "no such number of steps") (by decide +kernel) hl.1 dX4_step_31 dX4_step_34 dX4_step_35 dX4_step_37 dX4_step_40 (Nat.le_of_ble_eq_true rfl) (Nat.le_of_ble_eq_true rfl) (Nat.le_of_ble_eq_true rfl) (Nat.le_of_ble_eq_true rfl) hF (Nat.le_of_ble_eq_true rfl) (Nat.le_of_ble_eq_true rfl)
  · replace hF := fb_pos c3 hF
    exact th_x X hlk hno hst hI hG 2 (by decide) tho_2_62_58 (tx := "there is no run") (by decide +kernel) hl.1 dX4_step_10 dX4_step_13 dX4_step_14 dX4_step_16 dX4_step_19 (Nat.le_of_ble_eq_true rfl) (Nat.le_of_ble_eq_true rfl) (Nat.le_of_ble_eq_true rfl) (Nat.le_of_ble_eq_true rfl) hF (Nat.le_of_ble_eq_true rfl) (Nat.le_of_ble_eq_true rfl)
abbrev rm_X4_look : Room := { frames := 6, cells := 1, slots := 6, locals := 90 }
def f_X4_look (x1 : Int32) (σ : St) : Option Rx :=
  if x1 < 0 then
    some ((1, 0), σ)
  else
    if x1 ≤ 10 then
      (f_X3_fact x1 σ).bind fun u3 =>
      some ((0, u3), σ)
    else
      some ((1, 0), σ)
set_option maxHeartbeats 4000000 in
set_option maxRecDepth 100000 in
theorem m_X4_look (l : Launch) (hst : l.stackTraces = false) (D : va_G) (ty : Nat → ClassId) (q : Nat → Nat) (σ : St) (sz : Nat) (x1 : Int32) {res : Rx} (hF : f_X4_look x1 σ = some res) : vx_Met l yX4_look (wsy yX4_look cX4_look 2 (some .int)) rm_X4_look (Pcw D ty (FxD q) (wC ty q σ) sz [.ref (q 0), .int x1]) (Qix D ty (wC ty q) (va_A (wC ty q σ) sz) res) (Xcx D ty (wC ty q) (va_A (wC ty q σ) sz) res) 1 6 (va_A (wC ty q σ) sz) := by
  refine en_x (Qc := fun A => Qix D ty (wC ty q) A res) (XC := fun A => Xcx D ty (wC ty q) A res) (by decide) (Nat.le_of_ble_eq_true rfl) ?_
  intro p e s m args below meth c A X hlk hr hno H locs hI hG ls hl
  have X : CallFix p m c cX4_look 2 s args tb RX4 := X
  have hl : lv_has ls 2 [(0, .ref (q 0)), (1, .int x1)] := hl
  unfold f_X4_look at hF
  refine lv_iload_n X.1 X.2.1 dX4_look_0 rfl (lv_at hl 1 rfl) ?_
  refine lv_if_lt (tgt := 10) X.1 X.2.1 dX4_look_1 (by decide) (fun c1 => ?_) (fun c1 => ?_)
  · replace hF := fb_pos c1 hF
    exact th_x X hlk hno hst hI hG 1 (by decide) tho_1_57_53 (tx := "nothing to look at") (by decide +kernel) hl.1 dX4_look_10 dX4_look_13 dX4_look_14 dX4_look_16 dX4_look_19 (Nat.le_of_ble_eq_true rfl) (Nat.le_of_ble_eq_true rfl) (Nat.le_of_ble_eq_true rfl) (Nat.le_of_ble_eq_true rfl) hF (Nat.le_of_ble_eq_true rfl) (Nat.le_of_ble_eq_true rfl)
  · replace hF := fb_neg c1 hF
    refine lv_iload_n X.1 X.2.1 dX4_look_4 rfl (lv_at hl 1 rfl) ?_
    refine lv_bipush (v := 10) X.1 X.2.1 dX4_look_5 (by decide) ?_
    refine lv_icmp_le (tgt := 20) X.1 X.2.1 dX4_look_7 (by decide) (fun c2 => ?_) (fun c2 => ?_)
    · replace hF := fb_pos c2 hF
      refine lv_aload_n X.1 X.2.1 dX4_look_20 rfl (lv_at hl 0 rfl) ?_
      refine g_X4_run X hI dX4_look_21 ?_
      refine lv_iload_n X.1 X.2.1 dX4_look_24 rfl (lv_at hl 1 rfl) ?_
      obtain ⟨u3, h4, hF⟩ := fb_bnd hF
      refine cl_i (w := wC ty q) (σ := σ) (rest := []) X (fxC q) hI (m_X3_fact l D ty q σ _ x1 h4) ok_X3_fact ml_X4_80 ⟨rfl, rfl, Nat.le_of_ble_eq_true rfl, Nat.le_of_ble_eq_true rfl⟩ 2 rc_X3 rfl rfl hl.1 rfl (Nat.le_of_ble_eq_true rfl) ⟨Nat.le_of_ble_eq_true rfl, Nat.le_of_ble_eq_true rfl⟩ dX4_look_25 (fun H locs hI => ?_)
      exact rx_i X hlk hr hI hF dX4_look_28 (Nat.le_of_ble_eq_true rfl) (Nat.le_of_ble_eq_true rfl)
    · replace hF := fb_neg c2 hF
      exact th_x X hlk hno hst hI hG 1 (by decide) tho_1_57_53 (tx := "nothing to look at") (by decide +kernel) hl.1 dX4_look_10 dX4_look_13 dX4_look_14 dX4_look_16 dX4_look_19 (Nat.le_of_ble_eq_true rfl) (Nat.le_of_ble_eq_true rfl) (Nat.le_of_ble_eq_true rfl) (Nat.le_of_ble_eq_true rfl) hF (Nat.le_of_ble_eq_true rfl) (Nat.le_of_ble_eq_true rfl)
abbrev rm_X4_state : Room := { frames := 7, cells := 1, slots := 6, locals := 110 }
def f_X4_state (x1 : Int32) (σ : St) : Option Rx :=
  (f_X4_requireSegment x1 σ).bind fun u1 => if u1.1.1 = 0 then
    (f_X3_stateOf x1 u1.2).bind fun u3 =>
    some ((0, u3), u1.2)
  else some u1
set_option maxHeartbeats 4000000 in
set_option maxRecDepth 100000 in
theorem m_X4_state (l : Launch) (hst : l.stackTraces = false) (D : va_G) (ty : Nat → ClassId) (q : Nat → Nat) (σ : St) (sz : Nat) (x1 : Int32) {res : Rx} (hF : f_X4_state x1 σ = some res) : vx_Met l yX4_state (wsy yX4_state cX4_state 2 (some .int)) rm_X4_state (Pcw D ty (FxD q) (wC ty q σ) sz [.ref (q 0), .int x1]) (Qix D ty (wC ty q) (va_A (wC ty q σ) sz) res) (Xcx D ty (wC ty q) (va_A (wC ty q σ) sz) res) 1 6 (va_A (wC ty q σ) sz) := by
  refine en_x (Qc := fun A => Qix D ty (wC ty q) A res) (XC := fun A => Xcx D ty (wC ty q) A res) (by decide) (Nat.le_of_ble_eq_true rfl) ?_
  intro p e s m args below meth c A X hlk hr hno H locs hI hG ls hl
  have X : CallFix p m c cX4_state 2 s args tb RX4 := X
  have hl : lv_has ls 2 [(0, .ref (q 0)), (1, .int x1)] := hl
  unfold f_X4_state at hF
  refine lv_iload_n X.1 X.2.1 dX4_state_0 rfl (lv_at hl 1 rfl) ?_
  obtain ⟨u1, h2, hF⟩ := fb_bnd hF
  refine cx_v (w := wC ty q) (σ := σ) (rest := []) X hlk hno hI hG (m_X4_requireSegment l hst D ty q σ _ x1 h2) ok_X4_requireSegment ml_X4_25 ⟨rfl, rfl, Nat.le_of_ble_eq_true rfl, Nat.le_of_ble_eq_true rfl⟩ rfl hl.1 rfl (Nat.le_of_ble_eq_true rfl) ⟨Nat.le_of_ble_eq_true rfl, Nat.le_of_ble_eq_true rfl⟩ dX4_state_1 (Nat.le_of_ble_eq_true rfl) (Nat.le_of_ble_eq_true rfl) (fun hk => Option.some.inj (fb_neg hk hF)) (fun hk H locs hI => ?_)
  replace hF := fb_pos hk hF
  refine lv_aload_n X.1 X.2.1 dX4_state_4 rfl (lv_at hl 0 rfl) ?_
  refine g_X4_run X hI dX4_state_5 ?_
  refine lv_iload_n X.1 X.2.1 dX4_state_8 rfl (lv_at hl 1 rfl) ?_
  obtain ⟨u3, h4, hF⟩ := fb_bnd hF
  refine cl_i (w := wC ty q) (σ := u1.2) (rest := []) X (fxC q) hI (m_X3_stateOf l D ty q u1.2 _ x1 h4) ok_X3_stateOf ml_X4_83 ⟨rfl, rfl, Nat.le_of_ble_eq_true rfl, Nat.le_of_ble_eq_true rfl⟩ 2 rc_X3 rfl rfl hl.1 rfl (Nat.le_of_ble_eq_true rfl) ⟨Nat.le_of_ble_eq_true rfl, Nat.le_of_ble_eq_true rfl⟩ dX4_state_9 (fun H locs hI => ?_)
  exact rx_i X hlk hr hI hF dX4_state_12 (Nat.le_of_ble_eq_true rfl) (Nat.le_of_ble_eq_true rfl)
abbrev rm_X4_out : Room := { frames := 6, cells := 1, slots := 6, locals := 90 }
def f_X4_out (x1 : Int32) (σ : St) : Option Rx :=
  if x1 < 0 then
    some ((3, 0), σ)
  else
    (f_X3_outCount σ).bind fun u2 =>
    if x1 < u2 then
      (f_X3_outAt x1 σ).bind fun u5 =>
      some ((0, u5), σ)
    else
      some ((3, 0), σ)
set_option maxHeartbeats 4000000 in
set_option maxRecDepth 100000 in
theorem m_X4_out (l : Launch) (hst : l.stackTraces = false) (D : va_G) (ty : Nat → ClassId) (q : Nat → Nat) (σ : St) (sz : Nat) (x1 : Int32) {res : Rx} (hF : f_X4_out x1 σ = some res) : vx_Met l yX4_out (wsy yX4_out cX4_out 2 (some .int)) rm_X4_out (Pcw D ty (FxD q) (wC ty q σ) sz [.ref (q 0), .int x1]) (Qix D ty (wC ty q) (va_A (wC ty q σ) sz) res) (Xcx D ty (wC ty q) (va_A (wC ty q σ) sz) res) 1 6 (va_A (wC ty q σ) sz) := by
  refine en_x (Qc := fun A => Qix D ty (wC ty q) A res) (XC := fun A => Xcx D ty (wC ty q) A res) (by decide) (Nat.le_of_ble_eq_true rfl) ?_
  intro p e s m args below meth c A X hlk hr hno H locs hI hG ls hl
  have X : CallFix p m c cX4_out 2 s args tb RX4 := X
  have hl : lv_has ls 2 [(0, .ref (q 0)), (1, .int x1)] := hl
  unfold f_X4_out at hF
  refine lv_iload_n X.1 X.2.1 dX4_out_0 rfl (lv_at hl 1 rfl) ?_
  refine lv_if_lt (tgt := 15) X.1 X.2.1 dX4_out_1 (by decide) (fun c1 => ?_) (fun c1 => ?_)
  · replace hF := fb_pos c1 hF
    exact th_x X hlk hno hst hI hG 3 (by decide) tho_3_37_33 (tx := "no such number was put out") (by decide +kernel) hl.1 dX4_out_15 dX4_out_18 dX4_out_19 dX4_out_21 dX4_out_24 (Nat.le_of_ble_eq_true rfl) (Nat.le_of_ble_eq_true rfl) (Nat.le_of_ble_eq_true rfl) (Nat.le_of_ble_eq_true rfl) hF (Nat.le_of_ble_eq_true rfl) (Nat.le_of_ble_eq_true rfl)
  · replace hF := fb_neg c1 hF
    refine lv_iload_n X.1 X.2.1 dX4_out_4 rfl (lv_at hl 1 rfl) ?_
    refine lv_aload_n X.1 X.2.1 dX4_out_5 rfl (lv_at hl 0 rfl) ?_
    refine g_X4_run X hI dX4_out_6 ?_
    obtain ⟨u2, h3, hF⟩ := fb_bnd hF
    refine cl_i (w := wC ty q) (σ := σ) (rest := [.int x1]) X (fxC q) hI (m_X3_outCount l D ty q σ _  h3) ok_X3_outCount ml_X4_86 ⟨rfl, rfl, Nat.le_of_ble_eq_true rfl, Nat.le_of_ble_eq_true rfl⟩ 2 rc_X3 rfl rfl hl.1 rfl (Nat.le_of_ble_eq_true rfl) ⟨Nat.le_of_ble_eq_true rfl, Nat.le_of_ble_eq_true rfl⟩ dX4_out_9 (fun H locs hI => ?_)
    refine lv_icmp_lt (tgt := 25) X.1 X.2.1 dX4_out_12 (by decide) (fun c4 => ?_) (fun c4 => ?_)
    · replace hF := fb_pos c4 hF
      refine lv_aload_n X.1 X.2.1 dX4_out_25 rfl (lv_at hl 0 rfl) ?_
      refine g_X4_run X hI dX4_out_26 ?_
      refine lv_iload_n X.1 X.2.1 dX4_out_29 rfl (lv_at hl 1 rfl) ?_
      obtain ⟨u5, h6, hF⟩ := fb_bnd hF
      refine cl_i (w := wC ty q) (σ := σ) (rest := []) X (fxC q) hI (m_X3_outAt l D ty q σ _ x1 h6) ok_X3_outAt ml_X4_91 ⟨rfl, rfl, Nat.le_of_ble_eq_true rfl, Nat.le_of_ble_eq_true rfl⟩ 2 rc_X3 rfl rfl hl.1 rfl (Nat.le_of_ble_eq_true rfl) ⟨Nat.le_of_ble_eq_true rfl, Nat.le_of_ble_eq_true rfl⟩ dX4_out_30 (fun H locs hI => ?_)
      exact rx_i X hlk hr hI hF dX4_out_33 (Nat.le_of_ble_eq_true rfl) (Nat.le_of_ble_eq_true rfl)
    · replace hF := fb_neg c4 hF
      exact th_x X hlk hno hst hI hG 3 (by decide) tho_3_37_33 (tx := "no such number was put out") (by decide +kernel) hl.1 dX4_out_15 dX4_out_18 dX4_out_19 dX4_out_21 dX4_out_24 (Nat.le_of_ble_eq_true rfl) (Nat.le_of_ble_eq_true rfl) (Nat.le_of_ble_eq_true rfl) (Nat.le_of_ble_eq_true rfl) hF (Nat.le_of_ble_eq_true rfl) (Nat.le_of_ble_eq_true rfl)
abbrev rm_X4_local : Room := { frames := 3, cells := 0, slots := 0, locals := 66 }
def f_X4_local (x1 x2 : Int32) (σ : St) : Option Int32 :=
  (f_X3_localAt x1 x2 σ).bind fun u1 =>
  some u1
set_option maxHeartbeats 4000000 in
set_option maxRecDepth 100000 in
theorem m_X4_local (l : Launch) (D : va_G) (ty : Nat → ClassId) (q : Nat → Nat) (σ : St) (sz : Nat) (x1 x2 : Int32) {rr : Int32} (hF : f_X4_local x1 x2 σ = some rr) : Met l yX4_local (wsy yX4_local cX4_local 3 (some .int)) rm_X4_local (Pcw D ty (FxC q) (wC ty q σ) sz [.ref (q 0), .int x1, .int x2]) (Qiw D ty (wC ty q) (va_A (wC ty q σ) sz) (rr, σ)) 0 0 (va_A (wC ty q σ) sz) := by
  refine en_w (Qc := fun A => Qiw D ty (wC ty q) A (rr, σ)) (by decide) (Nat.le_of_ble_eq_true rfl) ?_
  intro p e s m args below meth c A X hlk hr _ H locs hI ls hl
  have X : CallFix p m c cX4_local 3 s args tb RX4 := X
  have hl : lv_has ls 3 [(0, .ref (q 0)), (1, .int x1), (2, .int x2)] := hl
  unfold f_X4_local at hF
  refine lv_aload_n X.1 X.2.1 dX4_local_0 rfl (lv_at hl 0 rfl) ?_
  refine g_X4_run X hI dX4_local_1 ?_
  refine lv_iload_n X.1 X.2.1 dX4_local_4 rfl (lv_at hl 1 rfl) ?_
  refine lv_iload_n X.1 X.2.1 dX4_local_5 rfl (lv_at hl 2 rfl) ?_
  obtain ⟨u1, h2, hF⟩ := fb_bnd hF
  refine cl_i (w := wC ty q) (σ := σ) (rest := []) X (fxC q) hI (m_X3_localAt l D ty q σ _ x1 x2 h2) ok_X3_localAt ml_X4_94 ⟨rfl, rfl, Nat.le_of_ble_eq_true rfl, Nat.le_of_ble_eq_true rfl⟩ 2 rc_X3 rfl rfl hl.1 rfl (Nat.le_of_ble_eq_true rfl) ⟨Nat.le_of_ble_eq_true rfl, Nat.le_of_ble_eq_true rfl⟩ dX4_local_6 (fun H locs hI => ?_)
  exact rt_i X hlk hr hI (fb_pr hF) dX4_local_9
