theorem cl_L_13 : Cond.classLink RL 13 (exN 1) ∈ tb := tb_in (List.mem_of_getElem? (i := 179) (by decide +kernel)) (by decide +kernel)
theorem cl_L_15 : Cond.classLink RL 15 (exN 3) ∈ tb := tb_in (List.mem_of_getElem? (i := 180) (by decide +kernel)) (by decide +kernel)
theorem cl_L_29 : Cond.classLink RL 29 (exN 2) ∈ tb := tb_in (List.mem_of_getElem? (i := 329) (by decide +kernel)) (by decide +kernel)
theorem cst_1 : Cond.castable (exN 1) (exN 1) ∈ lw_tbl := List.mem_of_getElem? (i := 193) (by decide +kernel)
theorem cst_2 : Cond.castable (exN 2) (exN 2) ∈ lw_tbl := List.mem_of_getElem? (i := 337) (by decide +kernel)
theorem cst_3 : Cond.castable (exN 3) (exN 3) ∈ lw_tbl := List.mem_of_getElem? (i := 264) (by decide +kernel)
theorem ml_L_7 : Cond.methodLink RL 7 yX4_code ∈ tb := tb_in (List.mem_of_getElem? (i := 181) (by decide +kernel)) (by decide +kernel)
abbrev rm_L_code : Room := { frames := 8, cells := 2, slots := 12, locals := 132 }
def f_L_code (x1 x2 : Int32) (σ : St) (o : Int32) : Option Rh :=
  (f_X4_code x1 x2 σ).bind fun u =>
  if u.1.1 = 0 then some (0, (u.2, u.1.2))
  else if u.1.1 = 1 then some (1, (u.2, o))
  else if u.1.1 = 3 then some (2, (u.2, o))
  else none
set_option maxHeartbeats 4000000 in
set_option maxRecDepth 100000 in
theorem m_L_code (l : Launch) (hst : l.stackTraces = false) (D : va_G) (ty : Nat → ClassId) (q : Nat → Nat) (σ : St) (o : Int32) (sz : Nat) (x1 x2 : Int32) {res : Rh} (hF : f_L_code x1 x2 σ o = some res) : Met l yL_code (wsh yL_code cL_code 5 (some .int) [(0, 10, 13, 13), (0, 10, 17, 15)]) rm_L_code (Pcw D ty (FxD q) (wH ty q o σ) sz [.ref (q 0), .int x1, .int x2, .ref (q 23)]) (Qih D ty q (va_A (wH ty q o σ) sz) res) 2 12 (va_A (wH ty q o σ) sz) := by
  refine en_h (Qc := fun A => Qih D ty q A res) (by decide) (Nat.le_of_ble_eq_true rfl) ?_
  intro p e s m args below meth c A X hlk hr htb H locs hI ls hl
  have X : CallFix p m c cL_code 5 s args tb RL := X
  have hl : lv_has ls 5 [(0, .ref (q 0)), (1, .int x1), (2, .int x2), (3, .ref (q 23))] := hl
  unfold f_L_code at hF
  obtain ⟨u, h, hF⟩ := fb_bnd hF
  refine lv_aload_n X.1 X.2.1 dL_code_0 rfl (lv_at hl 3 rfl) ?_
  refine lv_iconst (v := 0) X.1 X.2.1 dL_code_1 (by decide) ?_
  refine lv_aload_n X.1 X.2.1 dL_code_2 rfl (lv_at hl 0 rfl) ?_
  refine lv_iload_n X.1 X.2.1 dL_code_3 rfl (lv_at hl 1 rfl) ?_
  refine lv_iload_n X.1 X.2.1 dL_code_4 rfl (lv_at hl 2 rfl) ?_
  refine cv_h (a := []) (b := wC ty q) (σ := σ) (c0 := [(q 23, .inl (ty 4, 1, .inr (.inl (up0 o))))]) (rest := [.int 0, .ref (q 23)]) X (fxD q) (fun _ _ _ h => h) hI (m_X4_code l hst D ty q σ _ x1 x2 h) ok_X4_code ml_L_7 ⟨rfl, rfl, Nat.le_of_ble_eq_true rfl, Nat.le_of_ble_eq_true rfl⟩ 0 rc_X4 rfl rfl hl.1 rfl (Nat.le_of_ble_eq_true rfl) ⟨Nat.le_of_ble_eq_true rfl, Nat.le_of_ble_eq_true rfl⟩ dL_code_5 (fun hk H locs q9 ce hI hce hcv hcl => ?_) (fun hk H locs hI => ?_)
  · replace hF := fb_neg hk hF
    have hG : Gx A s s.heap := hI.2.2.2.2.2.2
    by_cases k0 : u.1.1 = 1
    · replace hF := fb_pos k0 hF
      rw [k0] at hcl
      refine ct_1 (x := ⟨0, 10, 13, 13⟩) (suf := [⟨0, 10, 17, 15⟩]) X hG (htb.trans rfl) rfl (by decide) cl_L_13 cst_1 hce hcv hcl ?_
      refine lv_astore (lv' := [(4, .ref q9), (0, .ref (q 0)), (1, .int x1), (2, .int x2), (3, .ref (q 23))]) X.1 X.2.1 dL_code_13 hl (by decide) rfl (fun ls hl => ?_)
      refine lv_iconst (v := 1) X.1 X.2.1 dL_code_15 (by decide) ?_
      exact rt_h (o := o) (σ := u.2) X hlk hr hI hF dL_code_16
    replace hF := fb_neg k0 hF
    by_cases k1 : u.1.1 = 3
    · replace hF := fb_pos k1 hF
      rw [k1] at hcl
      refine ct_2 (x1 := ⟨0, 10, 13, 13⟩) (x := ⟨0, 10, 17, 15⟩) (suf := []) X hG (htb.trans rfl) (by decide) cl_L_13 hG.2.2.2.2.1 rfl (by decide) cl_L_15 cst_3 hce hcv hcl ?_
      refine lv_astore (lv' := [(4, .ref q9), (0, .ref (q 0)), (1, .int x1), (2, .int x2), (3, .ref (q 23))]) X.1 X.2.1 dL_code_17 hl (by decide) rfl (fun ls hl => ?_)
      refine lv_iconst (v := 2) X.1 X.2.1 dL_code_19 (by decide) ?_
      exact rt_h (o := o) (σ := u.2) X hlk hr hI hF dL_code_20
    replace hF := fb_neg k1 hF
    cases hF
  · replace hF := fb_pos hk hF
    refine lv_i2l (v := u.1.2.toInt64) X.1 X.2.1 dL_code_8 rfl ?_
    refine st_out (o := o) (σ := u.2) X hI dL_code_9 (fun H locs hI => ?_)
    refine lv_goto (tgt := 21) X.1 X.2.1 dL_code_10 (by decide) ?_
    refine lv_iconst (v := 0) X.1 X.2.1 dL_code_21 (by decide) ?_
    exact rt_h (o := u.1.2) (σ := u.2) X hlk hr hI hF dL_code_22
theorem ml_L_17 : Cond.methodLink RL 17 yX4_clear ∈ tb := tb_in (List.mem_of_getElem? (i := 303) (by decide +kernel)) (by decide +kernel)
abbrev rm_L_clear : Room := { frames := 8, cells := 1, slots := 6, locals := 131 }
def f_L_clear (x1 : Int32) (σ : St) (o : Int32) : Option Rh :=
  (f_X4_clear x1 σ).bind fun u =>
  if u.1.1 = 0 then some (0, (u.2, o))
  else if u.1.1 = 1 then some (1, (u.2, o))
  else none
set_option maxHeartbeats 4000000 in
set_option maxRecDepth 100000 in
theorem m_L_clear (l : Launch) (hst : l.stackTraces = false) (D : va_G) (ty : Nat → ClassId) (q : Nat → Nat) (σ : St) (o : Int32) (sz : Nat) (x1 : Int32) {res : Rh} (hF : f_L_clear x1 σ o = some res) : Met l yL_clear (wsh yL_clear cL_clear 3 (some .int) [(0, 5, 8, 13)]) rm_L_clear (Pcw D ty (FxD q) (wH ty q o σ) sz [.ref (q 0), .int x1]) (Qih D ty q (va_A (wH ty q o σ) sz) res) 1 6 (va_A (wH ty q o σ) sz) := by
  refine en_h (Qc := fun A => Qih D ty q A res) (by decide) (Nat.le_of_ble_eq_true rfl) ?_
  intro p e s m args below meth c A X hlk hr htb H locs hI ls hl
  have X : CallFix p m c cL_clear 3 s args tb RL := X
  have hl : lv_has ls 3 [(0, .ref (q 0)), (1, .int x1)] := hl
  unfold f_L_clear at hF
  obtain ⟨u, h, hF⟩ := fb_bnd hF
  refine lv_aload_n X.1 X.2.1 dL_clear_0 rfl (lv_at hl 0 rfl) ?_
  refine lv_iload_n X.1 X.2.1 dL_clear_1 rfl (lv_at hl 1 rfl) ?_
  refine cv_hv (a := []) (b := wC ty q) (σ := σ) (c0 := [(q 23, .inl (ty 4, 1, .inr (.inl (up0 o))))]) (rest := []) X (fxD q) (fun _ _ _ h => h) hI (m_X4_clear l hst D ty q σ _ x1 h) ok_X4_clear ml_L_17 ⟨rfl, rfl, Nat.le_of_ble_eq_true rfl, Nat.le_of_ble_eq_true rfl⟩ 0 rc_X4 rfl rfl hl.1 rfl (Nat.le_of_ble_eq_true rfl) ⟨Nat.le_of_ble_eq_true rfl, Nat.le_of_ble_eq_true rfl⟩ dL_clear_2 (fun hk H locs q9 ce hI hce hcv hcl => ?_) (fun hk H locs hI => ?_)
  · replace hF := fb_neg hk hF
    have hG : Gx A s s.heap := hI.2.2.2.2.2.2
    by_cases k0 : u.1.1 = 1
    · replace hF := fb_pos k0 hF
      rw [k0] at hcl
      refine ct_1 (x := ⟨0, 5, 8, 13⟩) (suf := []) X hG (htb.trans rfl) rfl (by decide) cl_L_13 cst_1 hce hcv hcl ?_
      refine lv_astore_n (lv' := [(2, .ref q9), (0, .ref (q 0)), (1, .int x1)]) X.1 X.2.1 dL_clear_8 rfl hl (by decide) rfl (fun ls hl => ?_)
      refine lv_iconst (v := 1) X.1 X.2.1 dL_clear_9 (by decide) ?_
      exact rt_h (o := o) (σ := u.2) X hlk hr hI hF dL_clear_10
    replace hF := fb_neg k0 hF
    cases hF
  · replace hF := fb_pos hk hF
    refine lv_goto (tgt := 11) X.1 X.2.1 dL_clear_5 (by decide) ?_
    refine lv_iconst (v := 0) X.1 X.2.1 dL_clear_11 (by decide) ?_
    exact rt_h (o := o) (σ := u.2) X hlk hr hI hF dL_clear_12
theorem ml_L_21 : Cond.methodLink RL 21 yX4_good ∈ tb := tb_in (List.mem_of_getElem? (i := 314) (by decide +kernel)) (by decide +kernel)
abbrev rm_L_good : Room := { frames := 8, cells := 1, slots := 6, locals := 131 }
def f_L_good (x1 : Int32) (σ : St) (o : Int32) : Option Rh :=
  (f_X4_good x1 σ).bind fun u =>
  if u.1.1 = 0 then some (0, (u.2, u.1.2))
  else if u.1.1 = 1 then some (1, (u.2, o))
  else none
set_option maxHeartbeats 4000000 in
set_option maxRecDepth 100000 in
theorem m_L_good (l : Launch) (hst : l.stackTraces = false) (D : va_G) (ty : Nat → ClassId) (q : Nat → Nat) (σ : St) (o : Int32) (sz : Nat) (x1 : Int32) {res : Rh} (hF : f_L_good x1 σ o = some res) : Met l yL_good (wsh yL_good cL_good 4 (some .int) [(0, 9, 12, 13)]) rm_L_good (Pcw D ty (FxD q) (wH ty q o σ) sz [.ref (q 0), .int x1, .ref (q 23)]) (Qih D ty q (va_A (wH ty q o σ) sz) res) 1 6 (va_A (wH ty q o σ) sz) := by
  refine en_h (Qc := fun A => Qih D ty q A res) (by decide) (Nat.le_of_ble_eq_true rfl) ?_
  intro p e s m args below meth c A X hlk hr htb H locs hI ls hl
  have X : CallFix p m c cL_good 4 s args tb RL := X
  have hl : lv_has ls 4 [(0, .ref (q 0)), (1, .int x1), (2, .ref (q 23))] := hl
  unfold f_L_good at hF
  obtain ⟨u, h, hF⟩ := fb_bnd hF
  refine lv_aload_n X.1 X.2.1 dL_good_0 rfl (lv_at hl 2 rfl) ?_
  refine lv_iconst (v := 0) X.1 X.2.1 dL_good_1 (by decide) ?_
  refine lv_aload_n X.1 X.2.1 dL_good_2 rfl (lv_at hl 0 rfl) ?_
  refine lv_iload_n X.1 X.2.1 dL_good_3 rfl (lv_at hl 1 rfl) ?_
  refine cv_h (a := []) (b := wC ty q) (σ := σ) (c0 := [(q 23, .inl (ty 4, 1, .inr (.inl (up0 o))))]) (rest := [.int 0, .ref (q 23)]) X (fxD q) (fun _ _ _ h => h) hI (m_X4_good l hst D ty q σ _ x1 h) ok_X4_good ml_L_21 ⟨rfl, rfl, Nat.le_of_ble_eq_true rfl, Nat.le_of_ble_eq_true rfl⟩ 0 rc_X4 rfl rfl hl.1 rfl (Nat.le_of_ble_eq_true rfl) ⟨Nat.le_of_ble_eq_true rfl, Nat.le_of_ble_eq_true rfl⟩ dL_good_4 (fun hk H locs q9 ce hI hce hcv hcl => ?_) (fun hk H locs hI => ?_)
  · replace hF := fb_neg hk hF
    have hG : Gx A s s.heap := hI.2.2.2.2.2.2
    by_cases k0 : u.1.1 = 1
    · replace hF := fb_pos k0 hF
      rw [k0] at hcl
      refine ct_1 (x := ⟨0, 9, 12, 13⟩) (suf := []) X hG (htb.trans rfl) rfl (by decide) cl_L_13 cst_1 hce hcv hcl ?_
      refine lv_astore_n (lv' := [(3, .ref q9), (0, .ref (q 0)), (1, .int x1), (2, .ref (q 23))]) X.1 X.2.1 dL_good_12 rfl hl (by decide) rfl (fun ls hl => ?_)
      refine lv_iconst (v := 1) X.1 X.2.1 dL_good_13 (by decide) ?_
      exact rt_h (o := o) (σ := u.2) X hlk hr hI hF dL_good_14
    replace hF := fb_neg k0 hF
    cases hF
  · replace hF := fb_pos hk hF
    refine lv_i2l (v := u.1.2.toInt64) X.1 X.2.1 dL_good_7 rfl ?_
    refine st_out (o := o) (σ := u.2) X hI dL_good_8 (fun H locs hI => ?_)
    refine lv_goto (tgt := 15) X.1 X.2.1 dL_good_9 (by decide) ?_
    refine lv_iconst (v := 0) X.1 X.2.1 dL_good_15 (by decide) ?_
    exact rt_h (o := u.1.2) (σ := u.2) X hlk hr hI hF dL_good_16
theorem ml_L_25 : Cond.methodLink RL 25 yX4_start ∈ tb := tb_in (List.mem_of_getElem? (i := 330) (by decide +kernel)) (by decide +kernel)
abbrev rm_L_start : Room := { frames := 8, cells := 2, slots := 12, locals := 146 }
def f_L_start (x1 x2 x3 : Int32) (σ : St) (o : Int32) : Option Rh :=
  (f_X4_start x1 x2 x3 σ).bind fun u =>
  if u.1.1 = 0 then some (0, (u.2, o))
  else if u.1.1 = 1 then some (1, (u.2, o))
  else if u.1.1 = 2 then some (2, (u.2, o))
  else none
set_option maxHeartbeats 4000000 in
set_option maxRecDepth 100000 in
theorem m_L_start (l : Launch) (hst : l.stackTraces = false) (D : va_G) (ty : Nat → ClassId) (q : Nat → Nat) (σ : St) (o : Int32) (sz : Nat) (x1 x2 x3 : Int32) {res : Rh} (hF : f_L_start x1 x2 x3 σ o = some res) : Met l yL_start (wsh yL_start cL_start 5 (some .int) [(0, 7, 10, 13), (0, 7, 14, 29)]) rm_L_start (Pcw D ty (FxD q) (wH ty q o σ) sz [.ref (q 0), .int x1, .int x2, .int x3]) (Qih D ty q (va_A (wH ty q o σ) sz) res) 2 12 (va_A (wH ty q o σ) sz) := by
  refine en_h (Qc := fun A => Qih D ty q A res) (by decide) (Nat.le_of_ble_eq_true rfl) ?_
  intro p e s m args below meth c A X hlk hr htb H locs hI ls hl
  have X : CallFix p m c cL_start 5 s args tb RL := X
  have hl : lv_has ls 5 [(0, .ref (q 0)), (1, .int x1), (2, .int x2), (3, .int x3)] := hl
  unfold f_L_start at hF
  obtain ⟨u, h, hF⟩ := fb_bnd hF
  refine lv_aload_n X.1 X.2.1 dL_start_0 rfl (lv_at hl 0 rfl) ?_
  refine lv_iload_n X.1 X.2.1 dL_start_1 rfl (lv_at hl 1 rfl) ?_
  refine lv_iload_n X.1 X.2.1 dL_start_2 rfl (lv_at hl 2 rfl) ?_
  refine lv_iload_n X.1 X.2.1 dL_start_3 rfl (lv_at hl 3 rfl) ?_
  refine cv_hv (a := []) (b := wC ty q) (σ := σ) (c0 := [(q 23, .inl (ty 4, 1, .inr (.inl (up0 o))))]) (rest := []) X (fxD q) (fun _ _ _ h => h) hI (m_X4_start l hst D ty q σ _ x1 x2 x3 h) ok_X4_start ml_L_25 ⟨rfl, rfl, Nat.le_of_ble_eq_true rfl, Nat.le_of_ble_eq_true rfl⟩ 0 rc_X4 rfl rfl hl.1 rfl (Nat.le_of_ble_eq_true rfl) ⟨Nat.le_of_ble_eq_true rfl, Nat.le_of_ble_eq_true rfl⟩ dL_start_4 (fun hk H locs q9 ce hI hce hcv hcl => ?_) (fun hk H locs hI => ?_)
  · replace hF := fb_neg hk hF
    have hG : Gx A s s.heap := hI.2.2.2.2.2.2
    by_cases k0 : u.1.1 = 1
    · replace hF := fb_pos k0 hF
      rw [k0] at hcl
      refine ct_1 (x := ⟨0, 7, 10, 13⟩) (suf := [⟨0, 7, 14, 29⟩]) X hG (htb.trans rfl) rfl (by decide) cl_L_13 cst_1 hce hcv hcl ?_
      refine lv_astore (lv' := [(4, .ref q9), (0, .ref (q 0)), (1, .int x1), (2, .int x2), (3, .int x3)]) X.1 X.2.1 dL_start_10 hl (by decide) rfl (fun ls hl => ?_)
      refine lv_iconst (v := 1) X.1 X.2.1 dL_start_12 (by decide) ?_
      exact rt_h (o := o) (σ := u.2) X hlk hr hI hF dL_start_13
    replace hF := fb_neg k0 hF
    by_cases k1 : u.1.1 = 2
    · replace hF := fb_pos k1 hF
      rw [k1] at hcl
      refine ct_2 (x1 := ⟨0, 7, 10, 13⟩) (x := ⟨0, 7, 14, 29⟩) (suf := []) X hG (htb.trans rfl) (by decide) cl_L_13 hG.2.2.2.2.2.1 rfl (by decide) cl_L_29 cst_2 hce hcv hcl ?_
      refine lv_astore (lv' := [(4, .ref q9), (0, .ref (q 0)), (1, .int x1), (2, .int x2), (3, .int x3)]) X.1 X.2.1 dL_start_14 hl (by decide) rfl (fun ls hl => ?_)
      refine lv_iconst (v := 2) X.1 X.2.1 dL_start_16 (by decide) ?_
      exact rt_h (o := o) (σ := u.2) X hlk hr hI hF dL_start_17
    replace hF := fb_neg k1 hF
    cases hF
  · replace hF := fb_pos hk hF
    refine lv_goto (tgt := 18) X.1 X.2.1 dL_start_7 (by decide) ?_
    refine lv_iconst (v := 0) X.1 X.2.1 dL_start_18 (by decide) ?_
    exact rt_h (o := o) (σ := u.2) X hlk hr hI hF dL_start_19
theorem ml_L_31 : Cond.methodLink RL 31 yX4_step ∈ tb := tb_in (List.mem_of_getElem? (i := 404) (by decide +kernel)) (by decide +kernel)
abbrev rm_L_step : Room := { frames := 7, cells := 1, slots := 6, locals := 170 }
def f_L_step (x1 : Int32) (σ : St) (o : Int32) : Option Rh :=
  (f_X4_step x1 σ).bind fun u =>
  if u.1.1 = 0 then some (0, (u.2, u.1.2))
  else if u.1.1 = 2 then some (1, (u.2, o))
  else if u.1.1 = 1 then some (2, (u.2, o))
  else none
set_option maxHeartbeats 4000000 in
set_option maxRecDepth 100000 in
theorem m_L_step (l : Launch) (hst : l.stackTraces = false) (D : va_G) (ty : Nat → ClassId) (q : Nat → Nat) (σ : St) (o : Int32) (sz : Nat) (x1 : Int32) {res : Rh} (hF : f_L_step x1 σ o = some res) : Met l yL_step (wsh yL_step cL_step 4 (some .int) [(0, 9, 12, 29), (0, 9, 15, 13)]) rm_L_step (Pcw D ty (FxD q) (wH ty q o σ) sz [.ref (q 0), .int x1, .ref (q 23)]) (Qih D ty q (va_A (wH ty q o σ) sz) res) 1 6 (va_A (wH ty q o σ) sz) := by
  refine en_h (Qc := fun A => Qih D ty q A res) (by decide) (Nat.le_of_ble_eq_true rfl) ?_
  intro p e s m args below meth c A X hlk hr htb H locs hI ls hl
  have X : CallFix p m c cL_step 4 s args tb RL := X
  have hl : lv_has ls 4 [(0, .ref (q 0)), (1, .int x1), (2, .ref (q 23))] := hl
  unfold f_L_step at hF
  obtain ⟨u, h, hF⟩ := fb_bnd hF
  refine lv_aload_n X.1 X.2.1 dL_step_0 rfl (lv_at hl 2 rfl) ?_
  refine lv_iconst (v := 0) X.1 X.2.1 dL_step_1 (by decide) ?_
  refine lv_aload_n X.1 X.2.1 dL_step_2 rfl (lv_at hl 0 rfl) ?_
  refine lv_iload_n X.1 X.2.1 dL_step_3 rfl (lv_at hl 1 rfl) ?_
  refine cv_h (a := []) (b := wC ty q) (σ := σ) (c0 := [(q 23, .inl (ty 4, 1, .inr (.inl (up0 o))))]) (rest := [.int 0, .ref (q 23)]) X (fxD q) (fun _ _ _ h => h) hI (m_X4_step l hst D ty q σ _ x1 h) ok_X4_step ml_L_31 ⟨rfl, rfl, Nat.le_of_ble_eq_true rfl, Nat.le_of_ble_eq_true rfl⟩ 0 rc_X4 rfl rfl hl.1 rfl (Nat.le_of_ble_eq_true rfl) ⟨Nat.le_of_ble_eq_true rfl, Nat.le_of_ble_eq_true rfl⟩ dL_step_4 (fun hk H locs q9 ce hI hce hcv hcl => ?_) (fun hk H locs hI => ?_)
  · replace hF := fb_neg hk hF
    have hG : Gx A s s.heap := hI.2.2.2.2.2.2
    by_cases k0 : u.1.1 = 2
    · replace hF := fb_pos k0 hF
      rw [k0] at hcl
      refine ct_1 (x := ⟨0, 9, 12, 29⟩) (suf := [⟨0, 9, 15, 13⟩]) X hG (htb.trans rfl) rfl (by decide) cl_L_29 cst_2 hce hcv hcl ?_
      refine lv_astore_n (lv' := [(3, .ref q9), (0, .ref (q 0)), (1, .int x1), (2, .ref (q 23))]) X.1 X.2.1 dL_step_12 rfl hl (by decide) rfl (fun ls hl => ?_)
      refine lv_iconst (v := 1) X.1 X.2.1 dL_step_13 (by decide) ?_
      exact rt_h (o := o) (σ := u.2) X hlk hr hI hF dL_step_14
    replace hF := fb_neg k0 hF
    by_cases k1 : u.1.1 = 1
    · replace hF := fb_pos k1 hF
      rw [k1] at hcl
      refine ct_2 (x1 := ⟨0, 9, 12, 29⟩) (x := ⟨0, 9, 15, 13⟩) (suf := []) X hG (htb.trans rfl) (by decide) cl_L_29 hG.2.2.2.2.2.2 rfl (by decide) cl_L_13 cst_1 hce hcv hcl ?_
      refine lv_astore_n (lv' := [(3, .ref q9), (0, .ref (q 0)), (1, .int x1), (2, .ref (q 23))]) X.1 X.2.1 dL_step_15 rfl hl (by decide) rfl (fun ls hl => ?_)
      refine lv_iconst (v := 2) X.1 X.2.1 dL_step_16 (by decide) ?_
      exact rt_h (o := o) (σ := u.2) X hlk hr hI hF dL_step_17
    replace hF := fb_neg k1 hF
    cases hF
  · replace hF := fb_pos hk hF
    refine lv_i2l (v := u.1.2.toInt64) X.1 X.2.1 dL_step_7 rfl ?_
    refine st_out (o := o) (σ := u.2) X hI dL_step_8 (fun H locs hI => ?_)
    refine lv_goto (tgt := 18) X.1 X.2.1 dL_step_9 (by decide) ?_
    refine lv_iconst (v := 0) X.1 X.2.1 dL_step_18 (by decide) ?_
    exact rt_h (o := u.1.2) (σ := u.2) X hlk hr hI hF dL_step_19
theorem ml_L_34 : Cond.methodLink RL 34 yX4_look ∈ tb := tb_in (List.mem_of_getElem? (i := 528) (by decide +kernel)) (by decide +kernel)
abbrev rm_L_look : Room := { frames := 7, cells := 1, slots := 6, locals := 111 }
def f_L_look (x1 : Int32) (σ : St) (o : Int32) : Option Rh :=
  (f_X4_look x1 σ).bind fun u =>
  if u.1.1 = 0 then some (0, (u.2, u.1.2))
  else if u.1.1 = 1 then some (1, (u.2, o))
  else none
set_option maxHeartbeats 4000000 in
set_option maxRecDepth 100000 in
theorem m_L_look (l : Launch) (hst : l.stackTraces = false) (D : va_G) (ty : Nat → ClassId) (q : Nat → Nat) (σ : St) (o : Int32) (sz : Nat) (x1 : Int32) {res : Rh} (hF : f_L_look x1 σ o = some res) : Met l yL_look (wsh yL_look cL_look 4 (some .int) [(0, 9, 12, 13)]) rm_L_look (Pcw D ty (FxD q) (wH ty q o σ) sz [.ref (q 0), .int x1, .ref (q 23)]) (Qih D ty q (va_A (wH ty q o σ) sz) res) 1 6 (va_A (wH ty q o σ) sz) := by
  refine en_h (Qc := fun A => Qih D ty q A res) (by decide) (Nat.le_of_ble_eq_true rfl) ?_
  intro p e s m args below meth c A X hlk hr htb H locs hI ls hl
  have X : CallFix p m c cL_look 4 s args tb RL := X
  have hl : lv_has ls 4 [(0, .ref (q 0)), (1, .int x1), (2, .ref (q 23))] := hl
  unfold f_L_look at hF
  obtain ⟨u, h, hF⟩ := fb_bnd hF
  refine lv_aload_n X.1 X.2.1 dL_look_0 rfl (lv_at hl 2 rfl) ?_
  refine lv_iconst (v := 0) X.1 X.2.1 dL_look_1 (by decide) ?_
  refine lv_aload_n X.1 X.2.1 dL_look_2 rfl (lv_at hl 0 rfl) ?_
  refine lv_iload_n X.1 X.2.1 dL_look_3 rfl (lv_at hl 1 rfl) ?_
  refine cv_h (a := []) (b := wC ty q) (σ := σ) (c0 := [(q 23, .inl (ty 4, 1, .inr (.inl (up0 o))))]) (rest := [.int 0, .ref (q 23)]) X (fxD q) (fun _ _ _ h => h) hI (m_X4_look l hst D ty q σ _ x1 h) ok_X4_look ml_L_34 ⟨rfl, rfl, Nat.le_of_ble_eq_true rfl, Nat.le_of_ble_eq_true rfl⟩ 0 rc_X4 rfl rfl hl.1 rfl (Nat.le_of_ble_eq_true rfl) ⟨Nat.le_of_ble_eq_true rfl, Nat.le_of_ble_eq_true rfl⟩ dL_look_4 (fun hk H locs q9 ce hI hce hcv hcl => ?_) (fun hk H locs hI => ?_)
  · replace hF := fb_neg hk hF
    have hG : Gx A s s.heap := hI.2.2.2.2.2.2
    by_cases k0 : u.1.1 = 1
    · replace hF := fb_pos k0 hF
      rw [k0] at hcl
      refine ct_1 (x := ⟨0, 9, 12, 13⟩) (suf := []) X hG (htb.trans rfl) rfl (by decide) cl_L_13 cst_1 hce hcv hcl ?_
      refine lv_astore_n (lv' := [(3, .ref q9), (0, .ref (q 0)), (1, .int x1), (2, .ref (q 23))]) X.1 X.2.1 dL_look_12 rfl hl (by decide) rfl (fun ls hl => ?_)
      refine lv_iconst (v := 1) X.1 X.2.1 dL_look_13 (by decide) ?_
      exact rt_h (o := o) (σ := u.2) X hlk hr hI hF dL_look_14
    replace hF := fb_neg k0 hF
    cases hF
  · replace hF := fb_pos hk hF
    refine lv_i2l (v := u.1.2.toInt64) X.1 X.2.1 dL_look_7 rfl ?_
    refine st_out (o := o) (σ := u.2) X hI dL_look_8 (fun H locs hI => ?_)
    refine lv_goto (tgt := 15) X.1 X.2.1 dL_look_9 (by decide) ?_
    refine lv_iconst (v := 0) X.1 X.2.1 dL_look_15 (by decide) ?_
    exact rt_h (o := u.1.2) (σ := u.2) X hlk hr hI hF dL_look_16
theorem ml_L_37 : Cond.methodLink RL 37 yX4_state ∈ tb := tb_in (List.mem_of_getElem? (i := 556) (by decide +kernel)) (by decide +kernel)
abbrev rm_L_state : Room := { frames := 8, cells := 1, slots := 6, locals := 131 }
def f_L_state (x1 : Int32) (σ : St) (o : Int32) : Option Rh :=
  (f_X4_state x1 σ).bind fun u =>
  if u.1.1 = 0 then some (0, (u.2, u.1.2))
  else if u.1.1 = 1 then some (1, (u.2, o))
  else none
set_option maxHeartbeats 4000000 in
set_option maxRecDepth 100000 in
theorem m_L_state (l : Launch) (hst : l.stackTraces = false) (D : va_G) (ty : Nat → ClassId) (q : Nat → Nat) (σ : St) (o : Int32) (sz : Nat) (x1 : Int32) {res : Rh} (hF : f_L_state x1 σ o = some res) : Met l yL_state (wsh yL_state cL_state 4 (some .int) [(0, 9, 12, 13)]) rm_L_state (Pcw D ty (FxD q) (wH ty q o σ) sz [.ref (q 0), .int x1, .ref (q 23)]) (Qih D ty q (va_A (wH ty q o σ) sz) res) 1 6 (va_A (wH ty q o σ) sz) := by
  refine en_h (Qc := fun A => Qih D ty q A res) (by decide) (Nat.le_of_ble_eq_true rfl) ?_
  intro p e s m args below meth c A X hlk hr htb H locs hI ls hl
  have X : CallFix p m c cL_state 4 s args tb RL := X
  have hl : lv_has ls 4 [(0, .ref (q 0)), (1, .int x1), (2, .ref (q 23))] := hl
  unfold f_L_state at hF
  obtain ⟨u, h, hF⟩ := fb_bnd hF
  refine lv_aload_n X.1 X.2.1 dL_state_0 rfl (lv_at hl 2 rfl) ?_
  refine lv_iconst (v := 0) X.1 X.2.1 dL_state_1 (by decide) ?_
  refine lv_aload_n X.1 X.2.1 dL_state_2 rfl (lv_at hl 0 rfl) ?_
  refine lv_iload_n X.1 X.2.1 dL_state_3 rfl (lv_at hl 1 rfl) ?_
  refine cv_h (a := []) (b := wC ty q) (σ := σ) (c0 := [(q 23, .inl (ty 4, 1, .inr (.inl (up0 o))))]) (rest := [.int 0, .ref (q 23)]) X (fxD q) (fun _ _ _ h => h) hI (m_X4_state l hst D ty q σ _ x1 h) ok_X4_state ml_L_37 ⟨rfl, rfl, Nat.le_of_ble_eq_true rfl, Nat.le_of_ble_eq_true rfl⟩ 0 rc_X4 rfl rfl hl.1 rfl (Nat.le_of_ble_eq_true rfl) ⟨Nat.le_of_ble_eq_true rfl, Nat.le_of_ble_eq_true rfl⟩ dL_state_4 (fun hk H locs q9 ce hI hce hcv hcl => ?_) (fun hk H locs hI => ?_)
  · replace hF := fb_neg hk hF
    have hG : Gx A s s.heap := hI.2.2.2.2.2.2
    by_cases k0 : u.1.1 = 1
    · replace hF := fb_pos k0 hF
      rw [k0] at hcl
      refine ct_1 (x := ⟨0, 9, 12, 13⟩) (suf := []) X hG (htb.trans rfl) rfl (by decide) cl_L_13 cst_1 hce hcv hcl ?_
      refine lv_astore_n (lv' := [(3, .ref q9), (0, .ref (q 0)), (1, .int x1), (2, .ref (q 23))]) X.1 X.2.1 dL_state_12 rfl hl (by decide) rfl (fun ls hl => ?_)
      refine lv_iconst (v := 1) X.1 X.2.1 dL_state_13 (by decide) ?_
      exact rt_h (o := o) (σ := u.2) X hlk hr hI hF dL_state_14
    replace hF := fb_neg k0 hF
    cases hF
  · replace hF := fb_pos hk hF
    refine lv_i2l (v := u.1.2.toInt64) X.1 X.2.1 dL_state_7 rfl ?_
    refine st_out (o := o) (σ := u.2) X hI dL_state_8 (fun H locs hI => ?_)
    refine lv_goto (tgt := 15) X.1 X.2.1 dL_state_9 (by decide) ?_
    refine lv_iconst (v := 0) X.1 X.2.1 dL_state_15 (by decide) ?_
    exact rt_h (o := u.1.2) (σ := u.2) X hlk hr hI hF dL_state_16
theorem ml_L_40 : Cond.methodLink RL 40 yX4_out ∈ tb := tb_in (List.mem_of_getElem? (i := 569) (by decide +kernel)) (by decide +kernel)
abbrev rm_L_out : Room := { frames := 7, cells := 1, slots := 6, locals := 111 }
def f_L_out (x1 : Int32) (σ : St) (o : Int32) : Option Rh :=
  (f_X4_out x1 σ).bind fun u =>
  if u.1.1 = 0 then some (0, (u.2, u.1.2))
  else if u.1.1 = 3 then some (1, (u.2, o))
  else none
set_option maxHeartbeats 4000000 in
set_option maxRecDepth 100000 in
theorem m_L_out (l : Launch) (hst : l.stackTraces = false) (D : va_G) (ty : Nat → ClassId) (q : Nat → Nat) (σ : St) (o : Int32) (sz : Nat) (x1 : Int32) {res : Rh} (hF : f_L_out x1 σ o = some res) : Met l yL_out (wsh yL_out cL_out 4 (some .int) [(0, 9, 12, 15)]) rm_L_out (Pcw D ty (FxD q) (wH ty q o σ) sz [.ref (q 0), .int x1, .ref (q 23)]) (Qih D ty q (va_A (wH ty q o σ) sz) res) 1 6 (va_A (wH ty q o σ) sz) := by
  refine en_h (Qc := fun A => Qih D ty q A res) (by decide) (Nat.le_of_ble_eq_true rfl) ?_
  intro p e s m args below meth c A X hlk hr htb H locs hI ls hl
  have X : CallFix p m c cL_out 4 s args tb RL := X
  have hl : lv_has ls 4 [(0, .ref (q 0)), (1, .int x1), (2, .ref (q 23))] := hl
  unfold f_L_out at hF
  obtain ⟨u, h, hF⟩ := fb_bnd hF
  refine lv_aload_n X.1 X.2.1 dL_out_0 rfl (lv_at hl 2 rfl) ?_
  refine lv_iconst (v := 0) X.1 X.2.1 dL_out_1 (by decide) ?_
  refine lv_aload_n X.1 X.2.1 dL_out_2 rfl (lv_at hl 0 rfl) ?_
  refine lv_iload_n X.1 X.2.1 dL_out_3 rfl (lv_at hl 1 rfl) ?_
  refine cv_h (a := []) (b := wC ty q) (σ := σ) (c0 := [(q 23, .inl (ty 4, 1, .inr (.inl (up0 o))))]) (rest := [.int 0, .ref (q 23)]) X (fxD q) (fun _ _ _ h => h) hI (m_X4_out l hst D ty q σ _ x1 h) ok_X4_out ml_L_40 ⟨rfl, rfl, Nat.le_of_ble_eq_true rfl, Nat.le_of_ble_eq_true rfl⟩ 0 rc_X4 rfl rfl hl.1 rfl (Nat.le_of_ble_eq_true rfl) ⟨Nat.le_of_ble_eq_true rfl, Nat.le_of_ble_eq_true rfl⟩ dL_out_4 (fun hk H locs q9 ce hI hce hcv hcl => ?_) (fun hk H locs hI => ?_)
  · replace hF := fb_neg hk hF
    have hG : Gx A s s.heap := hI.2.2.2.2.2.2
    by_cases k0 : u.1.1 = 3
    · replace hF := fb_pos k0 hF
      rw [k0] at hcl
      refine ct_1 (x := ⟨0, 9, 12, 15⟩) (suf := []) X hG (htb.trans rfl) rfl (by decide) cl_L_15 cst_3 hce hcv hcl ?_
      refine lv_astore_n (lv' := [(3, .ref q9), (0, .ref (q 0)), (1, .int x1), (2, .ref (q 23))]) X.1 X.2.1 dL_out_12 rfl hl (by decide) rfl (fun ls hl => ?_)
      refine lv_iconst (v := 1) X.1 X.2.1 dL_out_13 (by decide) ?_
      exact rt_h (o := o) (σ := u.2) X hlk hr hI hF dL_out_14
    replace hF := fb_neg k0 hF
    cases hF
  · replace hF := fb_pos hk hF
    refine lv_i2l (v := u.1.2.toInt64) X.1 X.2.1 dL_out_7 rfl ?_
    refine st_out (o := o) (σ := u.2) X hI dL_out_8 (fun H locs hI => ?_)
    refine lv_goto (tgt := 15) X.1 X.2.1 dL_out_9 (by decide) ?_
    refine lv_iconst (v := 0) X.1 X.2.1 dL_out_15 (by decide) ?_
    exact rt_h (o := u.1.2) (σ := u.2) X hlk hr hI hF dL_out_16
