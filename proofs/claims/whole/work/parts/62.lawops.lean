section Lo
variable {p : Program} {l : Launch} {e : Env} {s : State} {m : MethodId} {below : List Frame} {meth : Method} {c : Code} {H : Heap} {locs : List Loc} {cells slots : Nat} {Q : State → Prop}
variable {ls : Array Slot} {D : va_G} {ty : Nat → ClassId} {q r : Nat → Nat} {σ τ : St} {o : Int32} {b L : Nat} {xs : Nat → Int32}

set_option maxHeartbeats 4000000 in
set_option maxRecDepth 100000 in
theorem lo_code (X : CallFix p m c cL_law 7 s #[Value.ref b] tb RL) (hst : l.stackTraces = false) (hX : va_X b L xs s s.heap) (hbl : b < s.heap.size) {i : Nat} (hi : i + 4 ≤ L) (hL : L ≤ 2048) (hc1 : cells + 2 ≤ 601024) (hc2 : slots + 12 ≤ 7293034) (hI : Inw D ty (FxD q) (wL ty q r o σ τ) (fun z : Nat => s.heap.size ≤ z) s H locs) (hR : Rel σ τ) (hl : lv_has ls 7 [(0, .ref b), (1, .ref (q 0)), (2, .ref (r 0)), (3, .ref (q 23)), (4, .int (nI i))]) (hB : ∀ (σ τ : St) (o : Int32) (H : Heap) (locs : List Loc) (ls : Array Slot), Rel σ τ → Inw D ty (FxD q) (wL ty q r o σ τ) (fun z : Nat => s.heap.size ≤ z) s H locs → lv_has ls 7 [(0, .ref b), (1, .ref (q 0)), (2, .ref (r 0)), (3, .ref (q 23)), (4, .int (nI i))] → W p l e room_1 s m #[Value.ref b] below meth c H locs (cells + 2) (slots + 12) Q (F0 m 571 ls [])) : W p l e room_1 s m #[Value.ref b] below meth c H locs cells slots Q (F0 m 88 ls []) := by
  have hbA : ¬ (fun z : Nat => s.heap.size ≤ z) b := Nat.not_le.mpr hbl
  have hk1 : vp_in (nI i + 1) L := by
    show vp_in (nI i + nI 1) L
    rw [nI_add]
    exact vp_in_nI (by omega) (by omega)
  have hk2 : vp_in (nI i + 2) L := by
    show vp_in (nI i + nI 2) L
    rw [nI_add]
    exact vp_in_nI (by omega) (by omega)
  have hk3 : vp_in (nI i + 3) L := by
    show vp_in (nI i + nI 3) L
    rw [nI_add]
    exact vp_in_nI (by omega) (by omega)
  refine lv_aload_n X.1 X.2.1 dL_law_88 rfl (lv_at hl 1 rfl) ?_
  refine lv_aload_n X.1 X.2.1 dL_law_89 rfl (lv_at hl 0 rfl) ?_
  refine lv_iload X.1 X.2.1 dL_law_90 (lv_at hl 4 rfl) ?_
  refine lv_iconst (v := 1) X.1 X.2.1 dL_law_92 (by decide) ?_
  refine lv_iadd X.1 X.2.1 dL_law_93 ?_
  refine va_sld X.1 X.2.1 hX hbl hbA hI.2.2.2.1 hk1 dL_law_94 ?_
  refine lv_aload_n X.1 X.2.1 dL_law_95 rfl (lv_at hl 0 rfl) ?_
  refine lv_iload X.1 X.2.1 dL_law_96 (lv_at hl 4 rfl) ?_
  refine lv_iconst (v := 2) X.1 X.2.1 dL_law_98 (by decide) ?_
  refine lv_iadd X.1 X.2.1 dL_law_99 ?_
  refine va_sld X.1 X.2.1 hX hbl hbA hI.2.2.2.1 hk2 dL_law_100 ?_
  refine lv_i2b (v := (xs (nI i + 2).toNatClampNeg).toInt8.toInt32) X.1 X.2.1 dL_law_101 rfl ?_
  refine lv_aload_n X.1 X.2.1 dL_law_102 rfl (lv_at hl 3 rfl) ?_
  obtain ⟨k, σ1, o1, r1, τ1, e1, e2, e3, e4, hR1⟩ := a_code hR (xs (nI i + 1).toNatClampNeg) ((xs (nI i + 2).toNatClampNeg).toInt8.toInt32) o (pk_vb _)
  refine sh_i (a := []) (q := q) (o := o) (σ := σ) (c0 := wM ty r τ) (res := (k, (σ1, o1))) (rest := []) X (fxD q) (fun _ _ _ h => h) hI (m_L_code l hst D ty q σ o _ (xs (nI i + 1).toNatClampNeg) ((xs (nI i + 2).toNatClampNeg).toInt8.toInt32) e1) oh_code ll_47 ⟨rfl, rfl, Nat.le_of_ble_eq_true rfl, Nat.le_of_ble_eq_true rfl⟩ rfl hl.1 rfl (Nat.le_of_ble_eq_true rfl) ⟨by show cells + 2 ≤ 601024; omega, by show slots + 12 ≤ 7293034; omega⟩ dL_law_103 (fun H locs hI => ?_)
  refine lv_istore (lv' := [(5, .int k), (0, .ref b), (1, .ref (q 0)), (2, .ref (r 0)), (3, .ref (q 23)), (4, .int (nI i))]) X.1 X.2.1 dL_law_106 hl (by decide) rfl (fun ls hl => ?_)
  refine lv_aload_n X.1 X.2.1 dL_law_108 rfl (lv_at hl 3 rfl) ?_
  refine lv_aload_n X.1 X.2.1 dL_law_109 rfl (lv_at hl 1 rfl) ?_
  refine lv_iload X.1 X.2.1 dL_law_110 (lv_at hl 5 rfl) ?_
  refine lv_iconst (v := 1) X.1 X.2.1 dL_law_112 (by decide) ?_
  refine lv_iadd X.1 X.2.1 dL_law_113 ?_
  refine va_sld X.1 X.2.1 hX hbl hbA hI.2.2.2.1 hk1 dL_law_114 ?_
  refine lv_aload_n X.1 X.2.1 dL_law_115 rfl (lv_at hl 1 rfl) ?_
  refine lv_iload X.1 X.2.1 dL_law_116 (lv_at hl 5 rfl) ?_
  refine lv_iconst (v := 2) X.1 X.2.1 dL_law_118 (by decide) ?_
  refine lv_iadd X.1 X.2.1 dL_law_119 ?_
  refine va_sld X.1 X.2.1 hX hbl hbA hI.2.2.2.1 hk2 dL_law_120 ?_
  refine lv_i2b (v := (xs (nI i + 2).toNatClampNeg).toInt8.toInt32) X.1 X.2.1 dL_law_121 rfl ?_
  replace hI : Inw D ty (FxD q) (((([] : va_W) ++ wH ty q o1 σ1) ++ wM ty r τ) ++ []) (fun z : Nat => s.heap.size ≤ z) s H locs := by
    rw [List.append_nil]
    exact hI
  refine sb_i (a := ([] : va_W) ++ wH ty q o1 σ1) (b := wM ty r) (σ := τ) (c0 := []) (res := (r1, τ1)) (rest := []) X fxM (fun _ _ _ _ => trivial) hI (m_X5_code l D ty r τ _ (xs (nI i + 1).toNatClampNeg) ((xs (nI i + 2).toNatClampNeg).toInt8.toInt32) e2) ok_X5_code ll_52 ⟨rfl, rfl, Nat.le_of_ble_eq_true rfl, Nat.le_of_ble_eq_true rfl⟩ 0 rc_X5 rfl rfl hl.1 rfl (Nat.le_of_ble_eq_true rfl) ⟨by show cells + 2 ≤ 601024; omega, by show slots + 12 ≤ 7293034; omega⟩ dL_law_122 (fun H locs hI => ?_)
  replace hI : Inw D ty (FxD q) ((([] : va_W) ++ wH ty q o1 σ1) ++ wM ty r τ1) (fun z : Nat => s.heap.size ≤ z) s H locs := by
    have h9 := hI
    rw [List.append_nil] at h9
    exact h9
  refine lv_istore (lv' := [(6, .int r1), (5, .int k), (0, .ref b), (1, .ref (q 0)), (2, .ref (r 0)), (3, .ref (q 23)), (4, .int (nI i))]) X.1 X.2.1 dL_law_125 hl (by decide) rfl (fun ls hl => ?_)
  refine lv_aload_n X.1 X.2.1 dL_law_127 rfl (lv_at hl 4 rfl) ?_
  replace hI : Inw D ty (FxD q) (((([] : va_W) ++ wH ty q o1 σ1) ++ wM ty r τ1) ++ []) (fun z : Nat => s.heap.size ≤ z) s H locs := by
    rw [List.append_nil]
    exact hI
  refine sb_i (a := ([] : va_W) ++ wH ty q o1 σ1) (b := wM ty r) (σ := τ1) (c0 := []) (res := (gI τ1 0, τ1)) (rest := []) X fxM (fun _ _ _ _ => trivial) hI (m_X5_thrown l D ty r τ1 _ rfl) ok_X5_thrown ll_53 ⟨rfl, rfl, Nat.le_of_ble_eq_true rfl, Nat.le_of_ble_eq_true rfl⟩ 0 rc_X5 rfl rfl hl.1 rfl (Nat.le_of_ble_eq_true rfl) ⟨by show cells + 2 ≤ 601024; omega, by show slots + 12 ≤ 7293034; omega⟩ dL_law_128 (fun H locs hI => ?_)
  replace hI : Inw D ty (FxD q) ((([] : va_W) ++ wH ty q o1 σ1) ++ wM ty r τ1) (fun z : Nat => s.heap.size ≤ z) s H locs := by
    have h9 := hI
    rw [List.append_nil] at h9
    exact h9
  refine lv_iload X.1 X.2.1 dL_law_131 (lv_at hl 1 rfl) ?_
  refine lv_icmp_eq (tgt := 138) X.1 X.2.1 dL_law_133 (by decide) (fun _ => ?_) (fun c9 => absurd e3 c9)
  refine lv_iload X.1 X.2.1 dL_law_138 (lv_at hl 1 rfl) ?_
  have hE : W p l e room_1 s m #[Value.ref b] below meth c H locs (cells + 2) (slots + 12) Q (F0 m 155 ls []) := by
    refine lv_goto (tgt := 571) X.1 X.2.1 dL_law_155 (by decide) ?_
    exact W.widen (by omega) (by omega) (hB σ1 τ1 o1 _ _ ls hR1 hI (lv_sub hl [2, 3, 4, 5, 6] rfl))
  refine lv_if_ne (tgt := 155) X.1 X.2.1 dL_law_140 (by decide) (fun _ => hE) (fun c8 => ?_)
  refine lv_aload_n X.1 X.2.1 dL_law_143 rfl (lv_at hl 5 rfl) ?_
  refine lv_iconst (v := 0) X.1 X.2.1 dL_law_144 (by decide) ?_
  refine va_lald X.1 X.2.1 hI.1 hI.2.1 21 4 (f := up0 o1) rfl rfl (i := 0) (pk_in 0 1 (by decide) rfl (by decide)) dL_law_145 ?_
  rw [up3]
  refine lv_iload X.1 X.2.1 dL_law_146 (lv_at hl 0 rfl) ?_
  refine lv_i2l (v := r1.toInt64) X.1 X.2.1 dL_law_148 rfl ?_
  refine W.lcmp X.1 X.2.1 dL_law_149 ?_
  refine lv_if_eq (tgt := 155) X.1 X.2.1 dL_law_150 (by decide) (fun _ => hE) (fun c7 => absurd (by rw [e4 c8]; exact lg_same _) c7)
set_option maxHeartbeats 4000000 in
set_option maxRecDepth 100000 in
theorem lo_clear (X : CallFix p m c cL_law 7 s #[Value.ref b] tb RL) (hst : l.stackTraces = false) (hX : va_X b L xs s s.heap) (hbl : b < s.heap.size) {i : Nat} (hi : i + 4 ≤ L) (hL : L ≤ 2048) (hc1 : cells + 2 ≤ 601024) (hc2 : slots + 12 ≤ 7293034) (hI : Inw D ty (FxD q) (wL ty q r o σ τ) (fun z : Nat => s.heap.size ≤ z) s H locs) (hR : Rel σ τ) (hl : lv_has ls 7 [(0, .ref b), (1, .ref (q 0)), (2, .ref (r 0)), (3, .ref (q 23)), (4, .int (nI i))]) (hB : ∀ (σ τ : St) (o : Int32) (H : Heap) (locs : List Loc) (ls : Array Slot), Rel σ τ → Inw D ty (FxD q) (wL ty q r o σ τ) (fun z : Nat => s.heap.size ≤ z) s H locs → lv_has ls 7 [(0, .ref b), (1, .ref (q 0)), (2, .ref (r 0)), (3, .ref (q 23)), (4, .int (nI i))] → W p l e room_1 s m #[Value.ref b] below meth c H locs (cells + 2) (slots + 12) Q (F0 m 571 ls [])) : W p l e room_1 s m #[Value.ref b] below meth c H locs cells slots Q (F0 m 158 ls []) := by
  have hbA : ¬ (fun z : Nat => s.heap.size ≤ z) b := Nat.not_le.mpr hbl
  have hk1 : vp_in (nI i + 1) L := by
    show vp_in (nI i + nI 1) L
    rw [nI_add]
    exact vp_in_nI (by omega) (by omega)
  have hk2 : vp_in (nI i + 2) L := by
    show vp_in (nI i + nI 2) L
    rw [nI_add]
    exact vp_in_nI (by omega) (by omega)
  have hk3 : vp_in (nI i + 3) L := by
    show vp_in (nI i + nI 3) L
    rw [nI_add]
    exact vp_in_nI (by omega) (by omega)
  refine lv_aload_n X.1 X.2.1 dL_law_158 rfl (lv_at hl 1 rfl) ?_
  refine lv_aload_n X.1 X.2.1 dL_law_159 rfl (lv_at hl 0 rfl) ?_
  refine lv_iload X.1 X.2.1 dL_law_160 (lv_at hl 4 rfl) ?_
  refine lv_iconst (v := 1) X.1 X.2.1 dL_law_162 (by decide) ?_
  refine lv_iadd X.1 X.2.1 dL_law_163 ?_
  refine va_sld X.1 X.2.1 hX hbl hbA hI.2.2.2.1 hk1 dL_law_164 ?_
  obtain ⟨k, σ1, o1, r1, τ1, e1, e2, e3, hR1⟩ := a_clear hR (xs (nI i + 1).toNatClampNeg) o
  refine sh_i (a := []) (q := q) (o := o) (σ := σ) (c0 := wM ty r τ) (res := (k, (σ1, o1))) (rest := []) X (fxD q) (fun _ _ _ h => h) hI (m_L_clear l hst D ty q σ o _ (xs (nI i + 1).toNatClampNeg) e1) oh_clear ll_57 ⟨rfl, rfl, Nat.le_of_ble_eq_true rfl, Nat.le_of_ble_eq_true rfl⟩ rfl hl.1 rfl (Nat.le_of_ble_eq_true rfl) ⟨by show cells + 1 ≤ 601024; omega, by show slots + 6 ≤ 7293034; omega⟩ dL_law_165 (fun H locs hI => ?_)
  refine lv_istore (lv' := [(5, .int k), (0, .ref b), (1, .ref (q 0)), (2, .ref (r 0)), (3, .ref (q 23)), (4, .int (nI i))]) X.1 X.2.1 dL_law_168 hl (by decide) rfl (fun ls hl => ?_)
  refine lv_aload_n X.1 X.2.1 dL_law_170 rfl (lv_at hl 3 rfl) ?_
  refine lv_aload_n X.1 X.2.1 dL_law_171 rfl (lv_at hl 1 rfl) ?_
  refine lv_iload X.1 X.2.1 dL_law_172 (lv_at hl 5 rfl) ?_
  refine lv_iconst (v := 1) X.1 X.2.1 dL_law_174 (by decide) ?_
  refine lv_iadd X.1 X.2.1 dL_law_175 ?_
  refine va_sld X.1 X.2.1 hX hbl hbA hI.2.2.2.1 hk1 dL_law_176 ?_
  replace hI : Inw D ty (FxD q) (((([] : va_W) ++ wH ty q o1 σ1) ++ wM ty r τ) ++ []) (fun z : Nat => s.heap.size ≤ z) s H locs := by
    rw [List.append_nil]
    exact hI
  refine sb_v (a := ([] : va_W) ++ wH ty q o1 σ1) (b := wM ty r) (σ := τ) (c0 := []) (res := (r1, τ1)) (rest := []) X fxM (fun _ _ _ _ => trivial) hI (m_X5_clear l D ty r τ _ (xs (nI i + 1).toNatClampNeg) e2) ok_X5_clear ll_60 ⟨rfl, rfl, Nat.le_of_ble_eq_true rfl, Nat.le_of_ble_eq_true rfl⟩ 0 rc_X5 rfl rfl hl.1 rfl (Nat.le_of_ble_eq_true rfl) ⟨by show cells + 1 ≤ 601024; omega, by show slots + 6 ≤ 7293034; omega⟩ dL_law_177 (fun H locs hI => ?_)
  replace hI : Inw D ty (FxD q) ((([] : va_W) ++ wH ty q o1 σ1) ++ wM ty r τ1) (fun z : Nat => s.heap.size ≤ z) s H locs := by
    have h9 := hI
    rw [List.append_nil] at h9
    exact h9
  refine lv_aload_n X.1 X.2.1 dL_law_180 rfl (lv_at hl 3 rfl) ?_
  replace hI : Inw D ty (FxD q) (((([] : va_W) ++ wH ty q o1 σ1) ++ wM ty r τ1) ++ []) (fun z : Nat => s.heap.size ≤ z) s H locs := by
    rw [List.append_nil]
    exact hI
  refine sb_i (a := ([] : va_W) ++ wH ty q o1 σ1) (b := wM ty r) (σ := τ1) (c0 := []) (res := (gI τ1 0, τ1)) (rest := []) X fxM (fun _ _ _ _ => trivial) hI (m_X5_thrown l D ty r τ1 _ rfl) ok_X5_thrown ll_53 ⟨rfl, rfl, Nat.le_of_ble_eq_true rfl, Nat.le_of_ble_eq_true rfl⟩ 0 rc_X5 rfl rfl hl.1 rfl (Nat.le_of_ble_eq_true rfl) ⟨by show cells + 1 ≤ 601024; omega, by show slots + 6 ≤ 7293034; omega⟩ dL_law_181 (fun H locs hI => ?_)
  replace hI : Inw D ty (FxD q) ((([] : va_W) ++ wH ty q o1 σ1) ++ wM ty r τ1) (fun z : Nat => s.heap.size ≤ z) s H locs := by
    have h9 := hI
    rw [List.append_nil] at h9
    exact h9
  refine lv_iload X.1 X.2.1 dL_law_184 (lv_at hl 0 rfl) ?_
  refine lv_icmp_eq (tgt := 191) X.1 X.2.1 dL_law_186 (by decide) (fun _ => ?_) (fun c9 => absurd e3 c9)
  refine lv_goto (tgt := 571) X.1 X.2.1 dL_law_191 (by decide) ?_
  exact W.widen (by omega) (by omega) (hB σ1 τ1 o1 _ _ ls hR1 hI (lv_sub hl [1, 2, 3, 4, 5] rfl))
set_option maxHeartbeats 4000000 in
set_option maxRecDepth 100000 in
theorem lo_good (X : CallFix p m c cL_law 7 s #[Value.ref b] tb RL) (hst : l.stackTraces = false) (hX : va_X b L xs s s.heap) (hbl : b < s.heap.size) {i : Nat} (hi : i + 4 ≤ L) (hL : L ≤ 2048) (hc1 : cells + 2 ≤ 601024) (hc2 : slots + 12 ≤ 7293034) (hI : Inw D ty (FxD q) (wL ty q r o σ τ) (fun z : Nat => s.heap.size ≤ z) s H locs) (hR : Rel σ τ) (hl : lv_has ls 7 [(0, .ref b), (1, .ref (q 0)), (2, .ref (r 0)), (3, .ref (q 23)), (4, .int (nI i))]) (hB : ∀ (σ τ : St) (o : Int32) (H : Heap) (locs : List Loc) (ls : Array Slot), Rel σ τ → Inw D ty (FxD q) (wL ty q r o σ τ) (fun z : Nat => s.heap.size ≤ z) s H locs → lv_has ls 7 [(0, .ref b), (1, .ref (q 0)), (2, .ref (r 0)), (3, .ref (q 23)), (4, .int (nI i))] → W p l e room_1 s m #[Value.ref b] below meth c H locs (cells + 2) (slots + 12) Q (F0 m 571 ls [])) : W p l e room_1 s m #[Value.ref b] below meth c H locs cells slots Q (F0 m 194 ls []) := by
  have hbA : ¬ (fun z : Nat => s.heap.size ≤ z) b := Nat.not_le.mpr hbl
  have hk1 : vp_in (nI i + 1) L := by
    show vp_in (nI i + nI 1) L
    rw [nI_add]
    exact vp_in_nI (by omega) (by omega)
  have hk2 : vp_in (nI i + 2) L := by
    show vp_in (nI i + nI 2) L
    rw [nI_add]
    exact vp_in_nI (by omega) (by omega)
  have hk3 : vp_in (nI i + 3) L := by
    show vp_in (nI i + nI 3) L
    rw [nI_add]
    exact vp_in_nI (by omega) (by omega)
  refine lv_aload_n X.1 X.2.1 dL_law_194 rfl (lv_at hl 1 rfl) ?_
  refine lv_aload_n X.1 X.2.1 dL_law_195 rfl (lv_at hl 0 rfl) ?_
  refine lv_iload X.1 X.2.1 dL_law_196 (lv_at hl 4 rfl) ?_
  refine lv_iconst (v := 1) X.1 X.2.1 dL_law_198 (by decide) ?_
  refine lv_iadd X.1 X.2.1 dL_law_199 ?_
  refine va_sld X.1 X.2.1 hX hbl hbA hI.2.2.2.1 hk1 dL_law_200 ?_
  refine lv_aload_n X.1 X.2.1 dL_law_201 rfl (lv_at hl 3 rfl) ?_
  obtain ⟨k, σ1, o1, r1, τ1, e1, e2, e3, e4, hR1⟩ := a_good hR (xs (nI i + 1).toNatClampNeg) o
  refine sh_i (a := []) (q := q) (o := o) (σ := σ) (c0 := wM ty r τ) (res := (k, (σ1, o1))) (rest := []) X (fxD q) (fun _ _ _ h => h) hI (m_L_good l hst D ty q σ o _ (xs (nI i + 1).toNatClampNeg) e1) oh_good ll_61 ⟨rfl, rfl, Nat.le_of_ble_eq_true rfl, Nat.le_of_ble_eq_true rfl⟩ rfl hl.1 rfl (Nat.le_of_ble_eq_true rfl) ⟨by show cells + 1 ≤ 601024; omega, by show slots + 6 ≤ 7293034; omega⟩ dL_law_202 (fun H locs hI => ?_)
  refine lv_istore (lv' := [(5, .int k), (0, .ref b), (1, .ref (q 0)), (2, .ref (r 0)), (3, .ref (q 23)), (4, .int (nI i))]) X.1 X.2.1 dL_law_205 hl (by decide) rfl (fun ls hl => ?_)
  refine lv_aload_n X.1 X.2.1 dL_law_207 rfl (lv_at hl 3 rfl) ?_
  refine lv_aload_n X.1 X.2.1 dL_law_208 rfl (lv_at hl 1 rfl) ?_
  refine lv_iload X.1 X.2.1 dL_law_209 (lv_at hl 5 rfl) ?_
  refine lv_iconst (v := 1) X.1 X.2.1 dL_law_211 (by decide) ?_
  refine lv_iadd X.1 X.2.1 dL_law_212 ?_
  refine va_sld X.1 X.2.1 hX hbl hbA hI.2.2.2.1 hk1 dL_law_213 ?_
  replace hI : Inw D ty (FxD q) (((([] : va_W) ++ wH ty q o1 σ1) ++ wM ty r τ) ++ []) (fun z : Nat => s.heap.size ≤ z) s H locs := by
    rw [List.append_nil]
    exact hI
  refine sb_i (a := ([] : va_W) ++ wH ty q o1 σ1) (b := wM ty r) (σ := τ) (c0 := []) (res := (r1, τ1)) (rest := []) X fxM (fun _ _ _ _ => trivial) hI (m_X5_good l D ty r τ _ (xs (nI i + 1).toNatClampNeg) e2) ok_X5_good ll_64 ⟨rfl, rfl, Nat.le_of_ble_eq_true rfl, Nat.le_of_ble_eq_true rfl⟩ 0 rc_X5 rfl rfl hl.1 rfl (Nat.le_of_ble_eq_true rfl) ⟨by show cells + 1 ≤ 601024; omega, by show slots + 6 ≤ 7293034; omega⟩ dL_law_214 (fun H locs hI => ?_)
  replace hI : Inw D ty (FxD q) ((([] : va_W) ++ wH ty q o1 σ1) ++ wM ty r τ1) (fun z : Nat => s.heap.size ≤ z) s H locs := by
    have h9 := hI
    rw [List.append_nil] at h9
    exact h9
  refine lv_istore (lv' := [(6, .int r1), (5, .int k), (0, .ref b), (1, .ref (q 0)), (2, .ref (r 0)), (3, .ref (q 23)), (4, .int (nI i))]) X.1 X.2.1 dL_law_217 hl (by decide) rfl (fun ls hl => ?_)
  refine lv_aload_n X.1 X.2.1 dL_law_219 rfl (lv_at hl 4 rfl) ?_
  replace hI : Inw D ty (FxD q) (((([] : va_W) ++ wH ty q o1 σ1) ++ wM ty r τ1) ++ []) (fun z : Nat => s.heap.size ≤ z) s H locs := by
    rw [List.append_nil]
    exact hI
  refine sb_i (a := ([] : va_W) ++ wH ty q o1 σ1) (b := wM ty r) (σ := τ1) (c0 := []) (res := (gI τ1 0, τ1)) (rest := []) X fxM (fun _ _ _ _ => trivial) hI (m_X5_thrown l D ty r τ1 _ rfl) ok_X5_thrown ll_53 ⟨rfl, rfl, Nat.le_of_ble_eq_true rfl, Nat.le_of_ble_eq_true rfl⟩ 0 rc_X5 rfl rfl hl.1 rfl (Nat.le_of_ble_eq_true rfl) ⟨by show cells + 1 ≤ 601024; omega, by show slots + 6 ≤ 7293034; omega⟩ dL_law_220 (fun H locs hI => ?_)
  replace hI : Inw D ty (FxD q) ((([] : va_W) ++ wH ty q o1 σ1) ++ wM ty r τ1) (fun z : Nat => s.heap.size ≤ z) s H locs := by
    have h9 := hI
    rw [List.append_nil] at h9
    exact h9
  refine lv_iload X.1 X.2.1 dL_law_223 (lv_at hl 1 rfl) ?_
  refine lv_icmp_eq (tgt := 230) X.1 X.2.1 dL_law_225 (by decide) (fun _ => ?_) (fun c9 => absurd e3 c9)
  refine lv_iload X.1 X.2.1 dL_law_230 (lv_at hl 1 rfl) ?_
  have hE : W p l e room_1 s m #[Value.ref b] below meth c H locs (cells + 1) (slots + 6) Q (F0 m 247 ls []) := by
    refine lv_goto (tgt := 571) X.1 X.2.1 dL_law_247 (by decide) ?_
    exact W.widen (by omega) (by omega) (hB σ1 τ1 o1 _ _ ls hR1 hI (lv_sub hl [2, 3, 4, 5, 6] rfl))
  refine lv_if_ne (tgt := 247) X.1 X.2.1 dL_law_232 (by decide) (fun _ => hE) (fun c8 => ?_)
  refine lv_aload_n X.1 X.2.1 dL_law_235 rfl (lv_at hl 5 rfl) ?_
  refine lv_iconst (v := 0) X.1 X.2.1 dL_law_236 (by decide) ?_
  refine va_lald X.1 X.2.1 hI.1 hI.2.1 21 4 (f := up0 o1) rfl rfl (i := 0) (pk_in 0 1 (by decide) rfl (by decide)) dL_law_237 ?_
  rw [up3]
  refine lv_iload X.1 X.2.1 dL_law_238 (lv_at hl 0 rfl) ?_
  refine lv_i2l (v := r1.toInt64) X.1 X.2.1 dL_law_240 rfl ?_
  refine W.lcmp X.1 X.2.1 dL_law_241 ?_
  refine lv_if_eq (tgt := 247) X.1 X.2.1 dL_law_242 (by decide) (fun _ => hE) (fun c7 => absurd (by rw [e4 c8]; exact lg_same _) c7)
set_option maxHeartbeats 4000000 in
set_option maxRecDepth 100000 in
theorem lo_start (X : CallFix p m c cL_law 7 s #[Value.ref b] tb RL) (hst : l.stackTraces = false) (hX : va_X b L xs s s.heap) (hbl : b < s.heap.size) {i : Nat} (hi : i + 4 ≤ L) (hL : L ≤ 2048) (hc1 : cells + 2 ≤ 601024) (hc2 : slots + 12 ≤ 7293034) (hI : Inw D ty (FxD q) (wL ty q r o σ τ) (fun z : Nat => s.heap.size ≤ z) s H locs) (hR : Rel σ τ) (hl : lv_has ls 7 [(0, .ref b), (1, .ref (q 0)), (2, .ref (r 0)), (3, .ref (q 23)), (4, .int (nI i))]) (hB : ∀ (σ τ : St) (o : Int32) (H : Heap) (locs : List Loc) (ls : Array Slot), Rel σ τ → Inw D ty (FxD q) (wL ty q r o σ τ) (fun z : Nat => s.heap.size ≤ z) s H locs → lv_has ls 7 [(0, .ref b), (1, .ref (q 0)), (2, .ref (r 0)), (3, .ref (q 23)), (4, .int (nI i))] → W p l e room_1 s m #[Value.ref b] below meth c H locs (cells + 2) (slots + 12) Q (F0 m 571 ls [])) : W p l e room_1 s m #[Value.ref b] below meth c H locs cells slots Q (F0 m 250 ls []) := by
  have hbA : ¬ (fun z : Nat => s.heap.size ≤ z) b := Nat.not_le.mpr hbl
  have hk1 : vp_in (nI i + 1) L := by
    show vp_in (nI i + nI 1) L
    rw [nI_add]
    exact vp_in_nI (by omega) (by omega)
  have hk2 : vp_in (nI i + 2) L := by
    show vp_in (nI i + nI 2) L
    rw [nI_add]
    exact vp_in_nI (by omega) (by omega)
  have hk3 : vp_in (nI i + 3) L := by
    show vp_in (nI i + nI 3) L
    rw [nI_add]
    exact vp_in_nI (by omega) (by omega)
  refine lv_aload_n X.1 X.2.1 dL_law_250 rfl (lv_at hl 1 rfl) ?_
  refine lv_aload_n X.1 X.2.1 dL_law_251 rfl (lv_at hl 0 rfl) ?_
  refine lv_iload X.1 X.2.1 dL_law_252 (lv_at hl 4 rfl) ?_
  refine lv_iconst (v := 1) X.1 X.2.1 dL_law_254 (by decide) ?_
  refine lv_iadd X.1 X.2.1 dL_law_255 ?_
  refine va_sld X.1 X.2.1 hX hbl hbA hI.2.2.2.1 hk1 dL_law_256 ?_
  refine lv_aload_n X.1 X.2.1 dL_law_257 rfl (lv_at hl 0 rfl) ?_
  refine lv_iload X.1 X.2.1 dL_law_258 (lv_at hl 4 rfl) ?_
  refine lv_iconst (v := 2) X.1 X.2.1 dL_law_260 (by decide) ?_
  refine lv_iadd X.1 X.2.1 dL_law_261 ?_
  refine va_sld X.1 X.2.1 hX hbl hbA hI.2.2.2.1 hk2 dL_law_262 ?_
  refine lv_aload_n X.1 X.2.1 dL_law_263 rfl (lv_at hl 0 rfl) ?_
  refine lv_iload X.1 X.2.1 dL_law_264 (lv_at hl 4 rfl) ?_
  refine lv_iconst (v := 3) X.1 X.2.1 dL_law_266 (by decide) ?_
  refine lv_iadd X.1 X.2.1 dL_law_267 ?_
  refine va_sld X.1 X.2.1 hX hbl hbA hI.2.2.2.1 hk3 dL_law_268 ?_
  obtain ⟨k, σ1, o1, r1, τ1, e1, e2, e3, hR1⟩ := a_start hR (xs (nI i + 1).toNatClampNeg) (xs (nI i + 2).toNatClampNeg) (xs (nI i + 3).toNatClampNeg) o
  refine sh_i (a := []) (q := q) (o := o) (σ := σ) (c0 := wM ty r τ) (res := (k, (σ1, o1))) (rest := []) X (fxD q) (fun _ _ _ h => h) hI (m_L_start l hst D ty q σ o _ (xs (nI i + 1).toNatClampNeg) (xs (nI i + 2).toNatClampNeg) (xs (nI i + 3).toNatClampNeg) e1) oh_start ll_65 ⟨rfl, rfl, Nat.le_of_ble_eq_true rfl, Nat.le_of_ble_eq_true rfl⟩ rfl hl.1 rfl (Nat.le_of_ble_eq_true rfl) ⟨by show cells + 2 ≤ 601024; omega, by show slots + 12 ≤ 7293034; omega⟩ dL_law_269 (fun H locs hI => ?_)
  refine lv_istore (lv' := [(5, .int k), (0, .ref b), (1, .ref (q 0)), (2, .ref (r 0)), (3, .ref (q 23)), (4, .int (nI i))]) X.1 X.2.1 dL_law_272 hl (by decide) rfl (fun ls hl => ?_)
  refine lv_aload_n X.1 X.2.1 dL_law_274 rfl (lv_at hl 3 rfl) ?_
  refine lv_aload_n X.1 X.2.1 dL_law_275 rfl (lv_at hl 1 rfl) ?_
  refine lv_iload X.1 X.2.1 dL_law_276 (lv_at hl 5 rfl) ?_
  refine lv_iconst (v := 1) X.1 X.2.1 dL_law_278 (by decide) ?_
  refine lv_iadd X.1 X.2.1 dL_law_279 ?_
  refine va_sld X.1 X.2.1 hX hbl hbA hI.2.2.2.1 hk1 dL_law_280 ?_
  refine lv_aload_n X.1 X.2.1 dL_law_281 rfl (lv_at hl 1 rfl) ?_
  refine lv_iload X.1 X.2.1 dL_law_282 (lv_at hl 5 rfl) ?_
  refine lv_iconst (v := 2) X.1 X.2.1 dL_law_284 (by decide) ?_
  refine lv_iadd X.1 X.2.1 dL_law_285 ?_
  refine va_sld X.1 X.2.1 hX hbl hbA hI.2.2.2.1 hk2 dL_law_286 ?_
  refine lv_aload_n X.1 X.2.1 dL_law_287 rfl (lv_at hl 1 rfl) ?_
  refine lv_iload X.1 X.2.1 dL_law_288 (lv_at hl 5 rfl) ?_
  refine lv_iconst (v := 3) X.1 X.2.1 dL_law_290 (by decide) ?_
  refine lv_iadd X.1 X.2.1 dL_law_291 ?_
  refine va_sld X.1 X.2.1 hX hbl hbA hI.2.2.2.1 hk3 dL_law_292 ?_
  replace hI : Inw D ty (FxD q) (((([] : va_W) ++ wH ty q o1 σ1) ++ wM ty r τ) ++ []) (fun z : Nat => s.heap.size ≤ z) s H locs := by
    rw [List.append_nil]
    exact hI
  refine sb_v (a := ([] : va_W) ++ wH ty q o1 σ1) (b := wM ty r) (σ := τ) (c0 := []) (res := (r1, τ1)) (rest := []) X fxM (fun _ _ _ _ => trivial) hI (m_X5_start l D ty r τ _ (xs (nI i + 1).toNatClampNeg) (xs (nI i + 2).toNatClampNeg) (xs (nI i + 3).toNatClampNeg) e2) ok_X5_start ll_68 ⟨rfl, rfl, Nat.le_of_ble_eq_true rfl, Nat.le_of_ble_eq_true rfl⟩ 0 rc_X5 rfl rfl hl.1 rfl (Nat.le_of_ble_eq_true rfl) ⟨by show cells + 2 ≤ 601024; omega, by show slots + 12 ≤ 7293034; omega⟩ dL_law_293 (fun H locs hI => ?_)
  replace hI : Inw D ty (FxD q) ((([] : va_W) ++ wH ty q o1 σ1) ++ wM ty r τ1) (fun z : Nat => s.heap.size ≤ z) s H locs := by
    have h9 := hI
    rw [List.append_nil] at h9
    exact h9
  refine lv_aload_n X.1 X.2.1 dL_law_296 rfl (lv_at hl 3 rfl) ?_
  replace hI : Inw D ty (FxD q) (((([] : va_W) ++ wH ty q o1 σ1) ++ wM ty r τ1) ++ []) (fun z : Nat => s.heap.size ≤ z) s H locs := by
    rw [List.append_nil]
    exact hI
  refine sb_i (a := ([] : va_W) ++ wH ty q o1 σ1) (b := wM ty r) (σ := τ1) (c0 := []) (res := (gI τ1 0, τ1)) (rest := []) X fxM (fun _ _ _ _ => trivial) hI (m_X5_thrown l D ty r τ1 _ rfl) ok_X5_thrown ll_53 ⟨rfl, rfl, Nat.le_of_ble_eq_true rfl, Nat.le_of_ble_eq_true rfl⟩ 0 rc_X5 rfl rfl hl.1 rfl (Nat.le_of_ble_eq_true rfl) ⟨by show cells + 2 ≤ 601024; omega, by show slots + 12 ≤ 7293034; omega⟩ dL_law_297 (fun H locs hI => ?_)
  replace hI : Inw D ty (FxD q) ((([] : va_W) ++ wH ty q o1 σ1) ++ wM ty r τ1) (fun z : Nat => s.heap.size ≤ z) s H locs := by
    have h9 := hI
    rw [List.append_nil] at h9
    exact h9
  refine lv_iload X.1 X.2.1 dL_law_300 (lv_at hl 0 rfl) ?_
  refine lv_icmp_eq (tgt := 307) X.1 X.2.1 dL_law_302 (by decide) (fun _ => ?_) (fun c9 => absurd e3 c9)
  refine lv_goto (tgt := 571) X.1 X.2.1 dL_law_307 (by decide) ?_
  exact W.widen (by omega) (by omega) (hB σ1 τ1 o1 _ _ ls hR1 hI (lv_sub hl [1, 2, 3, 4, 5] rfl))
set_option maxHeartbeats 4000000 in
set_option maxRecDepth 100000 in
theorem lo_step (X : CallFix p m c cL_law 7 s #[Value.ref b] tb RL) (hst : l.stackTraces = false) (hX : va_X b L xs s s.heap) (hbl : b < s.heap.size) {i : Nat} (hi : i + 4 ≤ L) (hL : L ≤ 2048) (hc1 : cells + 2 ≤ 601024) (hc2 : slots + 12 ≤ 7293034) (hI : Inw D ty (FxD q) (wL ty q r o σ τ) (fun z : Nat => s.heap.size ≤ z) s H locs) (hR : Rel σ τ) (hl : lv_has ls 7 [(0, .ref b), (1, .ref (q 0)), (2, .ref (r 0)), (3, .ref (q 23)), (4, .int (nI i))]) (hB : ∀ (σ τ : St) (o : Int32) (H : Heap) (locs : List Loc) (ls : Array Slot), Rel σ τ → Inw D ty (FxD q) (wL ty q r o σ τ) (fun z : Nat => s.heap.size ≤ z) s H locs → lv_has ls 7 [(0, .ref b), (1, .ref (q 0)), (2, .ref (r 0)), (3, .ref (q 23)), (4, .int (nI i))] → W p l e room_1 s m #[Value.ref b] below meth c H locs (cells + 2) (slots + 12) Q (F0 m 571 ls [])) : W p l e room_1 s m #[Value.ref b] below meth c H locs cells slots Q (F0 m 310 ls []) := by
  have hbA : ¬ (fun z : Nat => s.heap.size ≤ z) b := Nat.not_le.mpr hbl
  have hk1 : vp_in (nI i + 1) L := by
    show vp_in (nI i + nI 1) L
    rw [nI_add]
    exact vp_in_nI (by omega) (by omega)
  have hk2 : vp_in (nI i + 2) L := by
    show vp_in (nI i + nI 2) L
    rw [nI_add]
    exact vp_in_nI (by omega) (by omega)
  have hk3 : vp_in (nI i + 3) L := by
    show vp_in (nI i + nI 3) L
    rw [nI_add]
    exact vp_in_nI (by omega) (by omega)
  refine lv_aload_n X.1 X.2.1 dL_law_310 rfl (lv_at hl 1 rfl) ?_
  refine lv_aload_n X.1 X.2.1 dL_law_311 rfl (lv_at hl 0 rfl) ?_
  refine lv_iload X.1 X.2.1 dL_law_312 (lv_at hl 4 rfl) ?_
  refine lv_iconst (v := 1) X.1 X.2.1 dL_law_314 (by decide) ?_
  refine lv_iadd X.1 X.2.1 dL_law_315 ?_
  refine va_sld X.1 X.2.1 hX hbl hbA hI.2.2.2.1 hk1 dL_law_316 ?_
  refine lv_aload_n X.1 X.2.1 dL_law_317 rfl (lv_at hl 3 rfl) ?_
  obtain ⟨k, σ1, o1, r1, τ1, e1, e2, e3, e4, hR1⟩ := a_step hR (xs (nI i + 1).toNatClampNeg) o
  refine sh_i (a := []) (q := q) (o := o) (σ := σ) (c0 := wM ty r τ) (res := (k, (σ1, o1))) (rest := []) X (fxD q) (fun _ _ _ h => h) hI (m_L_step l hst D ty q σ o _ (xs (nI i + 1).toNatClampNeg) e1) oh_step ll_69 ⟨rfl, rfl, Nat.le_of_ble_eq_true rfl, Nat.le_of_ble_eq_true rfl⟩ rfl hl.1 rfl (Nat.le_of_ble_eq_true rfl) ⟨by show cells + 1 ≤ 601024; omega, by show slots + 6 ≤ 7293034; omega⟩ dL_law_318 (fun H locs hI => ?_)
  refine lv_istore (lv' := [(5, .int k), (0, .ref b), (1, .ref (q 0)), (2, .ref (r 0)), (3, .ref (q 23)), (4, .int (nI i))]) X.1 X.2.1 dL_law_321 hl (by decide) rfl (fun ls hl => ?_)
  refine lv_aload_n X.1 X.2.1 dL_law_323 rfl (lv_at hl 3 rfl) ?_
  refine lv_aload_n X.1 X.2.1 dL_law_324 rfl (lv_at hl 1 rfl) ?_
  refine lv_iload X.1 X.2.1 dL_law_325 (lv_at hl 5 rfl) ?_
  refine lv_iconst (v := 1) X.1 X.2.1 dL_law_327 (by decide) ?_
  refine lv_iadd X.1 X.2.1 dL_law_328 ?_
  refine va_sld X.1 X.2.1 hX hbl hbA hI.2.2.2.1 hk1 dL_law_329 ?_
  replace hI : Inw D ty (FxD q) (((([] : va_W) ++ wH ty q o1 σ1) ++ wM ty r τ) ++ []) (fun z : Nat => s.heap.size ≤ z) s H locs := by
    rw [List.append_nil]
    exact hI
  refine sb_i (a := ([] : va_W) ++ wH ty q o1 σ1) (b := wM ty r) (σ := τ) (c0 := []) (res := (r1, τ1)) (rest := []) X fxM (fun _ _ _ _ => trivial) hI (m_X5_step l D ty r τ _ (xs (nI i + 1).toNatClampNeg) e2) ok_X5_step ll_71 ⟨rfl, rfl, Nat.le_of_ble_eq_true rfl, Nat.le_of_ble_eq_true rfl⟩ 0 rc_X5 rfl rfl hl.1 rfl (Nat.le_of_ble_eq_true rfl) ⟨by show cells + 1 ≤ 601024; omega, by show slots + 6 ≤ 7293034; omega⟩ dL_law_330 (fun H locs hI => ?_)
  replace hI : Inw D ty (FxD q) ((([] : va_W) ++ wH ty q o1 σ1) ++ wM ty r τ1) (fun z : Nat => s.heap.size ≤ z) s H locs := by
    have h9 := hI
    rw [List.append_nil] at h9
    exact h9
  refine lv_istore (lv' := [(6, .int r1), (5, .int k), (0, .ref b), (1, .ref (q 0)), (2, .ref (r 0)), (3, .ref (q 23)), (4, .int (nI i))]) X.1 X.2.1 dL_law_333 hl (by decide) rfl (fun ls hl => ?_)
  refine lv_aload_n X.1 X.2.1 dL_law_335 rfl (lv_at hl 4 rfl) ?_
  replace hI : Inw D ty (FxD q) (((([] : va_W) ++ wH ty q o1 σ1) ++ wM ty r τ1) ++ []) (fun z : Nat => s.heap.size ≤ z) s H locs := by
    rw [List.append_nil]
    exact hI
  refine sb_i (a := ([] : va_W) ++ wH ty q o1 σ1) (b := wM ty r) (σ := τ1) (c0 := []) (res := (gI τ1 0, τ1)) (rest := []) X fxM (fun _ _ _ _ => trivial) hI (m_X5_thrown l D ty r τ1 _ rfl) ok_X5_thrown ll_53 ⟨rfl, rfl, Nat.le_of_ble_eq_true rfl, Nat.le_of_ble_eq_true rfl⟩ 0 rc_X5 rfl rfl hl.1 rfl (Nat.le_of_ble_eq_true rfl) ⟨by show cells + 1 ≤ 601024; omega, by show slots + 6 ≤ 7293034; omega⟩ dL_law_336 (fun H locs hI => ?_)
  replace hI : Inw D ty (FxD q) ((([] : va_W) ++ wH ty q o1 σ1) ++ wM ty r τ1) (fun z : Nat => s.heap.size ≤ z) s H locs := by
    have h9 := hI
    rw [List.append_nil] at h9
    exact h9
  refine lv_iload X.1 X.2.1 dL_law_339 (lv_at hl 1 rfl) ?_
  refine lv_icmp_eq (tgt := 346) X.1 X.2.1 dL_law_341 (by decide) (fun _ => ?_) (fun c9 => absurd e3 c9)
  refine lv_iload X.1 X.2.1 dL_law_346 (lv_at hl 1 rfl) ?_
  have hE : W p l e room_1 s m #[Value.ref b] below meth c H locs (cells + 1) (slots + 6) Q (F0 m 363 ls []) := by
    refine lv_goto (tgt := 571) X.1 X.2.1 dL_law_363 (by decide) ?_
    exact W.widen (by omega) (by omega) (hB σ1 τ1 o1 _ _ ls hR1 hI (lv_sub hl [2, 3, 4, 5, 6] rfl))
  refine lv_if_ne (tgt := 363) X.1 X.2.1 dL_law_348 (by decide) (fun _ => hE) (fun c8 => ?_)
  refine lv_aload_n X.1 X.2.1 dL_law_351 rfl (lv_at hl 5 rfl) ?_
  refine lv_iconst (v := 0) X.1 X.2.1 dL_law_352 (by decide) ?_
  refine va_lald X.1 X.2.1 hI.1 hI.2.1 21 4 (f := up0 o1) rfl rfl (i := 0) (pk_in 0 1 (by decide) rfl (by decide)) dL_law_353 ?_
  rw [up3]
  refine lv_iload X.1 X.2.1 dL_law_354 (lv_at hl 0 rfl) ?_
  refine lv_i2l (v := r1.toInt64) X.1 X.2.1 dL_law_356 rfl ?_
  refine W.lcmp X.1 X.2.1 dL_law_357 ?_
  refine lv_if_eq (tgt := 363) X.1 X.2.1 dL_law_358 (by decide) (fun _ => hE) (fun c7 => absurd (by rw [e4 c8]; exact lg_same _) c7)
set_option maxHeartbeats 4000000 in
set_option maxRecDepth 100000 in
theorem lo_look (X : CallFix p m c cL_law 7 s #[Value.ref b] tb RL) (hst : l.stackTraces = false) (hX : va_X b L xs s s.heap) (hbl : b < s.heap.size) {i : Nat} (hi : i + 4 ≤ L) (hL : L ≤ 2048) (hc1 : cells + 2 ≤ 601024) (hc2 : slots + 12 ≤ 7293034) (hI : Inw D ty (FxD q) (wL ty q r o σ τ) (fun z : Nat => s.heap.size ≤ z) s H locs) (hR : Rel σ τ) (hl : lv_has ls 7 [(0, .ref b), (1, .ref (q 0)), (2, .ref (r 0)), (3, .ref (q 23)), (4, .int (nI i))]) (hB : ∀ (σ τ : St) (o : Int32) (H : Heap) (locs : List Loc) (ls : Array Slot), Rel σ τ → Inw D ty (FxD q) (wL ty q r o σ τ) (fun z : Nat => s.heap.size ≤ z) s H locs → lv_has ls 7 [(0, .ref b), (1, .ref (q 0)), (2, .ref (r 0)), (3, .ref (q 23)), (4, .int (nI i))] → W p l e room_1 s m #[Value.ref b] below meth c H locs (cells + 2) (slots + 12) Q (F0 m 571 ls [])) : W p l e room_1 s m #[Value.ref b] below meth c H locs cells slots Q (F0 m 366 ls []) := by
  have hbA : ¬ (fun z : Nat => s.heap.size ≤ z) b := Nat.not_le.mpr hbl
  have hk1 : vp_in (nI i + 1) L := by
    show vp_in (nI i + nI 1) L
    rw [nI_add]
    exact vp_in_nI (by omega) (by omega)
  have hk2 : vp_in (nI i + 2) L := by
    show vp_in (nI i + nI 2) L
    rw [nI_add]
    exact vp_in_nI (by omega) (by omega)
  have hk3 : vp_in (nI i + 3) L := by
    show vp_in (nI i + nI 3) L
    rw [nI_add]
    exact vp_in_nI (by omega) (by omega)
  refine lv_aload_n X.1 X.2.1 dL_law_366 rfl (lv_at hl 1 rfl) ?_
  refine lv_aload_n X.1 X.2.1 dL_law_367 rfl (lv_at hl 0 rfl) ?_
  refine lv_iload X.1 X.2.1 dL_law_368 (lv_at hl 4 rfl) ?_
  refine lv_iconst (v := 1) X.1 X.2.1 dL_law_370 (by decide) ?_
  refine lv_iadd X.1 X.2.1 dL_law_371 ?_
  refine va_sld X.1 X.2.1 hX hbl hbA hI.2.2.2.1 hk1 dL_law_372 ?_
  refine lv_aload_n X.1 X.2.1 dL_law_373 rfl (lv_at hl 3 rfl) ?_
  obtain ⟨k, σ1, o1, r1, τ1, e1, e2, e3, e4, hR1⟩ := a_look hR (xs (nI i + 1).toNatClampNeg) o
  refine sh_i (a := []) (q := q) (o := o) (σ := σ) (c0 := wM ty r τ) (res := (k, (σ1, o1))) (rest := []) X (fxD q) (fun _ _ _ h => h) hI (m_L_look l hst D ty q σ o _ (xs (nI i + 1).toNatClampNeg) e1) oh_look ll_72 ⟨rfl, rfl, Nat.le_of_ble_eq_true rfl, Nat.le_of_ble_eq_true rfl⟩ rfl hl.1 rfl (Nat.le_of_ble_eq_true rfl) ⟨by show cells + 1 ≤ 601024; omega, by show slots + 6 ≤ 7293034; omega⟩ dL_law_374 (fun H locs hI => ?_)
  refine lv_istore (lv' := [(5, .int k), (0, .ref b), (1, .ref (q 0)), (2, .ref (r 0)), (3, .ref (q 23)), (4, .int (nI i))]) X.1 X.2.1 dL_law_377 hl (by decide) rfl (fun ls hl => ?_)
  refine lv_aload_n X.1 X.2.1 dL_law_379 rfl (lv_at hl 3 rfl) ?_
  refine lv_aload_n X.1 X.2.1 dL_law_380 rfl (lv_at hl 1 rfl) ?_
  refine lv_iload X.1 X.2.1 dL_law_381 (lv_at hl 5 rfl) ?_
  refine lv_iconst (v := 1) X.1 X.2.1 dL_law_383 (by decide) ?_
  refine lv_iadd X.1 X.2.1 dL_law_384 ?_
  refine va_sld X.1 X.2.1 hX hbl hbA hI.2.2.2.1 hk1 dL_law_385 ?_
  replace hI : Inw D ty (FxD q) (((([] : va_W) ++ wH ty q o1 σ1) ++ wM ty r τ) ++ []) (fun z : Nat => s.heap.size ≤ z) s H locs := by
    rw [List.append_nil]
    exact hI
  refine sb_i (a := ([] : va_W) ++ wH ty q o1 σ1) (b := wM ty r) (σ := τ) (c0 := []) (res := (r1, τ1)) (rest := []) X fxM (fun _ _ _ _ => trivial) hI (m_X5_look l D ty r τ _ (xs (nI i + 1).toNatClampNeg) e2) ok_X5_look ll_74 ⟨rfl, rfl, Nat.le_of_ble_eq_true rfl, Nat.le_of_ble_eq_true rfl⟩ 0 rc_X5 rfl rfl hl.1 rfl (Nat.le_of_ble_eq_true rfl) ⟨by show cells + 1 ≤ 601024; omega, by show slots + 6 ≤ 7293034; omega⟩ dL_law_386 (fun H locs hI => ?_)
  replace hI : Inw D ty (FxD q) ((([] : va_W) ++ wH ty q o1 σ1) ++ wM ty r τ1) (fun z : Nat => s.heap.size ≤ z) s H locs := by
    have h9 := hI
    rw [List.append_nil] at h9
    exact h9
  refine lv_istore (lv' := [(6, .int r1), (5, .int k), (0, .ref b), (1, .ref (q 0)), (2, .ref (r 0)), (3, .ref (q 23)), (4, .int (nI i))]) X.1 X.2.1 dL_law_389 hl (by decide) rfl (fun ls hl => ?_)
  refine lv_aload_n X.1 X.2.1 dL_law_391 rfl (lv_at hl 4 rfl) ?_
  replace hI : Inw D ty (FxD q) (((([] : va_W) ++ wH ty q o1 σ1) ++ wM ty r τ1) ++ []) (fun z : Nat => s.heap.size ≤ z) s H locs := by
    rw [List.append_nil]
    exact hI
  refine sb_i (a := ([] : va_W) ++ wH ty q o1 σ1) (b := wM ty r) (σ := τ1) (c0 := []) (res := (gI τ1 0, τ1)) (rest := []) X fxM (fun _ _ _ _ => trivial) hI (m_X5_thrown l D ty r τ1 _ rfl) ok_X5_thrown ll_53 ⟨rfl, rfl, Nat.le_of_ble_eq_true rfl, Nat.le_of_ble_eq_true rfl⟩ 0 rc_X5 rfl rfl hl.1 rfl (Nat.le_of_ble_eq_true rfl) ⟨by show cells + 1 ≤ 601024; omega, by show slots + 6 ≤ 7293034; omega⟩ dL_law_392 (fun H locs hI => ?_)
  replace hI : Inw D ty (FxD q) ((([] : va_W) ++ wH ty q o1 σ1) ++ wM ty r τ1) (fun z : Nat => s.heap.size ≤ z) s H locs := by
    have h9 := hI
    rw [List.append_nil] at h9
    exact h9
  refine lv_iload X.1 X.2.1 dL_law_395 (lv_at hl 1 rfl) ?_
  refine lv_icmp_eq (tgt := 402) X.1 X.2.1 dL_law_397 (by decide) (fun _ => ?_) (fun c9 => absurd e3 c9)
  refine lv_iload X.1 X.2.1 dL_law_402 (lv_at hl 1 rfl) ?_
  have hE : W p l e room_1 s m #[Value.ref b] below meth c H locs (cells + 1) (slots + 6) Q (F0 m 419 ls []) := by
    refine lv_goto (tgt := 571) X.1 X.2.1 dL_law_419 (by decide) ?_
    exact W.widen (by omega) (by omega) (hB σ1 τ1 o1 _ _ ls hR1 hI (lv_sub hl [2, 3, 4, 5, 6] rfl))
  refine lv_if_ne (tgt := 419) X.1 X.2.1 dL_law_404 (by decide) (fun _ => hE) (fun c8 => ?_)
  refine lv_aload_n X.1 X.2.1 dL_law_407 rfl (lv_at hl 5 rfl) ?_
  refine lv_iconst (v := 0) X.1 X.2.1 dL_law_408 (by decide) ?_
  refine va_lald X.1 X.2.1 hI.1 hI.2.1 21 4 (f := up0 o1) rfl rfl (i := 0) (pk_in 0 1 (by decide) rfl (by decide)) dL_law_409 ?_
  rw [up3]
  refine lv_iload X.1 X.2.1 dL_law_410 (lv_at hl 0 rfl) ?_
  refine lv_i2l (v := r1.toInt64) X.1 X.2.1 dL_law_412 rfl ?_
  refine W.lcmp X.1 X.2.1 dL_law_413 ?_
  refine lv_if_eq (tgt := 419) X.1 X.2.1 dL_law_414 (by decide) (fun _ => hE) (fun c7 => absurd (by rw [e4 c8]; exact lg_same _) c7)
set_option maxHeartbeats 4000000 in
set_option maxRecDepth 100000 in
theorem lo_state (X : CallFix p m c cL_law 7 s #[Value.ref b] tb RL) (hst : l.stackTraces = false) (hX : va_X b L xs s s.heap) (hbl : b < s.heap.size) {i : Nat} (hi : i + 4 ≤ L) (hL : L ≤ 2048) (hc1 : cells + 2 ≤ 601024) (hc2 : slots + 12 ≤ 7293034) (hI : Inw D ty (FxD q) (wL ty q r o σ τ) (fun z : Nat => s.heap.size ≤ z) s H locs) (hR : Rel σ τ) (hl : lv_has ls 7 [(0, .ref b), (1, .ref (q 0)), (2, .ref (r 0)), (3, .ref (q 23)), (4, .int (nI i))]) (hB : ∀ (σ τ : St) (o : Int32) (H : Heap) (locs : List Loc) (ls : Array Slot), Rel σ τ → Inw D ty (FxD q) (wL ty q r o σ τ) (fun z : Nat => s.heap.size ≤ z) s H locs → lv_has ls 7 [(0, .ref b), (1, .ref (q 0)), (2, .ref (r 0)), (3, .ref (q 23)), (4, .int (nI i))] → W p l e room_1 s m #[Value.ref b] below meth c H locs (cells + 2) (slots + 12) Q (F0 m 571 ls [])) : W p l e room_1 s m #[Value.ref b] below meth c H locs cells slots Q (F0 m 422 ls []) := by
  have hbA : ¬ (fun z : Nat => s.heap.size ≤ z) b := Nat.not_le.mpr hbl
  have hk1 : vp_in (nI i + 1) L := by
    show vp_in (nI i + nI 1) L
    rw [nI_add]
    exact vp_in_nI (by omega) (by omega)
  have hk2 : vp_in (nI i + 2) L := by
    show vp_in (nI i + nI 2) L
    rw [nI_add]
    exact vp_in_nI (by omega) (by omega)
  have hk3 : vp_in (nI i + 3) L := by
    show vp_in (nI i + nI 3) L
    rw [nI_add]
    exact vp_in_nI (by omega) (by omega)
  refine lv_aload_n X.1 X.2.1 dL_law_422 rfl (lv_at hl 1 rfl) ?_
  refine lv_aload_n X.1 X.2.1 dL_law_423 rfl (lv_at hl 0 rfl) ?_
  refine lv_iload X.1 X.2.1 dL_law_424 (lv_at hl 4 rfl) ?_
  refine lv_iconst (v := 1) X.1 X.2.1 dL_law_426 (by decide) ?_
  refine lv_iadd X.1 X.2.1 dL_law_427 ?_
  refine va_sld X.1 X.2.1 hX hbl hbA hI.2.2.2.1 hk1 dL_law_428 ?_
  refine lv_aload_n X.1 X.2.1 dL_law_429 rfl (lv_at hl 3 rfl) ?_
  obtain ⟨k, σ1, o1, r1, τ1, e1, e2, e3, e4, hR1⟩ := a_state hR (xs (nI i + 1).toNatClampNeg) o
  refine sh_i (a := []) (q := q) (o := o) (σ := σ) (c0 := wM ty r τ) (res := (k, (σ1, o1))) (rest := []) X (fxD q) (fun _ _ _ h => h) hI (m_L_state l hst D ty q σ o _ (xs (nI i + 1).toNatClampNeg) e1) oh_state ll_75 ⟨rfl, rfl, Nat.le_of_ble_eq_true rfl, Nat.le_of_ble_eq_true rfl⟩ rfl hl.1 rfl (Nat.le_of_ble_eq_true rfl) ⟨by show cells + 1 ≤ 601024; omega, by show slots + 6 ≤ 7293034; omega⟩ dL_law_430 (fun H locs hI => ?_)
  refine lv_istore (lv' := [(5, .int k), (0, .ref b), (1, .ref (q 0)), (2, .ref (r 0)), (3, .ref (q 23)), (4, .int (nI i))]) X.1 X.2.1 dL_law_433 hl (by decide) rfl (fun ls hl => ?_)
  refine lv_aload_n X.1 X.2.1 dL_law_435 rfl (lv_at hl 3 rfl) ?_
  refine lv_aload_n X.1 X.2.1 dL_law_436 rfl (lv_at hl 1 rfl) ?_
  refine lv_iload X.1 X.2.1 dL_law_437 (lv_at hl 5 rfl) ?_
  refine lv_iconst (v := 1) X.1 X.2.1 dL_law_439 (by decide) ?_
  refine lv_iadd X.1 X.2.1 dL_law_440 ?_
  refine va_sld X.1 X.2.1 hX hbl hbA hI.2.2.2.1 hk1 dL_law_441 ?_
  replace hI : Inw D ty (FxD q) (((([] : va_W) ++ wH ty q o1 σ1) ++ wM ty r τ) ++ []) (fun z : Nat => s.heap.size ≤ z) s H locs := by
    rw [List.append_nil]
    exact hI
  refine sb_i (a := ([] : va_W) ++ wH ty q o1 σ1) (b := wM ty r) (σ := τ) (c0 := []) (res := (r1, τ1)) (rest := []) X fxM (fun _ _ _ _ => trivial) hI (m_X5_state l D ty r τ _ (xs (nI i + 1).toNatClampNeg) e2) ok_X5_state ll_77 ⟨rfl, rfl, Nat.le_of_ble_eq_true rfl, Nat.le_of_ble_eq_true rfl⟩ 0 rc_X5 rfl rfl hl.1 rfl (Nat.le_of_ble_eq_true rfl) ⟨by show cells + 1 ≤ 601024; omega, by show slots + 6 ≤ 7293034; omega⟩ dL_law_442 (fun H locs hI => ?_)
  replace hI : Inw D ty (FxD q) ((([] : va_W) ++ wH ty q o1 σ1) ++ wM ty r τ1) (fun z : Nat => s.heap.size ≤ z) s H locs := by
    have h9 := hI
    rw [List.append_nil] at h9
    exact h9
  refine lv_istore (lv' := [(6, .int r1), (5, .int k), (0, .ref b), (1, .ref (q 0)), (2, .ref (r 0)), (3, .ref (q 23)), (4, .int (nI i))]) X.1 X.2.1 dL_law_445 hl (by decide) rfl (fun ls hl => ?_)
  refine lv_aload_n X.1 X.2.1 dL_law_447 rfl (lv_at hl 4 rfl) ?_
  replace hI : Inw D ty (FxD q) (((([] : va_W) ++ wH ty q o1 σ1) ++ wM ty r τ1) ++ []) (fun z : Nat => s.heap.size ≤ z) s H locs := by
    rw [List.append_nil]
    exact hI
  refine sb_i (a := ([] : va_W) ++ wH ty q o1 σ1) (b := wM ty r) (σ := τ1) (c0 := []) (res := (gI τ1 0, τ1)) (rest := []) X fxM (fun _ _ _ _ => trivial) hI (m_X5_thrown l D ty r τ1 _ rfl) ok_X5_thrown ll_53 ⟨rfl, rfl, Nat.le_of_ble_eq_true rfl, Nat.le_of_ble_eq_true rfl⟩ 0 rc_X5 rfl rfl hl.1 rfl (Nat.le_of_ble_eq_true rfl) ⟨by show cells + 1 ≤ 601024; omega, by show slots + 6 ≤ 7293034; omega⟩ dL_law_448 (fun H locs hI => ?_)
  replace hI : Inw D ty (FxD q) ((([] : va_W) ++ wH ty q o1 σ1) ++ wM ty r τ1) (fun z : Nat => s.heap.size ≤ z) s H locs := by
    have h9 := hI
    rw [List.append_nil] at h9
    exact h9
  refine lv_iload X.1 X.2.1 dL_law_451 (lv_at hl 1 rfl) ?_
  refine lv_icmp_eq (tgt := 458) X.1 X.2.1 dL_law_453 (by decide) (fun _ => ?_) (fun c9 => absurd e3 c9)
  refine lv_iload X.1 X.2.1 dL_law_458 (lv_at hl 1 rfl) ?_
  have hE : W p l e room_1 s m #[Value.ref b] below meth c H locs (cells + 1) (slots + 6) Q (F0 m 475 ls []) := by
    refine lv_goto (tgt := 571) X.1 X.2.1 dL_law_475 (by decide) ?_
    exact W.widen (by omega) (by omega) (hB σ1 τ1 o1 _ _ ls hR1 hI (lv_sub hl [2, 3, 4, 5, 6] rfl))
  refine lv_if_ne (tgt := 475) X.1 X.2.1 dL_law_460 (by decide) (fun _ => hE) (fun c8 => ?_)
  refine lv_aload_n X.1 X.2.1 dL_law_463 rfl (lv_at hl 5 rfl) ?_
  refine lv_iconst (v := 0) X.1 X.2.1 dL_law_464 (by decide) ?_
  refine va_lald X.1 X.2.1 hI.1 hI.2.1 21 4 (f := up0 o1) rfl rfl (i := 0) (pk_in 0 1 (by decide) rfl (by decide)) dL_law_465 ?_
  rw [up3]
  refine lv_iload X.1 X.2.1 dL_law_466 (lv_at hl 0 rfl) ?_
  refine lv_i2l (v := r1.toInt64) X.1 X.2.1 dL_law_468 rfl ?_
  refine W.lcmp X.1 X.2.1 dL_law_469 ?_
  refine lv_if_eq (tgt := 475) X.1 X.2.1 dL_law_470 (by decide) (fun _ => hE) (fun c7 => absurd (by rw [e4 c8]; exact lg_same _) c7)
set_option maxHeartbeats 4000000 in
set_option maxRecDepth 100000 in
theorem lo_out (X : CallFix p m c cL_law 7 s #[Value.ref b] tb RL) (hst : l.stackTraces = false) (hX : va_X b L xs s s.heap) (hbl : b < s.heap.size) {i : Nat} (hi : i + 4 ≤ L) (hL : L ≤ 2048) (hc1 : cells + 2 ≤ 601024) (hc2 : slots + 12 ≤ 7293034) (hI : Inw D ty (FxD q) (wL ty q r o σ τ) (fun z : Nat => s.heap.size ≤ z) s H locs) (hR : Rel σ τ) (hl : lv_has ls 7 [(0, .ref b), (1, .ref (q 0)), (2, .ref (r 0)), (3, .ref (q 23)), (4, .int (nI i))]) (hB : ∀ (σ τ : St) (o : Int32) (H : Heap) (locs : List Loc) (ls : Array Slot), Rel σ τ → Inw D ty (FxD q) (wL ty q r o σ τ) (fun z : Nat => s.heap.size ≤ z) s H locs → lv_has ls 7 [(0, .ref b), (1, .ref (q 0)), (2, .ref (r 0)), (3, .ref (q 23)), (4, .int (nI i))] → W p l e room_1 s m #[Value.ref b] below meth c H locs (cells + 2) (slots + 12) Q (F0 m 571 ls [])) : W p l e room_1 s m #[Value.ref b] below meth c H locs cells slots Q (F0 m 478 ls []) := by
  have hbA : ¬ (fun z : Nat => s.heap.size ≤ z) b := Nat.not_le.mpr hbl
  have hk1 : vp_in (nI i + 1) L := by
    show vp_in (nI i + nI 1) L
    rw [nI_add]
    exact vp_in_nI (by omega) (by omega)
  have hk2 : vp_in (nI i + 2) L := by
    show vp_in (nI i + nI 2) L
    rw [nI_add]
    exact vp_in_nI (by omega) (by omega)
  have hk3 : vp_in (nI i + 3) L := by
    show vp_in (nI i + nI 3) L
    rw [nI_add]
    exact vp_in_nI (by omega) (by omega)
  refine lv_aload_n X.1 X.2.1 dL_law_478 rfl (lv_at hl 1 rfl) ?_
  refine lv_aload_n X.1 X.2.1 dL_law_479 rfl (lv_at hl 0 rfl) ?_
  refine lv_iload X.1 X.2.1 dL_law_480 (lv_at hl 4 rfl) ?_
  refine lv_iconst (v := 1) X.1 X.2.1 dL_law_482 (by decide) ?_
  refine lv_iadd X.1 X.2.1 dL_law_483 ?_
  refine va_sld X.1 X.2.1 hX hbl hbA hI.2.2.2.1 hk1 dL_law_484 ?_
  refine lv_aload_n X.1 X.2.1 dL_law_485 rfl (lv_at hl 3 rfl) ?_
  obtain ⟨k, σ1, o1, r1, τ1, e1, e2, e3, e4, hR1⟩ := a_out hR (xs (nI i + 1).toNatClampNeg) o
  refine sh_i (a := []) (q := q) (o := o) (σ := σ) (c0 := wM ty r τ) (res := (k, (σ1, o1))) (rest := []) X (fxD q) (fun _ _ _ h => h) hI (m_L_out l hst D ty q σ o _ (xs (nI i + 1).toNatClampNeg) e1) oh_out ll_78 ⟨rfl, rfl, Nat.le_of_ble_eq_true rfl, Nat.le_of_ble_eq_true rfl⟩ rfl hl.1 rfl (Nat.le_of_ble_eq_true rfl) ⟨by show cells + 1 ≤ 601024; omega, by show slots + 6 ≤ 7293034; omega⟩ dL_law_486 (fun H locs hI => ?_)
  refine lv_istore (lv' := [(5, .int k), (0, .ref b), (1, .ref (q 0)), (2, .ref (r 0)), (3, .ref (q 23)), (4, .int (nI i))]) X.1 X.2.1 dL_law_489 hl (by decide) rfl (fun ls hl => ?_)
  refine lv_aload_n X.1 X.2.1 dL_law_491 rfl (lv_at hl 3 rfl) ?_
  refine lv_aload_n X.1 X.2.1 dL_law_492 rfl (lv_at hl 1 rfl) ?_
  refine lv_iload X.1 X.2.1 dL_law_493 (lv_at hl 5 rfl) ?_
  refine lv_iconst (v := 1) X.1 X.2.1 dL_law_495 (by decide) ?_
  refine lv_iadd X.1 X.2.1 dL_law_496 ?_
  refine va_sld X.1 X.2.1 hX hbl hbA hI.2.2.2.1 hk1 dL_law_497 ?_
  replace hI : Inw D ty (FxD q) (((([] : va_W) ++ wH ty q o1 σ1) ++ wM ty r τ) ++ []) (fun z : Nat => s.heap.size ≤ z) s H locs := by
    rw [List.append_nil]
    exact hI
  refine sb_i (a := ([] : va_W) ++ wH ty q o1 σ1) (b := wM ty r) (σ := τ) (c0 := []) (res := (r1, τ1)) (rest := []) X fxM (fun _ _ _ _ => trivial) hI (m_X5_out l D ty r τ _ (xs (nI i + 1).toNatClampNeg) e2) ok_X5_out ll_80 ⟨rfl, rfl, Nat.le_of_ble_eq_true rfl, Nat.le_of_ble_eq_true rfl⟩ 0 rc_X5 rfl rfl hl.1 rfl (Nat.le_of_ble_eq_true rfl) ⟨by show cells + 1 ≤ 601024; omega, by show slots + 6 ≤ 7293034; omega⟩ dL_law_498 (fun H locs hI => ?_)
  replace hI : Inw D ty (FxD q) ((([] : va_W) ++ wH ty q o1 σ1) ++ wM ty r τ1) (fun z : Nat => s.heap.size ≤ z) s H locs := by
    have h9 := hI
    rw [List.append_nil] at h9
    exact h9
  refine lv_istore (lv' := [(6, .int r1), (5, .int k), (0, .ref b), (1, .ref (q 0)), (2, .ref (r 0)), (3, .ref (q 23)), (4, .int (nI i))]) X.1 X.2.1 dL_law_501 hl (by decide) rfl (fun ls hl => ?_)
  refine lv_aload_n X.1 X.2.1 dL_law_503 rfl (lv_at hl 4 rfl) ?_
  replace hI : Inw D ty (FxD q) (((([] : va_W) ++ wH ty q o1 σ1) ++ wM ty r τ1) ++ []) (fun z : Nat => s.heap.size ≤ z) s H locs := by
    rw [List.append_nil]
    exact hI
  refine sb_i (a := ([] : va_W) ++ wH ty q o1 σ1) (b := wM ty r) (σ := τ1) (c0 := []) (res := (gI τ1 0, τ1)) (rest := []) X fxM (fun _ _ _ _ => trivial) hI (m_X5_thrown l D ty r τ1 _ rfl) ok_X5_thrown ll_53 ⟨rfl, rfl, Nat.le_of_ble_eq_true rfl, Nat.le_of_ble_eq_true rfl⟩ 0 rc_X5 rfl rfl hl.1 rfl (Nat.le_of_ble_eq_true rfl) ⟨by show cells + 1 ≤ 601024; omega, by show slots + 6 ≤ 7293034; omega⟩ dL_law_504 (fun H locs hI => ?_)
  replace hI : Inw D ty (FxD q) ((([] : va_W) ++ wH ty q o1 σ1) ++ wM ty r τ1) (fun z : Nat => s.heap.size ≤ z) s H locs := by
    have h9 := hI
    rw [List.append_nil] at h9
    exact h9
  refine lv_iload X.1 X.2.1 dL_law_507 (lv_at hl 1 rfl) ?_
  refine lv_icmp_eq (tgt := 514) X.1 X.2.1 dL_law_509 (by decide) (fun _ => ?_) (fun c9 => absurd e3 c9)
  refine lv_iload X.1 X.2.1 dL_law_514 (lv_at hl 1 rfl) ?_
  have hE : W p l e room_1 s m #[Value.ref b] below meth c H locs (cells + 1) (slots + 6) Q (F0 m 531 ls []) := by
    refine lv_goto (tgt := 571) X.1 X.2.1 dL_law_531 (by decide) ?_
    exact W.widen (by omega) (by omega) (hB σ1 τ1 o1 _ _ ls hR1 hI (lv_sub hl [2, 3, 4, 5, 6] rfl))
  refine lv_if_ne (tgt := 531) X.1 X.2.1 dL_law_516 (by decide) (fun _ => hE) (fun c8 => ?_)
  refine lv_aload_n X.1 X.2.1 dL_law_519 rfl (lv_at hl 5 rfl) ?_
  refine lv_iconst (v := 0) X.1 X.2.1 dL_law_520 (by decide) ?_
  refine va_lald X.1 X.2.1 hI.1 hI.2.1 21 4 (f := up0 o1) rfl rfl (i := 0) (pk_in 0 1 (by decide) rfl (by decide)) dL_law_521 ?_
  rw [up3]
  refine lv_iload X.1 X.2.1 dL_law_522 (lv_at hl 0 rfl) ?_
  refine lv_i2l (v := r1.toInt64) X.1 X.2.1 dL_law_524 rfl ?_
  refine W.lcmp X.1 X.2.1 dL_law_525 ?_
  refine lv_if_eq (tgt := 531) X.1 X.2.1 dL_law_526 (by decide) (fun _ => hE) (fun c7 => absurd (by rw [e4 c8]; exact lg_same _) c7)
set_option maxHeartbeats 4000000 in
set_option maxRecDepth 100000 in
theorem lo_local (X : CallFix p m c cL_law 7 s #[Value.ref b] tb RL) (hst : l.stackTraces = false) (hX : va_X b L xs s s.heap) (hbl : b < s.heap.size) {i : Nat} (hi : i + 4 ≤ L) (hL : L ≤ 2048) (hc1 : cells + 2 ≤ 601024) (hc2 : slots + 12 ≤ 7293034) (hI : Inw D ty (FxD q) (wL ty q r o σ τ) (fun z : Nat => s.heap.size ≤ z) s H locs) (hR : Rel σ τ) (hl : lv_has ls 7 [(0, .ref b), (1, .ref (q 0)), (2, .ref (r 0)), (3, .ref (q 23)), (4, .int (nI i))]) (hB : ∀ (σ τ : St) (o : Int32) (H : Heap) (locs : List Loc) (ls : Array Slot), Rel σ τ → Inw D ty (FxD q) (wL ty q r o σ τ) (fun z : Nat => s.heap.size ≤ z) s H locs → lv_has ls 7 [(0, .ref b), (1, .ref (q 0)), (2, .ref (r 0)), (3, .ref (q 23)), (4, .int (nI i))] → W p l e room_1 s m #[Value.ref b] below meth c H locs (cells + 2) (slots + 12) Q (F0 m 571 ls [])) : W p l e room_1 s m #[Value.ref b] below meth c H locs cells slots Q (F0 m 534 ls []) := by
  have hbA : ¬ (fun z : Nat => s.heap.size ≤ z) b := Nat.not_le.mpr hbl
  have hk1 : vp_in (nI i + 1) L := by
    show vp_in (nI i + nI 1) L
    rw [nI_add]
    exact vp_in_nI (by omega) (by omega)
  have hk2 : vp_in (nI i + 2) L := by
    show vp_in (nI i + nI 2) L
    rw [nI_add]
    exact vp_in_nI (by omega) (by omega)
  have hk3 : vp_in (nI i + 3) L := by
    show vp_in (nI i + nI 3) L
    rw [nI_add]
    exact vp_in_nI (by omega) (by omega)
  refine lv_aload_n X.1 X.2.1 dL_law_534 rfl (lv_at hl 1 rfl) ?_
  refine lv_aload_n X.1 X.2.1 dL_law_535 rfl (lv_at hl 0 rfl) ?_
  refine lv_iload X.1 X.2.1 dL_law_536 (lv_at hl 4 rfl) ?_
  refine lv_iconst (v := 1) X.1 X.2.1 dL_law_538 (by decide) ?_
  refine lv_iadd X.1 X.2.1 dL_law_539 ?_
  refine va_sld X.1 X.2.1 hX hbl hbA hI.2.2.2.1 hk1 dL_law_540 ?_
  refine lv_aload_n X.1 X.2.1 dL_law_541 rfl (lv_at hl 0 rfl) ?_
  refine lv_iload X.1 X.2.1 dL_law_542 (lv_at hl 4 rfl) ?_
  refine lv_iconst (v := 2) X.1 X.2.1 dL_law_544 (by decide) ?_
  refine lv_iadd X.1 X.2.1 dL_law_545 ?_
  refine va_sld X.1 X.2.1 hX hbl hbA hI.2.2.2.1 hk2 dL_law_546 ?_
  obtain ⟨r1, e1, e2⟩ := a_local hR (xs (nI i + 1).toNatClampNeg) (xs (nI i + 2).toNatClampNeg)
  replace hI : Inw D ty (FxD q) ((([] : va_W) ++ wC ty q σ) ++ ([(q 23, .inl (ty 4, 1, .inr (.inl (up0 o))))] ++ wM ty r τ)) (fun z : Nat => s.heap.size ≤ z) s H locs := by
    rw [← wL_c]
    exact hI
  refine sb_i (a := []) (b := wC ty q) (σ := σ) (c0 := [(q 23, .inl (ty 4, 1, .inr (.inl (up0 o))))] ++ wM ty r τ) (res := (r1, σ)) (rest := []) X (fxC q) (fun _ _ _ h => h.1) hI (m_X4_local l D ty q σ _ (xs (nI i + 1).toNatClampNeg) (xs (nI i + 2).toNatClampNeg) e1) ok_X4_local ll_81 ⟨rfl, rfl, Nat.le_of_ble_eq_true rfl, Nat.le_of_ble_eq_true rfl⟩ 0 rc_X4 rfl rfl hl.1 rfl (Nat.le_of_ble_eq_true rfl) ⟨by show cells ≤ 601024; omega, by show slots ≤ 7293034; omega⟩ dL_law_547 (fun H locs hI => ?_)
  replace hI : Inw D ty (FxD q) ((([] : va_W) ++ wH ty q o σ) ++ wM ty r τ) (fun z : Nat => s.heap.size ≤ z) s H locs := by
    have h9 := hI
    rw [← wL_c] at h9
    exact h9
  refine lv_aload_n X.1 X.2.1 dL_law_550 rfl (lv_at hl 2 rfl) ?_
  refine lv_aload_n X.1 X.2.1 dL_law_551 rfl (lv_at hl 0 rfl) ?_
  refine lv_iload X.1 X.2.1 dL_law_552 (lv_at hl 4 rfl) ?_
  refine lv_iconst (v := 1) X.1 X.2.1 dL_law_554 (by decide) ?_
  refine lv_iadd X.1 X.2.1 dL_law_555 ?_
  refine va_sld X.1 X.2.1 hX hbl hbA hI.2.2.2.1 hk1 dL_law_556 ?_
  refine lv_aload_n X.1 X.2.1 dL_law_557 rfl (lv_at hl 0 rfl) ?_
  refine lv_iload X.1 X.2.1 dL_law_558 (lv_at hl 4 rfl) ?_
  refine lv_iconst (v := 2) X.1 X.2.1 dL_law_560 (by decide) ?_
  refine lv_iadd X.1 X.2.1 dL_law_561 ?_
  refine va_sld X.1 X.2.1 hX hbl hbA hI.2.2.2.1 hk2 dL_law_562 ?_
  replace hI : Inw D ty (FxD q) (((([] : va_W) ++ wH ty q o σ) ++ wM ty r τ) ++ []) (fun z : Nat => s.heap.size ≤ z) s H locs := by
    rw [List.append_nil]
    exact hI
  refine sb_i (a := ([] : va_W) ++ wH ty q o σ) (b := wM ty r) (σ := τ) (c0 := []) (res := (r1, (sI τ 0 0))) (rest := [.int r1]) X fxM (fun _ _ _ _ => trivial) hI (m_X5_local l D ty r τ _ (xs (nI i + 1).toNatClampNeg) (xs (nI i + 2).toNatClampNeg) e2) ok_X5_local ll_85 ⟨rfl, rfl, Nat.le_of_ble_eq_true rfl, Nat.le_of_ble_eq_true rfl⟩ 0 rc_X5 rfl rfl hl.1 rfl (Nat.le_of_ble_eq_true rfl) ⟨by show cells ≤ 601024; omega, by show slots ≤ 7293034; omega⟩ dL_law_563 (fun H locs hI => ?_)
  replace hI : Inw D ty (FxD q) ((([] : va_W) ++ wH ty q o σ) ++ wM ty r (sI τ 0 0)) (fun z : Nat => s.heap.size ≤ z) s H locs := by
    have h9 := hI
    rw [List.append_nil] at h9
    exact h9
  refine lv_icmp_eq (tgt := 571) X.1 X.2.1 dL_law_566 (by decide) (fun _ => ?_) (fun c9 => absurd rfl c9)
  exact W.widen (by omega) (by omega) (hB σ (sI τ 0 0) o _ _ ls (hR.code 0) hI (lv_sub hl [0, 1, 2, 3, 4] rfl))
end Lo
