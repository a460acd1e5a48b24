theorem lc_8 : Cond.classLink RL 8 RX4 ∈ tb := tb_in (List.mem_of_getElem? (i := 38) (by decide +kernel)) (by decide +kernel)
theorem lc_44 : Cond.classLink RL 44 RX5 ∈ tb := tb_in (List.mem_of_getElem? (i := 582) (by decide +kernel)) (by decide +kernel)
theorem ll_43 : Cond.methodLink RL 43 yX4_init ∈ tb := tb_in (List.mem_of_getElem? (i := 40) (by decide +kernel)) (by decide +kernel)
theorem ll_46 : Cond.methodLink RL 46 yX5_init ∈ tb := tb_in (List.mem_of_getElem? (i := 584) (by decide +kernel)) (by decide +kernel)
theorem ar_long : Cond.arrayClass (newarray.typeOf .long) ∈ tb := tb_in (List.mem_of_getElem? (i := 745) (by decide +kernel)) (by decide +kernel)
/-- the cells of the class, by our numbers -/
def qn (t1 t2 h6 : Nat) (u : Nat → Nat) : Nat → Nat
  | 0 => u 0
  | 1 => u 1
  | 2 => u 9
  | 3 => u 10
  | 4 => u 14
  | 5 => u 2
  | 6 => u 8
  | 7 => u 20
  | 8 => u 11
  | 9 => u 12
  | 10 => u 13
  | 11 => u 15
  | 12 => u 16
  | 13 => u 17
  | 14 => u 18
  | 15 => u 19
  | 16 => u 3
  | 17 => u 4
  | 18 => u 5
  | 19 => u 6
  | 20 => u 7
  | 21 => t1
  | 22 => t2
  | 23 => h6
  | _ + 24 => 0
def s0 : St := (fun _ => 0, fun _ _ => 0)
theorem qn_row (t1 t2 h6 : Nat) (u : Nat → Nat) : (fun i => if i < 5 then some (u (3 + i)) else none) = (fun i => if i < 5 then some (qn t1 t2 h6 u (16 + i)) else none) := rowfn (fun i hi => by
  match i, hi with
  | 0, _ => rfl
  | 1, _ => rfl
  | 2, _ => rfl
  | 3, _ => rfl
  | 4, _ => rfl)
set_option maxRecDepth 100000 in
theorem re_L {D : va_G} {ty : Nat → ClassId} {Fx : (Nat → Prop) → State → Heap → Prop} {A : Nat → Prop} {s : State} {H : Heap} {locs : List Loc} {t1 t2 h6 : Nat} {u v : Nat → Nat} (hI : Inw D ty Fx ((wI_X4 ty u ++ wI_X5 ty v) ++ [(h6, .inl (ty 4, 1, .inr (.inl (fun _ => 0))))]) A s H locs) : Inw D ty Fx (wL ty (qn t1 t2 h6 u) v 0 s0 s0) A s H locs := by
  obtain ⟨hK, hP, hD, hS, hA, hF⟩ := hI
  rw [wI_X4, qn_row t1 t2 h6 u, up2] at hP hD
  exact ⟨hK, hP.sub [0, 1, 9, 10, 14, 2, 8, 20, 11, 12, 13, 15, 16, 17, 18, 19, 3, 4, 5, 6, 7, 33, 21, 22, 23, 24, 25, 26, 27, 28, 29, 30, 31, 32] rfl, hD.sub [0, 1, 9, 10, 14, 2, 8, 20, 11, 12, 13, 15, 16, 17, 18, 19, 3, 4, 5, 6, 7, 33, 21, 22, 23, 24, 25, 26, 27, 28, 29, 30, 31, 32] rfl rfl, hS, hA, hF⟩
set_option maxHeartbeats 4000000 in
set_option maxRecDepth 100000 in
/-- from the entry, for every script of at most 2048 ints, the law comes to its end with true -/
theorem whole_start {p : Program} {e : Env} {s : State} {m : MethodId} {below : List Frame} {meth : Method} {c : Code} (l : Launch) (hst : l.stackTraces = false) {b L : Nat} {xs : Nat → Int32} (hL : L ≤ 2048) (C0 : lw_At p s m meth c b L xs) : W p l e room_1 s m #[Value.ref b] below meth c s.heap [] 0 0 (lw_Z below #[Value.ref b] s) (entryFrame m ([Value.ref b] : List Value).toArray 7) := by
  obtain ⟨hx, hb, hr, hml, hown, hts, hX, hbl, hlocks, hgv⟩ := id C0
  have htb : ∀ w ∈ tb, w.before #[Value.ref b] s = true := fun w hw => hts w (tb_lw hw)
  have X : CallFix p m c cL_law 7 s #[Value.ref b] tb RL := ⟨hx, hb, hml, hown, htb⟩
  obtain ⟨t1, t2, hFD, hFI⟩ := fx_start hts hgv
  obtain ⟨ty, hty⟩ := ty_start hts
  obtain ⟨D, hDc⟩ := cl_start htb
  have hI : Inw D ty (fun A U H => FxD (qf t1 t2) A U H ∧ FxI A U H) [] (fun z : Nat => s.heap.size ≤ z) s s.heap [] := ⟨⟨hDc, hty⟩, fun k q h => by simp at h, ⟨fun i j p q h => by simp at h, fun k q h => by simp at h⟩, va_S.rf, fun _ h => h, hFD, hFI⟩
  have hl := lv_entry ([.ref b]) (n := 7) (Nat.le_of_ble_eq_true rfl)
  rw [lg_entry_eq]
  generalize (lg_sl ([.ref b]) ++ List.replicate (7 - (lg_sl ([.ref b])).length) Slot.unset).toArray = ls at hl ⊢
  have hl : lv_has ls 7 [(0, .ref b)] := hl
  refine nw_o (ci := 4) (fs := [.null, .null]) X hI lc_8 in_X4 ini_X4 utX4 tyX4 tyX4_ok rfl (fun j hj => by rcases (show j = 0 ∨ j = 1 by omega) with rfl | rfl <;> rfl) (Nat.le_of_ble_eq_true rfl) (Nat.le_of_ble_eq_true rfl) dL_law_0 (fun h4 H hI => ?_)
  replace hI : Inw D ty (fun A U H => FxD (qf t1 t2) A U H ∧ FxI A U H) ((([] : va_W) ++ [(h4, .inr (4, [.null, .null]))]) ++ []) (fun z : Nat => s.heap.size ≤ z) s H [] := hI
  refine lv_dup X.1 X.2.1 dL_law_3 rfl ?_
  refine ci_n (a := []) (b0 := [(h4, .inr (4, [.null, .null]))]) (c0 := []) (wq := wI_X4 ty) (host := RX4) (rest := [.ref h4]) X fxI (fun _ _ _ h => h.2) hI (m_X4_init l D ty h4 _) oi_X4 (Or.inr ll_43) ⟨rfl, rfl, Nat.le_of_ble_eq_true rfl, Nat.le_of_ble_eq_true rfl⟩ rfl hl.1 rfl (Nat.le_of_ble_eq_true rfl) ⟨Nat.le_of_ble_eq_true rfl, Nat.le_of_ble_eq_true rfl⟩ dL_law_4 (fun u H locs hu hI => ?_)
  replace hI : Inw D ty (fun A U H => FxD (qf t1 t2) A U H ∧ FxI A U H) (wI_X4 ty u) (fun z : Nat => s.heap.size ≤ z) s H locs := by
    have h9 := hI
    rw [List.nil_append, List.append_nil] at h9
    exact h9
  refine lv_astore_n (lv' := [(1, .ref h4), (0, .ref b)]) X.1 X.2.1 dL_law_7 rfl hl (by decide) rfl (fun ls hl => ?_)
  refine nw_o (ci := 5) (fs := [.int 0, .null, .null, .int 0, .int 0, .null, .null, .int 0, .int 0, .int 0, .int 0, .int 0, .null, .null, .null, .null, .null, .int 0, .null, .int 0, .int 0, .null]) X hI lc_44 in_X5 ini_X5 utX5 tyX5 tyX5_ok rfl (fun j hj => by rcases (show j = 0 ∨ j = 1 ∨ j = 2 ∨ j = 3 ∨ j = 4 ∨ j = 5 ∨ j = 6 ∨ j = 7 ∨ j = 8 ∨ j = 9 ∨ j = 10 ∨ j = 11 ∨ j = 12 ∨ j = 13 ∨ j = 14 ∨ j = 15 ∨ j = 16 ∨ j = 17 ∨ j = 18 ∨ j = 19 ∨ j = 20 ∨ j = 21 by omega) with rfl | rfl | rfl | rfl | rfl | rfl | rfl | rfl | rfl | rfl | rfl | rfl | rfl | rfl | rfl | rfl | rfl | rfl | rfl | rfl | rfl | rfl <;> rfl) (Nat.le_of_ble_eq_true rfl) (Nat.le_of_ble_eq_true rfl) dL_law_8 (fun h5 H hI => ?_)
  replace hI : Inw D ty (fun A U H => FxD (qf t1 t2) A U H ∧ FxI A U H) ((wI_X4 ty u ++ [(h5, .inr (5, [.int 0, .null, .null, .int 0, .int 0, .null, .null, .int 0, .int 0, .int 0, .int 0, .int 0, .null, .null, .null, .null, .null, .int 0, .null, .int 0, .int 0, .null]))]) ++ []) (fun z : Nat => s.heap.size ≤ z) s H locs := by
    rw [List.append_nil]
    exact hI
  refine lv_dup X.1 X.2.1 dL_law_11 rfl ?_
  refine ci_n (a := wI_X4 ty u) (b0 := [(h5, .inr (5, [.int 0, .null, .null, .int 0, .int 0, .null, .null, .int 0, .int 0, .int 0, .int 0, .int 0, .null, .null, .null, .null, .null, .int 0, .null, .int 0, .int 0, .null]))]) (c0 := []) (wq := wI_X5 ty) (host := RX5) (rest := [.ref h5]) X fxI (fun _ _ _ h => h.2) hI (m_X5_init l D ty h5 _) oi_X5 (Or.inr ll_46) ⟨rfl, rfl, Nat.le_of_ble_eq_true rfl, Nat.le_of_ble_eq_true rfl⟩ rfl hl.1 rfl (Nat.le_of_ble_eq_true rfl) ⟨Nat.le_of_ble_eq_true rfl, Nat.le_of_ble_eq_true rfl⟩ dL_law_12 (fun v H locs hv hI => ?_)
  replace hI : Inw D ty (fun A U H => FxD (qf t1 t2) A U H ∧ FxI A U H) (wI_X4 ty u ++ wI_X5 ty v) (fun z : Nat => s.heap.size ≤ z) s H locs := by
    have h9 := hI
    rw [List.append_nil] at h9
    exact h9
  refine lv_astore_n (lv' := [(2, .ref h5), (1, .ref h4), (0, .ref b)]) X.1 X.2.1 dL_law_15 rfl hl (by decide) rfl (fun ls hl => ?_)
  refine lv_iconst (v := 1) X.1 X.2.1 dL_law_16 (by decide) ?_
  refine nw_a (a0 := (1, .inr (.inl (fun _ => 0)))) (N := 1) X hI ar_long rfl 4 rfl (fun _ h => h) (fun _ => rfl) (by decide) (by decide) (by decide) (Nat.le_of_ble_eq_true rfl) (Nat.le_of_ble_eq_true rfl) dL_law_17 (fun h6 H hI => ?_)
  refine lv_astore_n (lv' := [(3, .ref h6), (2, .ref h5), (1, .ref h4), (0, .ref b)]) X.1 X.2.1 dL_law_19 rfl hl (by decide) rfl (fun ls hl => ?_)
  refine lv_iconst (v := 0) X.1 X.2.1 dL_law_20 (by decide) ?_
  refine lv_istore (lv' := [(4, .int 0), (3, .ref h6), (2, .ref h5), (1, .ref h4), (0, .ref b)]) X.1 X.2.1 dL_law_21 hl (by decide) rfl (fun ls hl => ?_)
  have hJ : Inw D ty (FxD (qn t1 t2 h6 u)) (wL ty (qn t1 t2 h6 u) v 0 s0 s0) (fun z : Nat => s.heap.size ≤ z) s H locs := in_fx (re_L (t1 := t1) (t2 := t2) hI) (fun A U H h => h.1)
  rw [← hu, ← hv] at hl
  refine W.widen (k := 34 + 2 * 0) (n := 10180 + 12 * 0) (Nat.le_of_ble_eq_true rfl) (Nat.le_of_ble_eq_true rfl) ?_
  exact law_loop (q := qn t1 t2 h6 u) (r := v) hst hL C0 (L + 1) 0 s0 s0 0 H locs ls (by omega) (by omega) (Rel.zero (fun _ _ => rfl) rfl (fun _ _ _ => rfl) (fun _ => rfl)) hJ (lv_sub hl [4, 3, 2, 1, 0] rfl)
