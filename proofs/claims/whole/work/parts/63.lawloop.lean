theorem lp_in {L i : Nat} (hL : L ≤ 2048) (hi : i ≤ L) (h : ¬ nI L - 4 < nI i) : i + 4 ≤ L := by
  by_cases c : 4 ≤ L
  · have e : nI L - 4 = nI (L - 4) := p_sub (b := 4) c
    rw [e] at h
    rcases Nat.lt_or_ge (L - 4) i with q | q
    · exact absurd (nI_lt q (by omega)) h
    · omega
  · exfalso
    apply h
    have hL4 : L = 0 ∨ L = 1 ∨ L = 2 ∨ L = 3 := by omega
    have hi4 : i = 0 ∨ i = 1 ∨ i = 2 ∨ i = 3 := by omega
    rcases hL4 with rfl | rfl | rfl | rfl <;> rcases hi4 with rfl | rfl | rfl | rfl <;> first | decide | omega
set_option maxHeartbeats 4000000 in
set_option maxRecDepth 100000 in
/-- the law's loop: class and reference are alike at its head -/
theorem law_loop {p : Program} {l : Launch} {e : Env} {s : State} {m : MethodId} {below : List Frame} {meth : Method} {c : Code} {D : va_G} {ty : Nat → ClassId} {q r : Nat → Nat} {b L : Nat} {xs : Nat → Int32} (hst : l.stackTraces = false) (hL : L ≤ 2048) (C0 : lw_At p s m meth c b L xs) :
    ∀ (n j : Nat) (σ τ : St) (o : Int32) (H : Heap) (locs : List Loc) (ls : Array Slot), 4 * j ≤ L → L + 1 ≤ 4 * j + 4 * n → Rel σ τ → Inw D ty (FxD q) (wL ty q r o σ τ) (fun z : Nat => s.heap.size ≤ z) s H locs → lv_has ls 7 [(0, .ref b), (1, .ref (q 0)), (2, .ref (r 0)), (3, .ref (q 23)), (4, .int (nI (4 * j)))] → W p l e room_1 s m #[Value.ref b] below meth c H locs (34 + 2 * j) (10180 + 12 * j) (lw_Z below #[Value.ref b] s) (F0 m 23 ls []) := by
  obtain ⟨hx, hb, hr, hml, hown, hts, hX, hbl, hlocks, hgv⟩ := C0
  have hbA : ¬ (fun z : Nat => s.heap.size ≤ z) b := Nat.not_le.mpr hbl
  have X : CallFix p m c cL_law 7 s #[Value.ref b] tb RL := ⟨hx, hb, hml, hown, fun w hw => hts w (tb_lw hw)⟩
  intro n
  induction n with
  | zero =>
    intro j σ τ o H locs ls h1 h2
    exact absurd h2 (by omega)
  | succ n ih =>
    intro j σ τ o H locs ls hj hn hR hI hl
    have hS := hI.2.2.2.1
    refine lv_iload X.1 X.2.1 dL_law_23 (lv_at hl 4 rfl) ?_
    refine lv_aload_n X.1 X.2.1 dL_law_25 rfl (lv_at hl 0 rfl) ?_
    refine va_slen X.1 X.2.1 hX hbl hbA hS dL_law_26 ?_
    refine lv_iconst (v := 4) X.1 X.2.1 dL_law_27 (by decide) ?_
    refine lv_isub X.1 X.2.1 dL_law_28 ?_
    refine lv_icmp_gt (tgt := 577) X.1 X.2.1 dL_law_29 (by decide) (fun _ => ?_) (fun c9 => ?_)
    · refine lv_iconst (v := 1) X.1 X.2.1 dL_law_577 (by decide) ?_
      refine va_forget (fun q hq => hS.2.2 q hq) ?_
      refine W.widen (k := 601024) (n := 7293034) (by omega) (by omega) ?_
      exact lw_ret hx hb hr hlocks dL_law_578
    · have hi : 4 * j + 4 ≤ L := lp_in hL hj c9
      have hk0 : vp_in (nI (4 * j)) L := vp_in_nI (by omega) (by omega)
      have hB : ∀ (σ τ : St) (o : Int32) (H : Heap) (locs : List Loc) (ls : Array Slot), Rel σ τ → Inw D ty (FxD q) (wL ty q r o σ τ) (fun z : Nat => s.heap.size ≤ z) s H locs → lv_has ls 7 [(0, .ref b), (1, .ref (q 0)), (2, .ref (r 0)), (3, .ref (q 23)), (4, .int (nI (4 * j)))] → W p l e room_1 s m #[Value.ref b] below meth c H locs (34 + 2 * j + 2) (10180 + 12 * j + 12) (lw_Z below #[Value.ref b] s) (F0 m 571 ls []) := by
        intro σ τ o H locs ls hR hI hl
        refine lv_iinc (v := nI (4 * (j + 1))) (lv' := [(4, .int (nI (4 * (j + 1)))), (0, .ref b), (1, .ref (q 0)), (2, .ref (r 0)), (3, .ref (q 23))]) X.1 X.2.1 dL_law_571 hl (k := 4) rfl (by show nI (4 * j) + nI 4 = _; rw [nI_add]; rfl) (by decide) rfl (fun ls hl => ?_)
        refine lv_goto (tgt := 23) X.1 X.2.1 dL_law_574 (by decide) ?_
        exact W.widen (by omega) (by omega) (ih (j + 1) σ τ o H locs ls (by omega) (by omega) hR hI (lv_sub hl [1, 2, 3, 4, 0] rfl))
      refine lv_aload_n X.1 X.2.1 dL_law_32 rfl (lv_at hl 0 rfl) ?_
      refine lv_iload X.1 X.2.1 dL_law_33 (lv_at hl 4 rfl) ?_
      refine va_sld X.1 X.2.1 hX hbl hbA hS hk0 dL_law_35 ?_
      refine lv_bipush (v := 15) X.1 X.2.1 dL_law_36 (by decide) ?_
      refine lv_iand X.1 X.2.1 dL_law_38 ?_
      obtain ⟨g, hg, hge⟩ := pk_andE (xs (nI (4 * j)).toNatClampNeg) (m := 15) 4 (by decide)
      rw [hge]
      have hg' : g = 0 ∨ g = 1 ∨ g = 2 ∨ g = 3 ∨ g = 4 ∨ g = 5 ∨ g = 6 ∨ g = 7 ∨ g = 8 ∨ g = 9 ∨ g = 10 ∨ g = 11 ∨ g = 12 ∨ g = 13 ∨ g = 14 ∨ g = 15 := by
        have : g < 16 := hg
        omega
      rcases hg' with rfl | rfl | rfl | rfl | rfl | rfl | rfl | rfl | rfl | rfl | rfl | rfl | rfl | rfl | rfl | rfl
      · refine lv_tableIn (tgt := 88) X.1 X.2.1 dL_law_39 (by decide) (by decide) rfl (by decide) ?_
        exact lo_code X hst hX hbl hi hL (by omega) (by omega) hI hR hl hB
      · refine lv_tableIn (tgt := 158) X.1 X.2.1 dL_law_39 (by decide) (by decide) rfl (by decide) ?_
        exact lo_clear X hst hX hbl hi hL (by omega) (by omega) hI hR hl hB
      · refine lv_tableIn (tgt := 194) X.1 X.2.1 dL_law_39 (by decide) (by decide) rfl (by decide) ?_
        exact lo_good X hst hX hbl hi hL (by omega) (by omega) hI hR hl hB
      · refine lv_tableIn (tgt := 250) X.1 X.2.1 dL_law_39 (by decide) (by decide) rfl (by decide) ?_
        exact lo_start X hst hX hbl hi hL (by omega) (by omega) hI hR hl hB
      · refine lv_tableIn (tgt := 310) X.1 X.2.1 dL_law_39 (by decide) (by decide) rfl (by decide) ?_
        exact lo_step X hst hX hbl hi hL (by omega) (by omega) hI hR hl hB
      · refine lv_tableIn (tgt := 366) X.1 X.2.1 dL_law_39 (by decide) (by decide) rfl (by decide) ?_
        exact lo_look X hst hX hbl hi hL (by omega) (by omega) hI hR hl hB
      · refine lv_tableIn (tgt := 422) X.1 X.2.1 dL_law_39 (by decide) (by decide) rfl (by decide) ?_
        exact lo_state X hst hX hbl hi hL (by omega) (by omega) hI hR hl hB
      · refine lv_tableIn (tgt := 478) X.1 X.2.1 dL_law_39 (by decide) (by decide) rfl (by decide) ?_
        exact lo_out X hst hX hbl hi hL (by omega) (by omega) hI hR hl hB
      · refine lv_tableIn (tgt := 534) X.1 X.2.1 dL_law_39 (by decide) (by decide) rfl (by decide) ?_
        exact lo_local X hst hX hbl hi hL (by omega) (by omega) hI hR hl hB
      · refine lv_tableOut (tgt := 571) X.1 X.2.1 dL_law_39 (Or.inr (by decide)) (by decide) ?_
        exact W.widen (by omega) (by omega) (hB σ τ o H locs ls hR hI hl)
      · refine lv_tableOut (tgt := 571) X.1 X.2.1 dL_law_39 (Or.inr (by decide)) (by decide) ?_
        exact W.widen (by omega) (by omega) (hB σ τ o H locs ls hR hI hl)
      · refine lv_tableOut (tgt := 571) X.1 X.2.1 dL_law_39 (Or.inr (by decide)) (by decide) ?_
        exact W.widen (by omega) (by omega) (hB σ τ o H locs ls hR hI hl)
      · refine lv_tableOut (tgt := 571) X.1 X.2.1 dL_law_39 (Or.inr (by decide)) (by decide) ?_
        exact W.widen (by omega) (by omega) (hB σ τ o H locs ls hR hI hl)
      · refine lv_tableOut (tgt := 571) X.1 X.2.1 dL_law_39 (Or.inr (by decide)) (by decide) ?_
        exact W.widen (by omega) (by omega) (hB σ τ o H locs ls hR hI hl)
      · refine lv_tableOut (tgt := 571) X.1 X.2.1 dL_law_39 (Or.inr (by decide)) (by decide) ?_
        exact W.widen (by omega) (by omega) (hB σ τ o H locs ls hR hI hl)
      · refine lv_tableOut (tgt := 571) X.1 X.2.1 dL_law_39 (Or.inr (by decide)) (by decide) ?_
        exact W.widen (by omega) (by omega) (hB σ τ o H locs ls hR hI hl)
