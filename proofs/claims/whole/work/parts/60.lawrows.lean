/-! the law's world, and calls on its parts -/
def wL (ty : Nat → ClassId) (q r : Nat → Nat) (o : Int32) (σ τ : St) : va_W := (([] : va_W) ++ wH ty q o σ) ++ wM ty r τ
theorem wL_m (ty : Nat → ClassId) (q r : Nat → Nat) (o : Int32) (σ τ : St) : wL ty q r o σ τ = (((([] : va_W) ++ wH ty q o σ)) ++ wM ty r τ) ++ [] := (List.append_nil _).symm
theorem wL_c (ty : Nat → ClassId) (q r : Nat → Nat) (o : Int32) (σ τ : St) : wL ty q r o σ τ = (([] : va_W) ++ wC ty q σ) ++ ([(q 23, .inl (ty 4, 1, .inr (.inl (up0 o))))] ++ wM ty r τ) := by
  unfold wL wH
  rw [List.nil_append, List.nil_append, List.append_assoc]
theorem wL_o {ty : Nat → ClassId} {q r : Nat → Nat} {o : Int32} {σ τ : St} : (wL ty q r o σ τ)[21]? = some (q 23, .inl (ty 4, 1, .inr (.inl (up0 o)))) := rfl
theorem up3 (o : Int32) : up0 o (0 : Int32).toNatClampNeg = o.toInt64 := by
  have e : (0 : Int32).toNatClampNeg = 0 := by decide
  rw [e]
  unfold up0 vp_updL
  rw [if_pos rfl]
theorem lg_same (x : Int64) : lg_cmp x x = 0 := by
  unfold lg_cmp
  simp
theorem wsh_ride {args : Array Value} {s : State} (hts : ∀ w ∈ tb, w.before args s = true) {y : MethodName} {cc : ByteArray} {n : Nat} {ret : Option FieldType} {hh : List (Nat × Nat × Nat × Nat)} (hc : Cond.codeWith y cc n ret hh ∈ tb) : ∀ w ∈ wsh y cc n ret hh, ∀ (a' : Array Value) (U : State), s.WarmedH U.vm → w.before a' U = true := by
  intro w hw a' U hW
  rcases List.mem_cons.mp hw with rfl | h
  · exact tb_ride hts hc a' U hW
  · exact tb_ride hts h a' U hW
def OkH (y : MethodName) (bytes : ByteArray) (maxL : Nat) (ret : Option FieldType) (hh : List (Nat × Nat × Nat × Nat)) (n : Nat) : Prop :=
  Cond.codeWith y bytes maxL ret hh ∈ tb ∧ Cond.initialized y.cls ∈ tb ∧ (y.cls ≠ "java/lang/invoke/MethodHandle" ∧ y.cls ≠ "java/lang/invoke/VarHandle") ∧ (parseMethodDescriptor y.desc).map (fun d => d.parameters.length) = some n ∧ Cond.static y ∈ tb
section Lr
variable {p : Program} {l : Launch} {e : Env} {R : Room} {s : State} {m : MethodId} {args : Array Value} {below : List Frame} {meth : Method} {c : Code} {H : Heap} {locs : List Loc} {cells slots mc ms : Nat} {Q : State → Prop}
variable {cc : ByteArray} {pc nL : Nat} {ls : Array Slot} {rest st : List Value} {D : va_G} {ty : Nat → ClassId} {q : Nat → Nat} {a w0 c0 : va_W} {b : St → va_W} {A : Nat → Prop} {own : String} {σ : St} {o : Int32} {ret : Option FieldType} {Fx Fy : (Nat → Prop) → State → Heap → Prop}
/-- a helper of the law is called -/
theorem sh_i (X : CallFix p m c cc nL s args tb own) (hFx : FxOk Fy) (hfy : ∀ A U H, Fx A U H → Fy A U H) (hI : Inw D ty Fx ((a ++ wH ty q o σ) ++ c0) A s H locs) {y : MethodName} {bytes : ByteArray} {maxL n idx m1 s1 : Nat} {rt : Option FieldType} {hh : List (Nat × Nat × Nat × Nat)} {rm : Room} {As : List Value} {res : Rh}
    (hM : Met l y (wsh y bytes maxL rt hh) rm (Pcw D ty Fy (wH ty q o σ) H.size As) (Qih D ty q (va_A (wH ty q o σ) H.size) res) m1 s1 (va_A (wH ty q o σ) H.size)) (hO : OkH y bytes maxL rt hh n) (hl : Cond.methodLink own idx y ∈ tb) (hrm : rm.cells = m1 ∧ rm.slots = s1 ∧ rm.frames + 1 ≤ R.frames ∧ 8 + (maxL + 11) + rm.locals ≤ R.locals)
    (hn : As.length = n) (hsz : ls.size = nL) (hst : st = As.reverse ++ rest) (hW : (rest.map fun v => v.category).sum ≤ 8) (hcs : cells + m1 ≤ R.cells ∧ slots + s1 ≤ R.slots) (hd : decode cc pc = .ok (.invokestatic idx, 3))
    (kk : ∀ (H : Heap) (locs : List Loc), Inw D ty Fx ((a ++ wH ty q res.2.2 res.2.1) ++ c0) A s H locs → W p l e R s m args below meth c H locs (cells + m1) (slots + s1) Q (F0 m (pc + 3) ls (.int res.1 :: rest))) : W p l e R s m args below meth c H locs cells slots Q (F0 m pc ls st) := by
  have hIb := in_fx (in_sub hI) hfy
  have hfr := in_free hIb
  have hpre := in_pre hFx hIb As
  obtain ⟨hK, hP, hD, hS, hA, hF⟩ := hI
  subst hst
  obtain ⟨o1, o2, o3, o4, o5⟩ := hO
  have hts := X.2.2.2.2
  refine va_calli (mc := m1) (ms := s1) (vx_runSW (hh := hh) (As := As) (rest := rest) X hM ⟨⟨hrm.1, hrm.2.1, hrm.2.2.1, hrm.2.2.2, wsh_ride hts o1, List.mem_cons_self⟩, hts _ o1, hts _ o2, o3, fun sig h => by rw [h] at o4; exact (Option.some.inj o4).symm, hts _ hl, hts _ o5⟩ ⟨pc_blind hFx _ _ _, hpre⟩ rfl hn hsz rfl (lv_room hW) hd hcs) hS (fun q _ h => hfr q h) hfr (fun r u t H1 locs1 ht hvm hw hB hz1 hk1 hS1 => ?_)
  obtain ⟨hP1, hK1, hD1⟩ := hB
  rw [ht] at hP1
  obtain ⟨hP2, hD2⟩ := jn hP hD hk1 hfr hP1 hD1
  subst hw
  exact kk H1 locs1 ⟨hK, hP2, hD2, hS1, hA, hF⟩
/-- a method of an object of a part of the world -/
theorem sb_i (X : CallFix p m c cc nL s args tb own) (hFx : FxOk Fy) (hfy : ∀ A U H, Fx A U H → Fy A U H) (hI : Inw D ty Fx ((a ++ b σ) ++ c0) A s H locs) {y : MethodName} {C : String} {bytes : ByteArray} {maxL n idx bq : Nat} {rt : Option FieldType} {rm : Room} {As : List Value} {res : Int32 × St}
    (hM : Met l y (wsy y bytes maxL rt) rm (Pcw D ty Fy (b σ) H.size (.ref bq :: As)) (Qiw D ty b (va_A (b σ) H.size) res) 0 0 (va_A (b σ) H.size)) (hO : OkV y C bytes maxL rt n) (hl : Cond.methodLink own idx y ∈ tb) (hrm : RmOk rm R maxL)
    (i : Nat) {ci N : Nat} {T : u_T} {fs : List Value} (he : (b σ)[i]? = some (bq, .inr (ci, fs))) (hc : vwCl[ci]? = some (C, T, N)) (hn : As.length = n) (hsz : ls.size = nL) (hst : st = As.reverse ++ .ref bq :: rest) (hW : (rest.map fun v => v.category).sum ≤ 8) (hcs : cells ≤ R.cells ∧ slots ≤ R.slots) (hd : decode cc pc = .ok (.invokevirtual idx, 3))
    (kk : ∀ (H : Heap) (locs : List Loc), Inw D ty Fx ((a ++ b res.2) ++ c0) A s H locs → W p l e R s m args below meth c H locs cells slots Q (F0 m (pc + 3) ls (.int res.1 :: rest))) : W p l e R s m args below meth c H locs cells slots Q (F0 m pc ls st) := by
  have hIb := in_fx (in_sub hI) hfy
  have hfr := in_free hIb
  have hpre := in_pre hFx hIb (.ref bq :: As)
  have hrc := va_recv hIb.1 hIb.2.1 (ci := ci) (q0 := i) hc he
  obtain ⟨hK, hP, hD, hS, hA, hF⟩ := hI
  subst hst
  obtain ⟨o1, o2, o3, o4, o5, o6⟩ := hO
  refine va_calli (mc := 0) (ms := 0) (va_runV (As := As) (rest := rest) X hM ⟨cb_of X o1 o2 o3 o4 hl hrm, X.2.2.2.2 _ o5, X.2.2.2.2 _ o6⟩ ⟨pc_blind hFx _ _ _, hrc, hpre⟩ rfl hn hsz rfl (lv_room hW) hd hcs) hS (fun q _ h => hfr q h) hfr (fun r u t H1 locs1 ht hvm hw hB hz1 hk1 hS1 => ?_)
  obtain ⟨hP1, hK1, hD1⟩ := hB
  rw [ht] at hP1
  obtain ⟨hP2, hD2⟩ := jn hP hD hk1 hfr hP1 hD1
  subst hw
  exact kk H1 locs1 ⟨hK, hP2, hD2, hS1, hA, hF⟩
theorem sb_v (X : CallFix p m c cc nL s args tb own) (hFx : FxOk Fy) (hfy : ∀ A U H, Fx A U H → Fy A U H) (hI : Inw D ty Fx ((a ++ b σ) ++ c0) A s H locs) {y : MethodName} {C : String} {bytes : ByteArray} {maxL n idx bq : Nat} {rt : Option FieldType} {rm : Room} {As : List Value} {res : Int32 × St}
    (hM : Met l y (wsy y bytes maxL rt) rm (Pcw D ty Fy (b σ) H.size (.ref bq :: As)) (Qvw D ty b (va_A (b σ) H.size) res) 0 0 (va_A (b σ) H.size)) (hO : OkV y C bytes maxL rt n) (hl : Cond.methodLink own idx y ∈ tb) (hrm : RmOk rm R maxL)
    (i : Nat) {ci N : Nat} {T : u_T} {fs : List Value} (he : (b σ)[i]? = some (bq, .inr (ci, fs))) (hc : vwCl[ci]? = some (C, T, N)) (hn : As.length = n) (hsz : ls.size = nL) (hst : st = As.reverse ++ .ref bq :: rest) (hW : (rest.map fun v => v.category).sum ≤ 8) (hcs : cells ≤ R.cells ∧ slots ≤ R.slots) (hd : decode cc pc = .ok (.invokevirtual idx, 3))
    (kk : ∀ (H : Heap) (locs : List Loc), Inw D ty Fx ((a ++ b res.2) ++ c0) A s H locs → W p l e R s m args below meth c H locs cells slots Q (F0 m (pc + 3) ls rest)) : W p l e R s m args below meth c H locs cells slots Q (F0 m pc ls st) := by
  have hIb := in_fx (in_sub hI) hfy
  have hfr := in_free hIb
  have hpre := in_pre hFx hIb (.ref bq :: As)
  have hrc := va_recv hIb.1 hIb.2.1 (ci := ci) (q0 := i) hc he
  obtain ⟨hK, hP, hD, hS, hA, hF⟩ := hI
  subst hst
  obtain ⟨o1, o2, o3, o4, o5, o6⟩ := hO
  refine va_callv (mc := 0) (ms := 0) (va_runV (As := As) (rest := rest) X hM ⟨cb_of X o1 o2 o3 o4 hl hrm, X.2.2.2.2 _ o5, X.2.2.2.2 _ o6⟩ ⟨pc_blind hFx _ _ _, hrc, hpre⟩ rfl hn hsz rfl (lv_room hW) hd hcs) hS (fun q _ h => hfr q h) hfr (fun u t H1 locs1 ht hvm hw hB hz1 hk1 hS1 => ?_)
  obtain ⟨hP1, hK1, hD1⟩ := hB
  rw [ht] at hP1
  obtain ⟨hP2, hD2⟩ := jn hP hD hk1 hfr hP1 hD1
  subst hw
  exact kk H1 locs1 ⟨hK, hP2, hD2, hS1, hA, hF⟩
end Lr
