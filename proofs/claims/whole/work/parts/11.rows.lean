/-- what a callee's own words say: an instance method, a static one -/
def OkV (y : MethodName) (C : String) (bytes : ByteArray) (maxL : Nat) (ret : Option FieldType) (n : Nat) : Prop :=
  Cond.code y bytes maxL ret ∈ tb ∧ Cond.initialized y.cls ∈ tb ∧ (y.cls ≠ "java/lang/invoke/MethodHandle" ∧ y.cls ≠ "java/lang/invoke/VarHandle") ∧ (parseMethodDescriptor y.desc).map (fun d => d.parameters.length) = some n ∧ Cond.instanceMethod y ∈ tb ∧ Cond.selects C y y ∈ tb
def OkS (y : MethodName) (bytes : ByteArray) (maxL : Nat) (ret : Option FieldType) (n : Nat) : Prop :=
  Cond.code y bytes maxL ret ∈ tb ∧ Cond.initialized y.cls ∈ tb ∧ (y.cls ≠ "java/lang/invoke/MethodHandle" ∧ y.cls ≠ "java/lang/invoke/VarHandle") ∧ (parseMethodDescriptor y.desc).map (fun d => d.parameters.length) = some n ∧ Cond.static y ∈ tb
abbrev RmOk (rm R : Room) (maxL : Nat) : Prop := rm.cells = 0 ∧ rm.slots = 0 ∧ rm.frames + 1 ≤ R.frames ∧ 8 + (maxL + 11) + rm.locals ≤ R.locals
section Rw
variable {p : Program} {l : Launch} {e : Env} {R : Room} {s : State} {m : MethodId} {args : Array Value} {below : List Frame} {meth : Method} {c : Code} {H : Heap} {locs : List Loc} {cells slots : Nat} {Q : State → Prop}
variable {cc : ByteArray} {pc nL : Nat} {ls : Array Slot} {rest st : List Value} {D : va_G} {ty : Nat → ClassId} {Fx : (Nat → Prop) → State → Heap → Prop} {w : St → va_W} {w0 : va_W} {A : Nat → Prop} {own : String} {σ : St} {res : Int32 × St} {ret : Option FieldType}
theorem gt_f (X : CallFix p m c cc nL s args tb own) (hI : Inw D ty Fx w0 A s H locs) (i : Nat) {ci a N idx : Nat} {C : String} {T : u_T} {fs : List Value} (he : w0[i]? = some (a, .inr (ci, fs))) (hc : vwCl[ci]? = some (C, T, N)) (hu : ∀ w ∈ u_ws C T N, w ∈ tb) (k : Nat) (hk : k < N)
    (hl : Cond.fieldLink own idx C (T k).2.1 (T k).2.2.1 ∈ tb) (h1 : (T k).1 = C) {v : Value} (hv : fs[k]? = some v) (hd : decode cc pc = .ok (.getfield idx, 3))
    (kk : W p l e R s m args below meth c H locs cells slots Q (F0 m (pc + 3) ls (v :: rest))) : W p l e R s m args below meth c H locs cells slots Q (F0 m pc ls (.ref a :: rest)) := by
  obtain ⟨hK, hP, -⟩ := hI
  obtain ⟨hx, hb, hml, ho, hts⟩ := X
  exact va_get hx hb hts hu ho hK hP i he hc k hk (hts _ hl) (fun x h => by rw [h1] at h; exact h) hv hd kk
theorem pt_f (X : CallFix p m c cc nL s args tb own) (hI : Inw D ty Fx w0 A s H locs) (i : Nat) {ci a N idx : Nat} {C : String} {T : u_T} {fs : List Value} (he : w0[i]? = some (a, .inr (ci, fs))) (hc : vwCl[ci]? = some (C, T, N)) (hu : ∀ w ∈ u_ws C T N, w ∈ tb) (t0 : Nat → FieldType) (ht0 : ∀ k, k < N → parseFieldDescriptor (T k).2.2.1 = some (t0 k)) (hnm : ∀ a, a < N → ∀ b, b < N → a ≠ b → (T a).2.1 ≠ (T b).2.1) (k : Nat) (hk : k < N)
    (hl : Cond.fieldLink own idx C (T k).2.1 (T k).2.2.1 ∈ tb) (h1 : (T k).1 = C) (hfin : (T k).2.2.2 = false) (hpd : parseFieldDescriptor (T k).2.2.1 = some .int) {v : Int32} (hlen : k < fs.length) {w1 : va_W} (hw : w0.set i (a, .inr (ci, fs.set k (.int v))) = w1) (hd : decode cc pc = .ok (.putfield idx, 3))
    (kk : ∀ (H : Heap) (locs : List Loc), Inw D ty Fx w1 A s H locs → W p l e R s m args below meth c H locs cells slots Q (F0 m (pc + 3) ls rest)) : W p l e R s m args below meth c H locs cells slots Q (F0 m pc ls (.int v :: .ref a :: rest)) := by
  obtain ⟨hK, hP, hD, hS, hA, hF⟩ := hI
  obtain ⟨hx, hb, hml, ho, hts⟩ := X
  subst hw
  exact va_put hx hb hts hu t0 ht0 hnm ho hK hP hD hS i he hc k hk (hts _ hl) (fun x h => by rw [h1] at h; exact h) hfin hpd rfl rfl hlen hd (fun H1 locs1 a1 a2 a3 => kk H1 locs1 ⟨hK, a1, a2, a3, hA, hF⟩)
theorem ra_i (X : CallFix p m c cc nL s args tb own) (hI : Inw D ty Fx w0 A s H locs) (i : Nat) {a n : Nat} {f : Nat → Int32} (he : w0[i]? = some (a, .inl (ty 0, n, .inl f))) {j : Int32} (hin : vp_in j n) (hd : decode cc pc = .ok (.iaload, 1))
    (kk : W p l e R s m args below meth c H locs cells slots Q (F0 m (pc + 1) ls (.int (f j.toNatClampNeg) :: rest))) : W p l e R s m args below meth c H locs cells slots Q (F0 m pc ls (.int j :: .ref a :: rest)) :=
  va_iald X.1 X.2.1 hI.1 hI.2.1 i 0 he rfl hin hd kk
theorem ra_b (X : CallFix p m c cc nL s args tb own) (hI : Inw D ty Fx w0 A s H locs) (i : Nat) {a n : Nat} {f : Nat → Int32} (he : w0[i]? = some (a, .inl (ty 1, n, .inl f))) {j : Int32} (hin : vp_in j n) (hd : decode cc pc = .ok (.baload, 1))
    (kk : W p l e R s m args below meth c H locs cells slots Q (F0 m (pc + 1) ls (.int (f j.toNatClampNeg) :: rest))) : W p l e R s m args below meth c H locs cells slots Q (F0 m pc ls (.int j :: .ref a :: rest)) :=
  va_bald X.1 X.2.1 hI.1 hI.2.1 i 1 he rfl hin hd kk
theorem ra_z (X : CallFix p m c cc nL s args tb own) (hI : Inw D ty Fx w0 A s H locs) (i : Nat) {a n : Nat} {f : Nat → Int32} (he : w0[i]? = some (a, .inl (ty 3, n, .inl f))) {j : Int32} (hin : vp_in j n) (hd : decode cc pc = .ok (.baload, 1))
    (kk : W p l e R s m args below meth c H locs cells slots Q (F0 m (pc + 1) ls (.int (f j.toNatClampNeg) :: rest))) : W p l e R s m args below meth c H locs cells slots Q (F0 m pc ls (.int j :: .ref a :: rest)) :=
  va_zald X.1 X.2.1 hI.1 hI.2.1 i 3 he rfl hin hd kk
theorem ra_q (X : CallFix p m c cc nL s args tb own) (hI : Inw D ty Fx w0 A s H locs) (i : Nat) {a n : Nat} {f : Nat → Option Nat} (he : w0[i]? = some (a, .inl (ty 2, n, .inr (.inr (.inr (.inr f)))))) {j : Int32} (hin : vp_in j n) {a2 : Nat} (h2 : f j.toNatClampNeg = some a2) (hd : decode cc pc = .ok (.aaload, 1))
    (kk : W p l e R s m args below meth c H locs cells slots Q (F0 m (pc + 1) ls (.ref a2 :: rest))) : W p l e R s m args below meth c H locs cells slots Q (F0 m pc ls (.int j :: .ref a :: rest)) := by
  have hlt : j.toNatClampNeg < n := Nat.not_le.mp fun q => hin (Or.inr q)
  have kk : W p l e R s m args below meth c H locs cells slots Q (F0 m (pc + 1) ls (va_rf (f j.toNatClampNeg) :: rest)) := by rw [h2]; exact kk
  exact W.aald (v := va_rf (f j.toNatClampNeg)) (ty := .array .byte) X.1 X.2.1 (hI.2.1 i _ he) ((hI.1.2 2 _ rfl).1 n (fun j => va_rf (f j))) rfl (fun q => by cases q) (by show ¬ (j < 0 ∨ (arrV _ _ _).slots.size ≤ _); rw [arrV_size]; exact hin) (by show (arrV _ _ _).slots[_]? = _; rw [arrV_read _ _ hlt]) rfl rfl hd kk
theorem wa_i (X : CallFix p m c cc nL s args tb own) (hI : Inw D ty Fx w0 A s H locs) (i : Nat) {a n : Nat} {f : Nat → Int32} (he : w0[i]? = some (a, .inl (ty 0, n, .inl f))) {j v : Int32} (hin : vp_in j n) {w1 : va_W} (hw : w0.set i (a, .inl (ty 0, n, .inl (upd f j.toNatClampNeg v))) = w1) (hd : decode cc pc = .ok (.iastore, 1))
    (kk : ∀ (H : Heap) (locs : List Loc), Inw D ty Fx w1 A s H locs → W p l e R s m args below meth c H locs cells slots Q (F0 m (pc + 1) ls rest)) : W p l e R s m args below meth c H locs cells slots Q (F0 m pc ls (.int v :: .int j :: .ref a :: rest)) := by
  obtain ⟨hK, hP, hD, hS, hA, hF⟩ := hI
  subst hw
  exact va_iast X.1 X.2.1 hK hP hD hS i 0 he rfl hin hd (fun H1 locs1 a1 a2 a3 => kk H1 locs1 ⟨hK, a1, a2, a3, hA, hF⟩)
theorem wa_b (X : CallFix p m c cc nL s args tb own) (hI : Inw D ty Fx w0 A s H locs) (i : Nat) {a n : Nat} {f : Nat → Int32} (he : w0[i]? = some (a, .inl (ty 1, n, .inl f))) {j v : Int32} (hin : vp_in j n) {w1 : va_W} (hw : w0.set i (a, .inl (ty 1, n, .inl (upd f j.toNatClampNeg (vp_nar .byte v)))) = w1) (hd : decode cc pc = .ok (.bastore, 1))
    (kk : ∀ (H : Heap) (locs : List Loc), Inw D ty Fx w1 A s H locs → W p l e R s m args below meth c H locs cells slots Q (F0 m (pc + 1) ls rest)) : W p l e R s m args below meth c H locs cells slots Q (F0 m pc ls (.int v :: .int j :: .ref a :: rest)) := by
  obtain ⟨hK, hP, hD, hS, hA, hF⟩ := hI
  subst hw
  exact va_bast X.1 X.2.1 hK hP hD hS i 1 he rfl hin hd (fun H1 locs1 a1 a2 a3 => kk H1 locs1 ⟨hK, a1, a2, a3, hA, hF⟩)
theorem wa_z (X : CallFix p m c cc nL s args tb own) (hI : Inw D ty Fx w0 A s H locs) (i : Nat) {a n : Nat} {f : Nat → Int32} (he : w0[i]? = some (a, .inl (ty 3, n, .inl f))) {j v : Int32} (hin : vp_in j n) {w1 : va_W} (hw : w0.set i (a, .inl (ty 3, n, .inl (upd f j.toNatClampNeg (vp_nar .boolean v)))) = w1) (hd : decode cc pc = .ok (.bastore, 1))
    (kk : ∀ (H : Heap) (locs : List Loc), Inw D ty Fx w1 A s H locs → W p l e R s m args below meth c H locs cells slots Q (F0 m (pc + 1) ls rest)) : W p l e R s m args below meth c H locs cells slots Q (F0 m pc ls (.int v :: .int j :: .ref a :: rest)) := by
  obtain ⟨hK, hP, hD, hS, hA, hF⟩ := hI
  subst hw
  exact va_zast X.1 X.2.1 hK hP hD hS i 3 he rfl hin hd (fun H1 locs1 a1 a2 a3 => kk H1 locs1 ⟨hK, a1, a2, a3, hA, hF⟩)
/-! calls: the callee's world is the caller's -/
theorem in_free (hI : Inw D ty Fx w0 A s H locs) : ∀ q, va_A w0 H.size q → A q := by
  obtain ⟨hK, hP, hD, hS, hA, hF⟩ := hI
  intro q h
  rcases h with ⟨k, e, h⟩ | h
  · exact hD.2 k _ h
  · exact hA q (Nat.le_trans hS.1 h)
theorem in_pre (hFx : FxOk Fx) (hI : Inw D ty Fx w0 A s H locs) (av : List Value) : ∀ U : State, U.heap = H → s.WarmedH U.vm → Pcw D ty Fx w0 H.size av av.toArray U := by
  have hfr := in_free hI
  obtain ⟨hK, hP, hD, hS, hA, hF⟩ := hI
  intro U hU hW
  exact ⟨rfl, by rw [hU], by rw [hU]; exact hP, va_K.moved hW.alike hK, hD.weaken (fun _ _ _ _ => trivial), by rw [hU]; exact hFx A _ s U s.heap H hW hF hS.2.1 hfr⟩
theorem pc_blind (hFx : FxOk Fx) (w0 : va_W) (sz : Nat) (av : List Value) : FrameBlind (Pcw D ty Fx w0 sz av) := by
  intro a U g mk h
  obtain ⟨h1, h2, h3, h4, h5, h6⟩ := h
  exact ⟨h1, h2, h3, va_K.moved (u := U) (U := U.calling g mk a) (Vm.Alike.refl U.vm) h4, h5, hFx _ _ U (U.calling g mk a) U.heap U.heap (State.WarmedH.refl U) h6 (fun _ _ _ => rfl) (fun _ h => h)⟩
theorem cb_of {y : MethodName} {bytes : ByteArray} {maxL n idx : Nat} {rt : Option FieldType} {rm : Room} (X : CallFix p m c cc nL s args tb own) (h1 : Cond.code y bytes maxL rt ∈ tb) (h2 : Cond.initialized y.cls ∈ tb) (h3 : y.cls ≠ "java/lang/invoke/MethodHandle" ∧ y.cls ≠ "java/lang/invoke/VarHandle") (h4 : (parseMethodDescriptor y.desc).map (fun d => d.parameters.length) = some n) (hl : Cond.methodLink own idx y ∈ tb) (hrm : RmOk rm R maxL) :
    CallB R s args own idx y bytes maxL rt (wsy y bytes maxL rt) rm 0 0 n := by
  obtain ⟨hx, hb, hml, ho, hts⟩ := X
  exact ⟨hrm.1, hrm.2.1, hrm.2.2.1, hrm.2.2.2, wsy_ride hts h1, List.mem_cons_self, hts _ h1, hts _ h2, h3, fun sig h => by rw [h] at h4; exact (Option.some.inj h4).symm, hts _ hl⟩
theorem cl_i (X : CallFix p m c cc nL s args tb own) (hFx : FxOk Fx) (hI : Inw D ty Fx (w σ) A s H locs) {y : MethodName} {C : String} {bytes : ByteArray} {maxL n idx b : Nat} {rt : Option FieldType} {rm : Room} {As : List Value}
    (hM : Met l y (wsy y bytes maxL rt) rm (Pcw D ty Fx (w σ) H.size (.ref b :: As)) (Qiw D ty w (va_A (w σ) H.size) res) 0 0 (va_A (w σ) H.size)) (hO : OkV y C bytes maxL rt n) (hl : Cond.methodLink own idx y ∈ tb) (hrm : RmOk rm R maxL)
    (i : Nat) {ci N : Nat} {T : u_T} {fs : List Value} (he : (w σ)[i]? = some (b, .inr (ci, fs))) (hc : vwCl[ci]? = some (C, T, N)) (hn : As.length = n) (hsz : ls.size = nL) (hst : st = As.reverse ++ .ref b :: rest) (hW : (rest.map fun v => v.category).sum ≤ 8) (hcs : cells ≤ R.cells ∧ slots ≤ R.slots) (hd : decode cc pc = .ok (.invokevirtual idx, 3))
    (kk : ∀ (H : Heap) (locs : List Loc), Inw D ty Fx (w res.2) A s H locs → W p l e R s m args below meth c H locs cells slots Q (F0 m (pc + 3) ls (.int res.1 :: rest))) : W p l e R s m args below meth c H locs cells slots Q (F0 m pc ls st) := by
  have hfr := in_free hI
  have hpre := in_pre hFx hI (.ref b :: As)
  obtain ⟨hK, hP, hD, hS, hA, hF⟩ := hI
  subst hst
  obtain ⟨o1, o2, o3, o4, o5, o6⟩ := hO
  refine va_calli (mc := 0) (ms := 0) (va_runV (As := As) (rest := rest) X hM ⟨cb_of X o1 o2 o3 o4 hl hrm, X.2.2.2.2 _ o5, X.2.2.2.2 _ o6⟩ ⟨pc_blind hFx _ _ _, va_recv hK hP (ci := ci) (q0 := i) hc he, hpre⟩ rfl hn hsz rfl (lv_room hW) hd hcs) hS (fun q _ h => hfr q h) hfr (fun r u t H1 locs1 ht hvm hw hB hz1 hk1 hS1 => ?_)
  obtain ⟨hP1, hK1, hD1⟩ := hB
  rw [ht] at hP1
  subst hw
  exact kk H1 locs1 ⟨hK, hP1, hD1.weaken (fun _ q _ h => hfr q.1 h), hS1, hA, hF⟩
theorem cl_v (X : CallFix p m c cc nL s args tb own) (hFx : FxOk Fx) (hI : Inw D ty Fx (w σ) A s H locs) {y : MethodName} {C : String} {bytes : ByteArray} {maxL n idx b : Nat} {rt : Option FieldType} {rm : Room} {As : List Value}
    (hM : Met l y (wsy y bytes maxL rt) rm (Pcw D ty Fx (w σ) H.size (.ref b :: As)) (Qvw D ty w (va_A (w σ) H.size) res) 0 0 (va_A (w σ) H.size)) (hO : OkV y C bytes maxL rt n) (hl : Cond.methodLink own idx y ∈ tb) (hrm : RmOk rm R maxL)
    (i : Nat) {ci N : Nat} {T : u_T} {fs : List Value} (he : (w σ)[i]? = some (b, .inr (ci, fs))) (hc : vwCl[ci]? = some (C, T, N)) (hn : As.length = n) (hsz : ls.size = nL) (hst : st = As.reverse ++ .ref b :: rest) (hW : (rest.map fun v => v.category).sum ≤ 8) (hcs : cells ≤ R.cells ∧ slots ≤ R.slots) (hd : decode cc pc = .ok (.invokevirtual idx, 3))
    (kk : ∀ (H : Heap) (locs : List Loc), Inw D ty Fx (w res.2) A s H locs → W p l e R s m args below meth c H locs cells slots Q (F0 m (pc + 3) ls rest)) : W p l e R s m args below meth c H locs cells slots Q (F0 m pc ls st) := by
  have hfr := in_free hI
  have hpre := in_pre hFx hI (.ref b :: As)
  obtain ⟨hK, hP, hD, hS, hA, hF⟩ := hI
  subst hst
  obtain ⟨o1, o2, o3, o4, o5, o6⟩ := hO
  refine va_callv (mc := 0) (ms := 0) (va_runV (As := As) (rest := rest) X hM ⟨cb_of X o1 o2 o3 o4 hl hrm, X.2.2.2.2 _ o5, X.2.2.2.2 _ o6⟩ ⟨pc_blind hFx _ _ _, va_recv hK hP (ci := ci) (q0 := i) hc he, hpre⟩ rfl hn hsz rfl (lv_room hW) hd hcs) hS (fun q _ h => hfr q h) hfr (fun u t H1 locs1 ht hvm hw hB hz1 hk1 hS1 => ?_)
  obtain ⟨hP1, hK1, hD1⟩ := hB
  rw [ht] at hP1
  subst hw
  exact kk H1 locs1 ⟨hK, hP1, hD1.weaken (fun _ q _ h => hfr q.1 h), hS1, hA, hF⟩
theorem cs_i (X : CallFix p m c cc nL s args tb own) (hFx : FxOk Fx) (hI : Inw D ty Fx (w σ) A s H locs) {y : MethodName} {bytes : ByteArray} {maxL n idx : Nat} {rt : Option FieldType} {rm : Room} {As : List Value}
    (hM : Met l y (wsy y bytes maxL rt) rm (Pcw D ty Fx (w σ) H.size As) (Qiw D ty w (va_A (w σ) H.size) res) 0 0 (va_A (w σ) H.size)) (hO : OkS y bytes maxL rt n) (hl : Cond.methodLink own idx y ∈ tb) (hrm : RmOk rm R maxL)
    (hn : As.length = n) (hsz : ls.size = nL) (hst : st = As.reverse ++ rest) (hW : (rest.map fun v => v.category).sum ≤ 8) (hcs : cells ≤ R.cells ∧ slots ≤ R.slots) (hd : decode cc pc = .ok (.invokestatic idx, 3))
    (kk : ∀ (H : Heap) (locs : List Loc), Inw D ty Fx (w res.2) A s H locs → W p l e R s m args below meth c H locs cells slots Q (F0 m (pc + 3) ls (.int res.1 :: rest))) : W p l e R s m args below meth c H locs cells slots Q (F0 m pc ls st) := by
  have hfr := in_free hI
  have hpre := in_pre hFx hI As
  obtain ⟨hK, hP, hD, hS, hA, hF⟩ := hI
  subst hst
  obtain ⟨o1, o2, o3, o4, o5⟩ := hO
  refine va_calli (mc := 0) (ms := 0) (va_runS (As := As) (rest := rest) X hM ⟨cb_of X o1 o2 o3 o4 hl hrm, X.2.2.2.2 _ o5⟩ ⟨pc_blind hFx _ _ _, hpre⟩ rfl hn hsz rfl (lv_room hW) hd hcs) hS (fun q _ h => hfr q h) hfr (fun r u t H1 locs1 ht hvm hw hB hz1 hk1 hS1 => ?_)
  obtain ⟨hP1, hK1, hD1⟩ := hB
  rw [ht] at hP1
  subst hw
  exact kk H1 locs1 ⟨hK, hP1, hD1.weaken (fun _ q _ h => hfr q.1 h), hS1, hA, hF⟩
theorem cn_i (X : CallFix p m c cc nL s args tb own) (hFx : FxOk Fx) (hI : Inw D ty Fx (w σ) A s H locs) {y : MethodName} {host : String} {bytes : ByteArray} {maxL n idx : Nat} {rt : Option FieldType} {rm : Room} {As : List Value}
    (hM : Met l y (wsy y bytes maxL rt) rm (Pcw D ty Fx (w σ) H.size As) (Qiw D ty w (va_A (w σ) H.size) res) 0 0 (va_A (w σ) H.size)) (hO : OkS y bytes maxL rt n) (hl : va_Nw (.methodLinkNest own idx y host) s) (hrm : RmOk rm R maxL)
    (hn : As.length = n) (hsz : ls.size = nL) (hst : st = As.reverse ++ rest) (hW : (rest.map fun v => v.category).sum ≤ 8) (hcs : cells ≤ R.cells ∧ slots ≤ R.slots) (hd : decode cc pc = .ok (.invokestatic idx, 3))
    (kk : ∀ (H : Heap) (locs : List Loc), Inw D ty Fx (w res.2) A s H locs → W p l e R s m args below meth c H locs cells slots Q (F0 m (pc + 3) ls (.int res.1 :: rest))) : W p l e R s m args below meth c H locs cells slots Q (F0 m pc ls st) := by
  have hfr := in_free hI
  have hpre := in_pre hFx hI As
  obtain ⟨hK, hP, hD, hS, hA, hF⟩ := hI
  subst hst
  obtain ⟨o1, o2, o3, o4, o5⟩ := hO
  have hts := X.2.2.2.2
  refine va_calli (mc := 0) (ms := 0) (va_runSN (host := host) (As := As) (rest := rest) X hM ⟨⟨⟨hrm.1, hrm.2.1, hrm.2.2.1, hrm.2.2.2, wsy_ride hts o1, List.mem_cons_self⟩, hts _ o1, hts _ o2, o3, fun sig h => by rw [h] at o4; exact (Option.some.inj o4).symm, va_Nw.use rfl hl⟩, hts _ o5, trivial⟩ ⟨pc_blind hFx _ _ _, hpre⟩ rfl hn hsz rfl (lv_room hW) hd hcs) hS (fun q _ h => hfr q h) hfr (fun r u t H1 locs1 ht hvm hw hB hz1 hk1 hS1 => ?_)
  obtain ⟨hP1, hK1, hD1⟩ := hB
  rw [ht] at hP1
  subst hw
  exact kk H1 locs1 ⟨hK, hP1, hD1.weaken (fun _ q _ h => hfr q.1 h), hS1, hA, hF⟩
theorem mx_i (X : CallFix p m c cc nL s args tb own) {idx : Nat} (hsz : ls.size = nL) (hl : Cond.methodLink own idx Lib.Math.max.name ∈ tb) (h1 : Cond.static Lib.Math.max.name ∈ tb) (h2 : Cond.initialized "java/lang/Math" ∈ tb) (h3 : Cond.code Lib.Math.max.name Lib.Math.max.code 2 (some .int) ∈ tb) (hR : 1 ≤ R.frames ∧ (rest.map fun v => v.category).sum + 13 ≤ R.locals) (hcs : cells ≤ R.cells ∧ slots ≤ R.slots) {x y : Int32} (hd : decode cc pc = .ok (.invokestatic idx, 3))
    (kk : W p l e R s m args below meth c H locs cells slots Q (F0 m (pc + 3) ls (.int (if x < y then y else x) :: rest))) : W p l e R s m args below meth c H locs cells slots Q (F0 m pc ls (.int y :: .int x :: rest)) :=
  va_mmax X.1 X.2.1 (X.2.2.1.trans hsz.symm) X.2.2.2.1 (X.2.2.2.2 _ hl) (X.2.2.2.2 _ h1) (X.2.2.2.2 _ h2) (X.2.2.2.2 _ h3) hR.1 hR.2 hcs.1 hcs.2 hd kk
end Rw
