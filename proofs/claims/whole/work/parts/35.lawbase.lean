/-! worlds side by side -/
theorem mem_ix {α : Type} {l : List α} {x : α} (h : x ∈ l) : ∃ i : Nat, l[i]? = some x := List.getElem?_of_mem h
theorem ap_l {a b c : va_W} {i : Nat} {x : Nat × va_E} (h : a[i]? = some x) : ((a ++ b) ++ c)[i]? = some x := by
  have hl := (List.getElem?_eq_some_iff.mp h).1
  rw [List.append_assoc, List.getElem?_append_left hl]
  exact h
theorem ap_m {a b c : va_W} {i : Nat} {x : Nat × va_E} (h : b[i]? = some x) : ((a ++ b) ++ c)[a.length + i]? = some x := by
  have hl := (List.getElem?_eq_some_iff.mp h).1
  rw [List.append_assoc, List.getElem?_append_right (by omega), show a.length + i - a.length = i by omega, List.getElem?_append_left hl]
  exact h
theorem ap_r {a b c : va_W} {i : Nat} {x : Nat × va_E} (h : c[i]? = some x) : ((a ++ b) ++ c)[(a ++ b).length + i]? = some x := by
  rw [List.getElem?_append_right (by omega), show (a ++ b).length + i - (a ++ b).length = i by omega]
  exact h
section Jn
variable {D : va_G} {cl : List vw_C} {A : Nat → Prop} {a b b1 c : va_W} {H H1 : Heap}
theorem sb_P (h : va_P D cl ((a ++ b) ++ c) H) : va_P D cl b H := fun k x hk => h _ x (ap_m hk)
theorem sb_D (h : va_D A ((a ++ b) ++ c)) : va_D A b := ⟨fun i j p q hi hj e => by have := h.1 _ _ p q (ap_m hi) (ap_m hj) e; omega, fun k x hk => h.2 _ x (ap_m hk)⟩
theorem sb_a (hP : va_P D cl ((a ++ b) ++ c) H) (hD : va_D A ((a ++ b) ++ c)) {i : Nat} {x : Nat × va_E} (hx : a[i]? = some x) : x.1 < H.size ∧ ¬ va_A b H.size x.1 := by
  have hlt := (hP _ x (ap_l hx)).lt
  refine ⟨hlt, fun h => ?_⟩
  rcases h with ⟨k, e, hk⟩ | h
  · have h1 := hD.1 _ _ x (x.1, e) (ap_l hx) (ap_m hk) rfl
    have h2 := (List.getElem?_eq_some_iff.mp hx).1
    omega
  · exact absurd hlt (Nat.not_lt.mpr h)
theorem sb_c (hP : va_P D cl ((a ++ b) ++ c) H) (hD : va_D A ((a ++ b) ++ c)) {i : Nat} {x : Nat × va_E} (hx : c[i]? = some x) : x.1 < H.size ∧ ¬ va_A b H.size x.1 := by
  have hlt := (hP _ x (ap_r hx)).lt
  refine ⟨hlt, fun h => ?_⟩
  rcases h with ⟨k, e, hk⟩ | h
  · have h1 := hD.1 _ _ x (x.1, e) (ap_r hx) (ap_m hk) rfl
    have h2 := (List.getElem?_eq_some_iff.mp hk).1
    rw [List.length_append] at h1
    omega
  · exact absurd hlt (Nat.not_lt.mpr h)
theorem jn (hP : va_P D cl ((a ++ b) ++ c) H) (hD : va_D A ((a ++ b) ++ c)) (hk : ∀ q : Nat, q < H.size → ¬ va_A b H.size q → H1[q]? = H[q]?) (hF : ∀ q, va_A b H.size q → A q) (hP1 : va_P D cl b1 H1) (hD1 : va_D (va_A b H.size) b1) : va_P D cl ((a ++ b1) ++ c) H1 ∧ va_D A ((a ++ b1) ++ c) := by
  have pa : va_P D cl a H1 := fun k x hx => (hP _ x (ap_l hx)).kept (hk x.1 (sb_a hP hD hx).1 (sb_a hP hD hx).2)
  have pc : va_P D cl c H1 := fun k x hx => (hP _ x (ap_r hx)).kept (hk x.1 (sb_c hP hD hx).1 (sb_c hP hD hx).2)
  refine ⟨(pa.app hP1).app pc, ?_⟩
  have da : va_D A a := ⟨fun i j p q hi hj e => hD.1 _ _ p q (ap_l hi) (ap_l hj) e, fun k x hx => hD.2 _ x (ap_l hx)⟩
  have dc : va_D A c := ⟨fun i j p q hi hj e => by have := hD.1 _ _ p q (ap_r hi) (ap_r hj) e; omega, fun k x hx => hD.2 _ x (ap_r hx)⟩
  have db : va_D A b1 := hD1.weaken (fun _ q _ h => hF q.1 h)
  refine va_D.app (va_D.app da db (fun i j p q hi hj e => (sb_a hP hD hi).2 (by rw [e]; exact hD1.2 j q hj))) dc (fun i j p q hi hj e => ?_)
  rcases List.mem_append.mp (List.mem_of_getElem? hi) with h | h
  · obtain ⟨i2, hi2⟩ := mem_ix h
    have h1 := hD.1 _ _ p q (ap_l hi2) (ap_r hj) e
    have h2 := (List.getElem?_eq_some_iff.mp hi2).1
    rw [List.length_append] at h1
    omega
  · obtain ⟨i2, hi2⟩ := mem_ix h
    exact (sb_c hP hD hj).2 (by rw [← e]; exact hD1.2 i2 p hi2)
end Jn
def up0 (o : Int32) : Nat → Int64 := vp_updL (fun _ => 0) 0 o.toInt64
theorem up1 (o v : Int32) : vp_updL (up0 o) (0 : Int32).toNatClampNeg v.toInt64 = up0 v := by
  have e : (0 : Int32).toNatClampNeg = 0 := by decide
  rw [e]
  funext j
  simp only [up0, vp_updL]
  split <;> rfl
theorem up2 : (fun _ => 0 : Nat → Int64) = up0 0 := by
  funext j
  simp only [up0, vp_updL]
  split <;> rfl
def wH (ty : Nat → ClassId) (q : Nat → Nat) (o : Int32) (σ : St) : va_W := (([] : va_W) ++ wC ty q σ) ++ [(q 23, .inl (ty 4, 1, .inr (.inl (up0 o))))]
abbrev Rh : Type := Int32 × (St × Int32)
def Ath (D : va_G) (ty : Nat → ClassId) (q : Nat → Nat) (A : Nat → Prop) (u : St × Int32) (t : State) : Prop := va_P D vwCl (wH ty q u.2 u.1) t.heap ∧ va_K D vwCl (tyL ty) t ∧ va_D A (wH ty q u.2 u.1)
def Qih (D : va_G) (ty : Nat → ClassId) (q : Nat → Nat) (A : Nat → Prop) (res : Rh) : Array Value → State → Outcome → State → Prop := va_Qi (fun r (u : St × Int32) => (r, u) = res) (Ath D ty q A) A
def wsh (y : MethodName) (cc : ByteArray) (n : Nat) (ret : Option FieldType) (hh : List (Nat × Nat × Nat × Nat)) : List Cond := Cond.codeWith y cc n ret hh :: tb
section Hb
variable {p : Program} {l : Launch} {e : Env} {R : Room} {s : State} {m : MethodId} {args : Array Value} {below : List Frame} {meth : Method} {c : Code} {H : Heap} {locs : List Loc} {cells slots mc ms : Nat} {Q : State → Prop}
variable {cc : ByteArray} {pc nL : Nat} {ls : Array Slot} {rest st : List Value} {D : va_G} {ty : Nat → ClassId} {q : Nat → Nat} {a w0 c0 : va_W} {b : St → va_W} {A : Nat → Prop} {own : String} {σ : St} {o : Int32} {res : Rh} {ret : Option FieldType} {Fx Fy : (Nat → Prop) → State → Heap → Prop}
theorem in_sub (hI : Inw D ty Fx ((a ++ w0) ++ c0) A s H locs) : Inw D ty Fx w0 A s H locs := ⟨hI.1, sb_P hI.2.1, sb_D hI.2.2.1, hI.2.2.2.1, hI.2.2.2.2.1, hI.2.2.2.2.2⟩
theorem in_fx (hI : Inw D ty Fx w0 A s H locs) (h : ∀ A U H, Fx A U H → Fy A U H) : Inw D ty Fy w0 A s H locs := ⟨hI.1, hI.2.1, hI.2.2.1, hI.2.2.2.1, hI.2.2.2.2.1, h _ _ _ hI.2.2.2.2.2⟩
theorem rt_h (X : CallFix p m c cc nL s args tb own) (hlk : meth.locks = false) (hr : meth.sig.returnType = some .int) (hI : Inw D ty Fx (wH ty q o σ) A s H locs) {r : Int32} (hres : some (r, (σ, o)) = some res) (hd : decode cc pc = .ok (.ireturn, 1)) :
    W p l e R s m args below meth c H locs cells slots (MQ below (Qih D ty q A res) args s cells slots A) (F0 m pc ls [.int r]) := by
  obtain ⟨hK, hP, hD, hS, -, -⟩ := hI
  exact W.iret (v := r) X.1 X.2.1 hr (fun t ht hW => ⟨⟨r, (σ, o), rfl, Option.some.inj hres, by rw [ht]; exact hP, va_K.moved hW.alike hK, hD⟩, hS.F ht⟩) hS.2.2 hd hlk
/-- the beginning of a method with handlers -/
theorem en_h {y : MethodName} {rm : Room} {sz : Nat} {av : List Value} {hh : List (Nat × Nat × Nat × Nat)} {Qc : (Nat → Prop) → Array Value → State → Outcome → State → Prop} (hy : plainName y.cls = true) (hav : (lg_sl av).length ≤ nL)
    (body : ∀ (p : Program) (e : Env) (s : State) (m : MethodId) (args : Array Value) (below : List Frame) (meth : Method) (c : Code) (A : Nat → Prop), CallFix p m c cc nL s args tb y.cls → meth.locks = false → meth.sig.returnType = ret → c.exceptionTable.toList = tableOf hh →
      ∀ (H : Heap) (locs : List Loc), Inw D ty Fx w0 A s H locs → ∀ ls : Array Slot, lv_has ls nL (lv_args 0 av) → W p l e rm s m args below meth c H locs 0 0 (MQ below (Qc A) args s mc ms A) (F0 m 0 ls [])) :
    Met l y (wsh y cc nL ret hh) rm (Pcw D ty Fx w0 sz av) (Qc (va_A w0 sz)) mc ms (va_A w0 sz) := by
  refine va_MetW (cc := cc) (maxL := nL) (ret := ret) (hh := hh) hy rfl ?_
  intro p e s m args below meth c s₁ B hml hv
  obtain ⟨rfl, hsz, hP, hK, hD0, hFx⟩ := hv
  subst hsz
  have hts := atoms_spec (ws := wsh y cc nL ret hh) B.pre
  have hown : s.vm.findClass y.cls = some m.cls := findClass_of_methodNamed B.named
  have hD := hD0.self (sz := s.heap.size)
  have htb := vx_table (x := y) B (hts _ List.mem_cons_self)
  generalize hAe : va_A w0 s.heap.size = A at hD hFx ⊢
  have hA : ∀ q : Nat, s.heap.size ≤ q → A q := fun q h => by rw [← hAe]; exact Or.inr h
  have hl := lv_entry av (n := nL) hav
  rw [lg_entry_eq]
  generalize (lg_sl av ++ List.replicate (nL - (lg_sl av).length) Slot.unset).toArray = ls at hl ⊢
  exact body p e s m av.toArray below meth c A ⟨B.exec, B.bytes, hml, hown, fun w hw => hts w (List.mem_cons_of_mem _ hw)⟩ B.notSynchronized B.returns htb s.heap [] ⟨hK, hP, hD, va_S.rf, hA, hFx⟩ ls hl
/-- a call, of a method that may throw, on an object of a part of the world -/
theorem cv_h (X : CallFix p m c cc nL s args tb own) (hFx : FxOk Fy) (hfy : ∀ A U H, Fx A U H → Fy A U H) (hI : Inw D ty Fx ((a ++ b σ) ++ c0) A s H locs) {y : MethodName} {C : String} {bytes : ByteArray} {maxL n idx bq m1 s1 : Nat} {rt : Option FieldType} {rm : Room} {As : List Value} {u : Rx}
    (hM : vx_Met l y (wsy y bytes maxL rt) rm (Pcw D ty Fy (b σ) H.size (.ref bq :: As)) (Qix D ty b (va_A (b σ) H.size) u) (Xcx D ty b (va_A (b σ) H.size) u) m1 s1 (va_A (b σ) H.size)) (hO : OkV y C bytes maxL rt n) (hl : Cond.methodLink own idx y ∈ tb) (hrm : rm.cells = m1 ∧ rm.slots = s1 ∧ rm.frames + 1 ≤ R.frames ∧ 8 + (maxL + 11) + rm.locals ≤ R.locals)
    (i : Nat) {ci N : Nat} {T : u_T} {fs : List Value} (he : (b σ)[i]? = some (bq, .inr (ci, fs))) (hc : vwCl[ci]? = some (C, T, N)) (hn : As.length = n) (hsz : ls.size = nL) (hst : st = As.reverse ++ .ref bq :: rest) (hW : (rest.map fun v => v.category).sum ≤ 8) (hcs : cells + m1 ≤ R.cells ∧ slots + s1 ≤ R.slots) (hd : decode cc pc = .ok (.invokevirtual idx, 3))
    (kx : u.1.1 ≠ 0 → ∀ (H : Heap) (locs : List Loc) (q9 : Nat) (ce : Cell), Inw D ty Fx ((a ++ b u.2) ++ c0) A s H locs → H[q9]? = some ce → ce.vm = .none → s.vm.findClass (exN u.1.1) = some ce.cls → vx_W p l e R s m args below meth c H locs (cells + m1) (slots + s1) Q (F0 m pc ls rest) q9)
    (kk : u.1.1 = 0 → ∀ (H : Heap) (locs : List Loc), Inw D ty Fx ((a ++ b u.2) ++ c0) A s H locs → W p l e R s m args below meth c H locs (cells + m1) (slots + s1) Q (F0 m (pc + 3) ls (.int u.1.2 :: rest))) : W p l e R s m args below meth c H locs cells slots Q (F0 m pc ls st) := by
  have hIb := in_fx (in_sub hI) hfy
  have hfr := in_free hIb
  have hpre := in_pre hFx hIb (.ref bq :: As)
  have hrc := va_recv hIb.1 hIb.2.1 (ci := ci) (q0 := i) hc he
  obtain ⟨hK, hP, hD, hS, hA, hF⟩ := hI
  subst hst
  obtain ⟨o1, o2, o3, o4, o5, o6⟩ := hO
  have hts := X.2.2.2.2
  refine vx_calli (mc := m1) (ms := s1) (AX := va_A (b σ) H.size) (vx_runV (As := As) (rest := rest) X hM ⟨⟨hrm.1, hrm.2.1, hrm.2.2.1, hrm.2.2.2, wsy_ride hts o1, List.mem_cons_self, hts _ o1, hts _ o2, o3, fun sig h => by rw [h] at o4; exact (Option.some.inj o4).symm, hts _ hl⟩, hts _ o5, hts _ o6⟩ ⟨pc_blind hFx _ _ _, hrc, hpre⟩ rfl hn hsz rfl (lv_room hW) hd hcs) hS (fun q _ h => hfr q h) hfr (fun q _ h => hfr q h) (fun E ce q9 v t H1 locs1 ht hvm hpx hB hz1 hk1 hS1 hce hcv hcl => ?_) (fun r v t H1 locs1 ht hvm hw hB hz1 hk1 hS1 => ?_)
  · obtain ⟨k, hk0, hk⟩ := hpx
    obtain ⟨hE, hP1, hK1, hD1⟩ := hB
    rw [ht] at hP1
    obtain ⟨hP2, hD2⟩ := jn hP hD hk1 hfr hP1 hD1
    have hv : v = u.2 := by rw [← hk]
    subst hv
    subst hE
    exact kx (by rw [← hk]; exact hk0) H1 locs1 q9 ce ⟨hK, hP2, hD2, hS1, hA, hF⟩ hce hcv hcl
  · obtain ⟨hP1, hK1, hD1⟩ := hB
    rw [ht] at hP1
    obtain ⟨hP2, hD2⟩ := jn hP hD hk1 hfr hP1 hD1
    subst hw
    exact kk rfl H1 locs1 ⟨hK, hP2, hD2, hS1, hA, hF⟩
theorem cv_hv (X : CallFix p m c cc nL s args tb own) (hFx : FxOk Fy) (hfy : ∀ A U H, Fx A U H → Fy A U H) (hI : Inw D ty Fx ((a ++ b σ) ++ c0) A s H locs) {y : MethodName} {C : String} {bytes : ByteArray} {maxL n idx bq m1 s1 : Nat} {rt : Option FieldType} {rm : Room} {As : List Value} {u : Rx}
    (hM : vx_Met l y (wsy y bytes maxL rt) rm (Pcw D ty Fy (b σ) H.size (.ref bq :: As)) (Qvx D ty b (va_A (b σ) H.size) u) (Xcx D ty b (va_A (b σ) H.size) u) m1 s1 (va_A (b σ) H.size)) (hO : OkV y C bytes maxL rt n) (hl : Cond.methodLink own idx y ∈ tb) (hrm : rm.cells = m1 ∧ rm.slots = s1 ∧ rm.frames + 1 ≤ R.frames ∧ 8 + (maxL + 11) + rm.locals ≤ R.locals)
    (i : Nat) {ci N : Nat} {T : u_T} {fs : List Value} (he : (b σ)[i]? = some (bq, .inr (ci, fs))) (hc : vwCl[ci]? = some (C, T, N)) (hn : As.length = n) (hsz : ls.size = nL) (hst : st = As.reverse ++ .ref bq :: rest) (hW : (rest.map fun v => v.category).sum ≤ 8) (hcs : cells + m1 ≤ R.cells ∧ slots + s1 ≤ R.slots) (hd : decode cc pc = .ok (.invokevirtual idx, 3))
    (kx : u.1.1 ≠ 0 → ∀ (H : Heap) (locs : List Loc) (q9 : Nat) (ce : Cell), Inw D ty Fx ((a ++ b u.2) ++ c0) A s H locs → H[q9]? = some ce → ce.vm = .none → s.vm.findClass (exN u.1.1) = some ce.cls → vx_W p l e R s m args below meth c H locs (cells + m1) (slots + s1) Q (F0 m pc ls rest) q9)
    (kk : u.1.1 = 0 → ∀ (H : Heap) (locs : List Loc), Inw D ty Fx ((a ++ b u.2) ++ c0) A s H locs → W p l e R s m args below meth c H locs (cells + m1) (slots + s1) Q (F0 m (pc + 3) ls rest)) : W p l e R s m args below meth c H locs cells slots Q (F0 m pc ls st) := by
  have hIb := in_fx (in_sub hI) hfy
  have hfr := in_free hIb
  have hpre := in_pre hFx hIb (.ref bq :: As)
  have hrc := va_recv hIb.1 hIb.2.1 (ci := ci) (q0 := i) hc he
  obtain ⟨hK, hP, hD, hS, hA, hF⟩ := hI
  subst hst
  obtain ⟨o1, o2, o3, o4, o5, o6⟩ := hO
  have hts := X.2.2.2.2
  refine vx_callv (mc := m1) (ms := s1) (AX := va_A (b σ) H.size) (vx_runV (As := As) (rest := rest) X hM ⟨⟨hrm.1, hrm.2.1, hrm.2.2.1, hrm.2.2.2, wsy_ride hts o1, List.mem_cons_self, hts _ o1, hts _ o2, o3, fun sig h => by rw [h] at o4; exact (Option.some.inj o4).symm, hts _ hl⟩, hts _ o5, hts _ o6⟩ ⟨pc_blind hFx _ _ _, hrc, hpre⟩ rfl hn hsz rfl (lv_room hW) hd hcs) hS (fun q _ h => hfr q h) hfr (fun q _ h => hfr q h) (fun E ce q9 v t H1 locs1 ht hvm hpx hB hz1 hk1 hS1 hce hcv hcl => ?_) (fun v t H1 locs1 ht hvm hw hB hz1 hk1 hS1 => ?_)
  · obtain ⟨k, hk0, hk⟩ := hpx
    obtain ⟨hE, hP1, hK1, hD1⟩ := hB
    rw [ht] at hP1
    obtain ⟨hP2, hD2⟩ := jn hP hD hk1 hfr hP1 hD1
    have hv : v = u.2 := by rw [← hk]
    subst hv
    subst hE
    exact kx (by rw [← hk]; exact hk0) H1 locs1 q9 ce ⟨hK, hP2, hD2, hS1, hA, hF⟩ hce hcv hcl
  · obtain ⟨hP1, hK1, hD1⟩ := hB
    rw [ht] at hP1
    obtain ⟨hP2, hD2⟩ := jn hP hD hk1 hfr hP1 hD1
    subst hw
    exact kk rfl H1 locs1 ⟨hK, hP2, hD2, hS1, hA, hF⟩
/-- caught by the first row, by the second -/
theorem ct_1 (X : CallFix p m c cc nL s args tb own) (hG : Gx A s s.heap) {x : ExceptionTableEntry} {suf : List ExceptionTableEntry} (ht : c.exceptionTable.toList = x :: suf) (hx : covers x pc = true) (h0 : x.catchType ≠ 0) {k : Nat} (hl : Cond.classLink own x.catchType (exN k) ∈ tb) (hcs : Cond.castable (exN k) (exN k) ∈ lw_tbl) {q9 : Nat} {ce : Cell} (hcell : H[q9]? = some ce) (hv : ce.vm = .none) (hcl : s.vm.findClass (exN k) = some ce.cls)
    (kk : W p l e R s m args below meth c H locs cells slots Q (F0 m x.handlerPc ls [.ref q9])) : vx_W p l e R s m args below meth c H locs cells slots Q (F0 m pc ls rest) q9 :=
  vx_catch (own := own) (name := exN k) X.2.2.2.1 [] x suf ht (fun z hz => nomatch hz) hx h0 (X.2.2.2.2 _ hl) (va_Nw.use rfl (hG.2.2.1 _ hcs rfl)) hcell hv hcl kk
theorem ct_2 (X : CallFix p m c cc nL s args tb own) (hG : Gx A s s.heap) {x1 x : ExceptionTableEntry} {suf : List ExceptionTableEntry} (ht : c.exceptionTable.toList = x1 :: x :: suf) {j : Nat} (h1 : x1.catchType ≠ 0) (hl1 : Cond.classLink own x1.catchType (exN j) ∈ tb) {k : Nat} (hnc : va_Nc (exN k) (exN j) s) (hx : covers x pc = true) (h0 : x.catchType ≠ 0) (hl : Cond.classLink own x.catchType (exN k) ∈ tb) (hcs : Cond.castable (exN k) (exN k) ∈ lw_tbl) {q9 : Nat} {ce : Cell} (hcell : H[q9]? = some ce) (hv : ce.vm = .none) (hcl : s.vm.findClass (exN k) = some ce.cls)
    (kk : W p l e R s m args below meth c H locs cells slots Q (F0 m x.handlerPc ls [.ref q9])) : vx_W p l e R s m args below meth c H locs cells slots Q (F0 m pc ls rest) q9 :=
  vx_catch (own := own) (name := exN k) X.2.2.2.1 [x1] x suf ht (fun z hz => by rw [List.mem_singleton] at hz; subst hz; exact Or.inr ⟨h1, exN j, X.2.2.2.2 _ hl1, hnc⟩) hx h0 (X.2.2.2.2 _ hl) (va_Nw.use rfl (hG.2.2.1 _ hcs rfl)) hcell hv hcl kk
theorem st_out (X : CallFix p m c cc nL s args tb own) (hI : Inw D ty Fx (wH ty q o σ) A s H locs) {v : Int32} (hd : decode cc pc = .ok (.lastore, 1)) (kk : ∀ (H : Heap) (locs : List Loc), Inw D ty Fx (wH ty q v σ) A s H locs → W p l e R s m args below meth c H locs cells slots Q (F0 m (pc + 1) ls rest)) : W p l e R s m args below meth c H locs cells slots Q (F0 m pc ls (.long v.toInt64 :: .int 0 :: .ref (q 23) :: rest)) := by
  obtain ⟨hK, hP, hD, hS, hA, hF⟩ := hI
  have hw : (wH ty q o σ).set 21 (q 23, .inl (ty 4, 1, .inr (.inl (vp_updL (up0 o) (0 : Int32).toNatClampNeg v.toInt64)))) = wH ty q v σ := by
    rw [up1]
    rfl
  refine va_last X.1 X.2.1 hK hP hD hS 21 4 (f := up0 o) rfl rfl (i := 0) (pk_in 0 1 (by decide) rfl (by decide)) hd (fun H1 locs1 a1 a2 a3 => kk H1 locs1 ⟨hK, ?_, ?_, a3, hA, hF⟩)
  · rw [hw] at a1
    exact a1
  · rw [hw] at a2
    exact a2
end Hb
