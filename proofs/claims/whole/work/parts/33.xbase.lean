/-! what throws: facts of the start that a throw needs -/
def rideX : Cond → Bool
  | .declares _ => true
  | .castable _ _ => true
  | _ => false
theorem ride_x {w : Cond} (h : rideX w = true) {s U : State} (hW : s.WarmedH U.vm) (hZ : va_Nw w s) : va_Nw w U := by
  cases w <;> first | exact va_Nw.warmD hW hZ | exact va_Nw.warmC hW hZ | cases h
theorem rideX_tb {w : Cond} (h : rideX w = true) : w.onTables = true := by
  cases w <;> first | rfl | cases h
def strL : List (Nat × String) := [(102, "no such segment"), (35, "the segment is full"), (55, "no such limit"), (60, "the segment is not good"), (71, "there is no run"), (73, "no such number of steps"), (78, "nothing to look at"), (89, "no such number was put out")]
def exN (k : Nat) : String := if k = 1 then "java/lang/IllegalArgumentException" else if k = 2 then "java/lang/IllegalStateException" else "java/lang/IndexOutOfBoundsException"
def Gx (A : Nat → Prop) (U : State) (H : Heap) : Prop := vx_Zq Bundle.tN "UNASSIGNED_STACK" Bundle.steD A U H ∧ vx_Zq Bundle.tN "SUPPRESSED_SENTINEL" Bundle.listD A U H ∧ (∀ w ∈ lw_tbl, rideX w = true → va_Nw w U) ∧ (∀ x ∈ strL, ∃ a, vk_R RX4 x.1 x.2 a U) ∧ va_Nc (exN 3) (exN 1) U ∧ va_Nc (exN 2) (exN 1) U ∧ va_Nc (exN 1) (exN 2) U
def FxD (q : Nat → Nat) (A : Nat → Prop) (U : State) (H : Heap) : Prop := FxC q A U H ∧ Gx A U H
theorem fxD (q : Nat → Nat) : FxOk (FxD q) := by
  intro A B u U H H1 hW h hq hAB
  obtain ⟨h0, h1, h2, h3, h4, h5, h6, h7⟩ := h
  refine ⟨fxC q A B u U H H1 hW h0 hq hAB, ((h1.moved hW.alike).kept hq).narrow hAB, ((h2.moved hW.alike).kept hq).narrow hAB, fun w hw hr => ride_x hr hW (h3 w hw hr), fun x hx => ?_, h5.moved hW.alike, h6.moved hW.alike, h7.moved hW.alike⟩
  obtain ⟨a, ha⟩ := h4 x hx
  exact ⟨a, vk_R.warm hW ha⟩
abbrev Rx : Type := (Nat × Int32) × St
def Qix (D : va_G) (ty : Nat → ClassId) (w : St → va_W) (A : Nat → Prop) (res : Rx) : Array Value → State → Outcome → State → Prop := va_Qi (fun r (u : St) => ((0, r), u) = res) (Atw D ty w A) A
def Qvx (D : va_G) (ty : Nat → ClassId) (w : St → va_W) (A : Nat → Prop) (res : Rx) : Array Value → State → Outcome → State → Prop := va_Qv (fun (u : St) => ((0, 0), u) = res) (Atw D ty w A) A
def Xcx (D : va_G) (ty : Nat → ClassId) (w : St → va_W) (A : Nat → Prop) (res : Rx) : String → State → State → Prop := vx_X (fun (u : St) => ∃ k, k ≠ 0 ∧ ((k, (0 : Int32)), u) = res) (fun E u t => E = exN res.1.1 ∧ Atw D ty w A u t) A
theorem fx_cas {α : Type} {u : Rx} {a b : Option α} {r : α} (hF : (if u.1.1 = 0 then a else b) = some r) : (u.1.1 = 0 ∧ a = some r) ∨ (u.1.1 ≠ 0 ∧ b = some r) := by
  by_cases h : u.1.1 = 0
  · exact Or.inl ⟨h, (if_pos h).symm.trans hF⟩
  · exact Or.inr ⟨h, (if_neg h).symm.trans hF⟩
def upN : List String := ["java/lang/RuntimeException", "java/lang/Exception"]
def ThOk (k ic ik : Nat) : Prop := (∀ w ∈ (vx_atS RX4 ic (exN k) upN).filter goodWord, w ∈ lw_tbl) ∧ (∀ w ∈ (vx_atS RX4 ic (exN k) upN).filter (fun w => !goodWord w), w ∈ lw_tbl ∧ rideX w = true) ∧ (∀ w ∈ Cond.classLink RX4 ik (exN k) :: Cond.initialized (exN k) :: vx_atS RX4 ic (exN k) upN, vx_ot w = true) ∧ Cond.classLink RX4 ik (exN k) ∈ tb ∧ Cond.initialized (exN k) ∈ tb ∧ Bundle.fit (exN k) = true ∧ (∀ n ∈ upN, Bundle.fit n = true)
section Xb
variable {p : Program} {l : Launch} {e : Env} {R : Room} {s : State} {m : MethodId} {args : Array Value} {below : List Frame} {meth : Method} {c : Code} {H : Heap} {locs : List Loc} {cells slots mc ms : Nat} {Q : State → Prop}
variable {cc : ByteArray} {pc nL : Nat} {ls : Array Slot} {rest st : List Value} {D : va_G} {ty : Nat → ClassId} {q : Nat → Nat} {w : St → va_W} {w0 : va_W} {A : Nat → Prop} {own : String} {σ : St} {res : Rx} {ret : Option FieldType} {Fx : (Nat → Prop) → State → Heap → Prop}
/-- throw new E("..") -/
theorem th_x (X : CallFix p m c cc nL s args tb RX4) (hlk : meth.locks = false) (hno : ∀ x ∈ c.exceptionTable.toList, False) (hl : l.stackTraces = false) (hI : Inw D ty Fx (w σ) A s H locs) (hG : Gx A s s.heap) {Qc : Array Value → State → Outcome → State → Prop} (k : Nat) (hk0 : k ≠ 0) {ic ik is : Nat} {tx : String} (hT : ThOk k ic ik) (hst : (is, tx) ∈ strL) (hsz : ls.size = nL)
    (d0 : decode cc pc = .ok (.new ik, 3)) (d3 : decode cc (pc + 3) = .ok (.dup, 1)) (d4 : decode cc (pc + 4) = .ok (.ldc is, 2)) (d6 : decode cc (pc + 6) = .ok (.invokespecial ic, 3)) (d9 : decode cc (pc + 9) = .ok (.athrow, 1))
    (hR1 : 5 < R.frames) (hR2 : (rest.map fun v => v.category).sum + 82 ≤ R.locals) (hR3 : cells + 1 ≤ R.cells) (hR4 : slots + 6 ≤ R.slots) (hres : some ((k, (0 : Int32)), σ) = some res) (hc : cells + 1 ≤ mc) (hs : slots + 6 ≤ ms) :
    W p l e R s m args below meth c H locs cells slots (vx_MQ below Qc (Xcx D ty w A res) args s mc ms A) (F0 m pc ls rest) := by
  obtain ⟨hK, hP, hD, hS, hA, hF⟩ := hI
  obtain ⟨g1, g2, g3, g4, -⟩ := hG
  obtain ⟨t1, t2, t3, t4, t5, t6, t7⟩ := hT
  obtain ⟨sa, hsa⟩ := g4 _ hst
  have hres := Option.some.inj hres
  refine vx_throwS (names := upN) (sa := sa) (text := tx) (A := A) X.1 X.2.1 hl X.2.2.2.1 t6 t7 (X.2.2.2.2 _ t4) (X.2.2.2.2 _ t5) hsa ?_ t3 g1 g2 hS (hsz.trans X.2.2.1.symm) d0 d3 d4 d6 d9 (fun x hx => (hno x hx).elim) hR1 hR2 hR3 hR4 hlk ?_ hS.2.2 hc hs
  · intro w hw
    by_cases h : goodWord w = true
    · exact X.2.2.2.2 w (tb_in (t1 w (List.mem_filter.mpr ⟨hw, h⟩)) h)
    · obtain ⟨a1, a2⟩ := t2 w (List.mem_filter.mpr ⟨hw, by simp at h; simp [h]⟩)
      exact va_Nw.use (rideX_tb a2) (g3 w a1 a2)
  · intro t hal hz hq
    have hn : res.1.1 = k := by rw [← hres]
    exact ⟨σ, ⟨k, hk0, hres⟩, ⟨by rw [hn], hP.kept (fun k9 x hx => hq x.1 ((hP k9 x hx).lt)), va_K.moved hal hK, hD⟩, Nat.le_trans hS.1 hz, fun a h1 h2 => (hq a (Nat.lt_of_lt_of_le h1 hS.1)).trans (hS.2.1 a h1 h2)⟩
theorem rx_i (X : CallFix p m c cc nL s args tb own) (hlk : meth.locks = false) (hr : meth.sig.returnType = some .int) (hI : Inw D ty Fx (w σ) A s H locs) {r : Int32} {XC : String → State → State → Prop} (hres : some (((0 : Nat), r), σ) = some res) (hd : decode cc pc = .ok (.ireturn, 1)) (hc : cells ≤ mc) (hs : slots ≤ ms) :
    W p l e R s m args below meth c H locs cells slots (vx_MQ below (Qix D ty w A res) XC args s mc ms A) (F0 m pc ls [.int r]) := by
  obtain ⟨hK, hP, hD, hS, -, -⟩ := hI
  refine vx_ret (W.widen hc hs ?_)
  exact W.iret (v := r) X.1 X.2.1 hr (fun t ht hW => ⟨⟨r, σ, rfl, Option.some.inj hres, by rw [ht]; exact hP, va_K.moved hW.alike hK, hD⟩, hS.F ht⟩) hS.2.2 hd hlk
theorem rx_v (X : CallFix p m c cc nL s args tb own) (hlk : meth.locks = false) (hr : meth.sig.returnType = none) (hI : Inw D ty Fx (w σ) A s H locs) {XC : String → State → State → Prop} (hres : some (((0 : Nat), (0 : Int32)), σ) = some res) (hd : decode cc pc = .ok (.return_, 1)) (hc : cells ≤ mc) (hs : slots ≤ ms) :
    W p l e R s m args below meth c H locs cells slots (vx_MQ below (Qvx D ty w A res) XC args s mc ms A) (F0 m pc ls []) := by
  obtain ⟨hK, hP, hD, hS, -, -⟩ := hI
  refine vx_ret (W.widen hc hs ?_)
  exact W.vret X.1 X.2.1 hr (fun t ht hW => ⟨⟨σ, rfl, Option.some.inj hres, by rw [ht]; exact hP, va_K.moved hW.alike hK, hD⟩, hS.F ht⟩) hS.2.2 hd hlk
/-- the beginning of a method that may throw -/
theorem en_x {y : MethodName} {rm : Room} {sz : Nat} {av : List Value} {Qc : (Nat → Prop) → Array Value → State → Outcome → State → Prop} {XC : (Nat → Prop) → String → State → State → Prop} (hy : plainName y.cls = true) (hav : (lg_sl av).length ≤ nL)
    (body : ∀ (p : Program) (e : Env) (s : State) (m : MethodId) (args : Array Value) (below : List Frame) (meth : Method) (c : Code) (A : Nat → Prop), CallFix p m c cc nL s args tb y.cls → meth.locks = false → meth.sig.returnType = ret → (∀ x ∈ c.exceptionTable.toList, False) →
      ∀ (H : Heap) (locs : List Loc), Inw D ty (FxC q) w0 A s H locs → Gx A s s.heap → ∀ ls : Array Slot, lv_has ls nL (lv_args 0 av) → W p l e rm s m args below meth c H locs 0 0 (vx_MQ below (Qc A) (XC A) args s mc ms A) (F0 m 0 ls [])) :
    vx_Met l y (wsy y cc nL ret) rm (Pcw D ty (FxD q) w0 sz av) (Qc (va_A w0 sz)) (XC (va_A w0 sz)) mc ms (va_A w0 sz) := by
  refine vx_ofW (cc := cc) (maxL := nL) (ret := ret) hy rfl ?_
  intro p e s m args below meth c s₁ B hml hno hv
  obtain ⟨rfl, hsz, hP, hK, hD0, hFx, hGx⟩ := hv
  subst hsz
  have hts := atoms_spec (ws := wsy y cc nL ret) B.pre
  have hown : s.vm.findClass y.cls = some m.cls := findClass_of_methodNamed B.named
  have hD := hD0.self (sz := s.heap.size)
  generalize hAe : va_A w0 s.heap.size = A at hD hFx hGx ⊢
  have hA : ∀ q : Nat, s.heap.size ≤ q → A q := fun q h => by rw [← hAe]; exact Or.inr h
  have hl := lv_entry av (n := nL) hav
  rw [lg_entry_eq]
  generalize (lg_sl av ++ List.replicate (nL - (lg_sl av).length) Slot.unset).toArray = ls at hl ⊢
  exact body p e s m av.toArray below meth c A ⟨B.exec, B.bytes, hml, hown, fun w hw => hts w (List.mem_cons_of_mem _ hw)⟩ B.notSynchronized B.returns hno s.heap [] ⟨hK, hP, hD, va_S.rf, hA, hFx⟩ hGx ls hl
theorem in_D (hI : Inw D ty (FxC q) w0 A s H locs) (hG : Gx A s s.heap) : Inw D ty (FxD q) w0 A s H locs := ⟨hI.1, hI.2.1, hI.2.2.1, hI.2.2.2.1, hI.2.2.2.2.1, hI.2.2.2.2.2, hG⟩
/-- a static call of a void method that may throw; what it throws goes on to the caller -/
theorem cx_v (X : CallFix p m c cc nL s args tb own) (hlk : meth.locks = false) (hno : ∀ x ∈ c.exceptionTable.toList, False) (hI : Inw D ty (FxC q) (w σ) A s H locs) (hG : Gx A s s.heap) {y : MethodName} {bytes : ByteArray} {maxL n idx m1 s1 : Nat} {rm : Room} {As : List Value} {u : Rx} {Qc : Array Value → State → Outcome → State → Prop}
    (hM : vx_Met l y (wsy y bytes maxL none) rm (Pcw D ty (FxD q) (w σ) H.size As) (Qvx D ty w (va_A (w σ) H.size) u) (Xcx D ty w (va_A (w σ) H.size) u) m1 s1 (va_A (w σ) H.size)) (hO : OkS y bytes maxL none n) (hl : Cond.methodLink own idx y ∈ tb) (hrm : rm.cells = m1 ∧ rm.slots = s1 ∧ rm.frames + 1 ≤ R.frames ∧ 8 + (maxL + 11) + rm.locals ≤ R.locals)
    (hn : As.length = n) (hsz : ls.size = nL) (hst : st = As.reverse ++ rest) (hW : (rest.map fun v => v.category).sum ≤ 8) (hcs : cells + m1 ≤ R.cells ∧ slots + s1 ≤ R.slots) (hd : decode cc pc = .ok (.invokestatic idx, 3)) (hc : cells + m1 ≤ mc) (hs : slots + s1 ≤ ms)
    (ke : u.1.1 ≠ 0 → u = res)
    (kk : u.1.1 = 0 → ∀ (H : Heap) (locs : List Loc), Inw D ty (FxC q) (w u.2) A s H locs → W p l e R s m args below meth c H locs (cells + m1) (slots + s1) (vx_MQ below Qc (Xcx D ty w A res) args s mc ms A) (F0 m (pc + 3) ls rest)) : W p l e R s m args below meth c H locs cells slots (vx_MQ below Qc (Xcx D ty w A res) args s mc ms A) (F0 m pc ls st) := by
  have hfr := in_free hI
  have hpre := in_pre (fxD q) (in_D hI hG) As
  obtain ⟨hK, hP, hD, hS, hA, hF⟩ := hI
  subst hst
  obtain ⟨o1, o2, o3, o4, o5⟩ := hO
  have hts := X.2.2.2.2
  refine vx_callv (mc := m1) (ms := s1) (AX := va_A (w σ) H.size) (vx_runS (As := As) (rest := rest) X hM ⟨⟨hrm.1, hrm.2.1, hrm.2.2.1, hrm.2.2.2, wsy_ride hts o1, List.mem_cons_self, hts _ o1, hts _ o2, o3, fun sig h => by rw [h] at o4; exact (Option.some.inj o4).symm, hts _ hl⟩, hts _ o5⟩ ⟨pc_blind (fxD q) _ _ _, hpre⟩ rfl hn hsz rfl (lv_room hW) hd hcs) hS (fun q _ h => hfr q h) hfr (fun q _ h => hfr q h) (fun E ce q9 v t H1 locs1 ht hvm hpx hB hz1 hk1 hS1 hce hcv hcl => ?_) (fun v t H1 locs1 ht hvm hw hB hz1 hk1 hS1 => ?_)
  · obtain ⟨k, hk0, hk⟩ := hpx
    obtain ⟨hE, hP1, hK1, hD1⟩ := hB
    have hu : u.1.1 = k := by rw [← hk]
    have hur := ke (by rw [hu]; exact hk0)
    subst hur
    refine vx_out (fun x hx => (hno x hx).elim) hlk hce hcv hcl (fun t9 ht9 hal9 => ?_) hS1.2.2 hc hs
    exact ⟨v, ⟨k, hk0, hk⟩, ⟨hE, by rw [ht9, ← ht]; exact hP1, va_K.moved hal9 hK, hD1.weaken (fun _ q _ h => hfr q.1 h)⟩, hS1.F ht9⟩
  · obtain ⟨hP1, hK1, hD1⟩ := hB
    rw [ht] at hP1
    subst hw
    exact kk rfl H1 locs1 ⟨hK, hP1, hD1.weaken (fun _ q _ h => hfr q.1 h), hS1, hA, hF⟩
end Xb
