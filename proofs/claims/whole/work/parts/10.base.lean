/-! the words that ride: the good ones of the whole table -/
def tb : List Cond := lw_tbl.filter goodWord
theorem tb_in {w : Cond} (h : w ∈ lw_tbl) (hg : goodWord w = true) : w ∈ tb := List.mem_filter.mpr ⟨h, hg⟩
theorem tb_lw {w : Cond} (h : w ∈ tb) : w ∈ lw_tbl := (List.mem_filter.mp h).1
theorem tb_good {w : Cond} (h : w ∈ tb) : (w.onTables && w.keeps) = true ∨ ∃ ty, w = .arrayClass ty := good_of_word (List.mem_filter.mp h).2
theorem tb_ride {args : Array Value} {s : State} (hts : ∀ w ∈ tb, w.before args s = true) {w : Cond} (h : w ∈ tb) (a' : Array Value) (U : State) (hW : s.WarmedH U.vm) : w.before a' U = true := word_at hW (tb_good h) (hts w h)
def wsy (y : MethodName) (cc : ByteArray) (n : Nat) (ret : Option FieldType) : List Cond := Cond.code y cc n ret :: tb
theorem wsy_ride {args : Array Value} {s : State} (hts : ∀ w ∈ tb, w.before args s = true) {y : MethodName} {cc : ByteArray} {n : Nat} {ret : Option FieldType} (hc : Cond.code y cc n ret ∈ tb) : ∀ w ∈ wsy y cc n ret, ∀ (a' : Array Value) (U : State), s.WarmedH U.vm → w.before a' U = true := by
  intro w hw a' U hW
  rcases List.mem_cons.mp hw with rfl | h
  · exact tb_ride hts hc a' U hW
  · exact tb_ride hts h a' U hW
/-! a state: its numbers and its rows -/
abbrev St : Type := (Nat → Int32) × (Nat → Nat → Int32)
def gI (σ : St) (k : Nat) : Int32 := σ.1 k
def gA (σ : St) (k : Nat) (i : Int32) : Int32 := σ.2 k i.toNatClampNeg
def sI (σ : St) (k : Nat) (v : Int32) : St := (fun j => if j = k then v else σ.1 j, σ.2)
def sA (σ : St) (k : Nat) (i : Int32) (v : Int32) : St := (σ.1, fun j => if j = k then upd (σ.2 k) i.toNatClampNeg v else σ.2 j)
def inB (i : Int32) (n : Nat) : Bool := decide (¬ (i < 0 ∨ n ≤ i.toNatClampNeg))
theorem inB_in {i : Int32} {n : Nat} (h : inB i n = true) : vp_in i n := by
  have h1 : ¬ (i < 0 ∨ n ≤ i.toNatClampNeg) := of_decide_eq_true h
  exact h1
theorem in_inB {i : Int32} {n : Nat} (h : vp_in i n) : inB i n = true := by
  have h1 : ¬ (i < 0 ∨ n ≤ i.toNatClampNeg) := h
  exact decide_eq_true h1
theorem fb_pos {α : Type} {c : Prop} [Decidable c] {a b r : α} (h : c) (hF : (if c then a else b) = r) : a = r := (if_pos h).symm.trans hF
theorem fb_neg {α : Type} {c : Prop} [Decidable c] {a b r : α} (h : ¬ c) (hF : (if c then a else b) = r) : b = r := (if_neg h).symm.trans hF
theorem fb_chk {α : Type} {i : Int32} {n : Nat} {a : Option α} {r : α} (hF : (if inB i n = true then a else none) = some r) : vp_in i n ∧ a = some r := by
  by_cases h : inB i n = true
  · exact ⟨inB_in h, (if_pos h).symm.trans hF⟩
  · rw [if_neg h] at hF
    cases hF
theorem fb_bnd {α β : Type} {o : Option α} {f : α → Option β} {r : β} (hF : o.bind f = some r) : ∃ x, o = some x ∧ f x = some r := by
  cases o with
  | none => cases hF
  | some x => exact ⟨x, rfl, hF⟩
/-! the array classes in use: int, byte, byte of two dimensions, boolean, long -/
def tyL (ty : Nat → ClassId) : List (ClassId × FieldType) := [(ty 0, .int), (ty 1, .byte), (ty 2, .array .byte), (ty 3, .boolean), (ty 4, .long)]
/-- facts of the start that no method of ours changes -/
def FxOk (Fx : (Nat → Prop) → State → Heap → Prop) : Prop := ∀ (A B : Nat → Prop) (u U : State) (H H1 : Heap), u.WarmedH U.vm → Fx A u H → (∀ a : Nat, a < H.size → ¬ A a → H1[a]? = H[a]?) → (∀ q, B q → A q) → Fx B U H1
def Inw (D : va_G) (ty : Nat → ClassId) (Fx : (Nat → Prop) → State → Heap → Prop) (w : va_W) (A : Nat → Prop) (s : State) (H : Heap) (locs : List Loc) : Prop :=
  va_K D vwCl (tyL ty) s ∧ va_P D vwCl w H ∧ va_D A w ∧ va_S A s.heap H locs ∧ (∀ q : Nat, s.heap.size ≤ q → A q) ∧ Fx A s s.heap
def Atw (D : va_G) (ty : Nat → ClassId) (w : St → va_W) (A : Nat → Prop) (u : St) (t : State) : Prop := va_P D vwCl (w u) t.heap ∧ va_K D vwCl (tyL ty) t ∧ va_D A (w u)
def Pcw (D : va_G) (ty : Nat → ClassId) (Fx : (Nat → Prop) → State → Heap → Prop) (w : va_W) (sz : Nat) (av : List Value) : Array Value → State → Prop :=
  va_Pc av (fun U => U.heap.size = sz ∧ va_P D vwCl w U.heap ∧ va_K D vwCl (tyL ty) U ∧ va_D (fun _ => True) w ∧ Fx (va_A w sz) U U.heap)
def Qiw (D : va_G) (ty : Nat → ClassId) (w : St → va_W) (A : Nat → Prop) (res : Int32 × St) : Array Value → State → Outcome → State → Prop := va_Qi (fun r (u : St) => (r, u) = res) (Atw D ty w A) A
def Qvw (D : va_G) (ty : Nat → ClassId) (w : St → va_W) (A : Nat → Prop) (res : Int32 × St) : Array Value → State → Outcome → State → Prop := va_Qv (fun (u : St) => u = res.2) (Atw D ty w A) A
theorem warm_moves {s U : State} (hW : s.WarmedH U.vm) : s.vm.Alike U.vm := hW.alike
section Bs
variable {p : Program} {l : Launch} {e : Env} {R : Room} {s : State} {m : MethodId} {args : Array Value} {below : List Frame} {meth : Method} {c : Code} {H : Heap} {locs : List Loc} {cells slots : Nat} {Q : State → Prop}
variable {cc : ByteArray} {pc nL : Nat} {ls : Array Slot} {rest : List Value} {D : va_G} {ty : Nat → ClassId} {Fx : (Nat → Prop) → State → Heap → Prop} {w : St → va_W} {A : Nat → Prop} {own : String} {σ : St} {res : Int32 × St} {ret : Option FieldType}
/-- the end of a method that answers an int -/
theorem rt_i (X : CallFix p m c cc nL s args tb own) (hlk : meth.locks = false) (hr : meth.sig.returnType = some .int) (hI : Inw D ty Fx (w σ) A s H locs) {r : Int32} (hres : some (r, σ) = some res) (hd : decode cc pc = .ok (.ireturn, 1)) :
    W p l e R s m args below meth c H locs cells slots (MQ below (Qiw D ty w A res) args s cells slots A) (F0 m pc ls [.int r]) := by
  obtain ⟨hK, hP, hD, hS, -, -⟩ := hI
  exact W.iret (v := r) X.1 X.2.1 hr (fun t ht hW => ⟨⟨r, σ, rfl, Option.some.inj hres, by rw [ht]; exact hP, va_K.moved hW.alike hK, hD⟩, hS.F ht⟩) hS.2.2 hd hlk
/-- of one that answers a boolean, byte .. -/
theorem rt_z (X : CallFix p m c cc nL s args tb own) (hlk : meth.locks = false) {rt : FieldType} (hr : meth.sig.returnType = some rt) (hI : Inw D ty Fx (w σ) A s H locs) {r : Int32} (hn : narrow rt (.int r) = .int r) (hres : some (r, σ) = some res) (hd : decode cc pc = .ok (.ireturn, 1)) :
    W p l e R s m args below meth c H locs cells slots (MQ below (Qiw D ty w A res) args s cells slots A) (F0 m pc ls [.int r]) := by
  obtain ⟨hK, hP, hD, hS, -, -⟩ := hI
  exact W.zret (v := r) X.1 X.2.1 hr hn (fun t ht hW => ⟨⟨r, σ, rfl, Option.some.inj hres, by rw [ht]; exact hP, va_K.moved hW.alike hK, hD⟩, hS.F ht⟩) hS.2.2 hd hlk
/-- of a void one -/
theorem rt_v (X : CallFix p m c cc nL s args tb own) (hlk : meth.locks = false) (hr : meth.sig.returnType = none) (hI : Inw D ty Fx (w σ) A s H locs) {r : Int32} (hres : some (r, σ) = some res) (hd : decode cc pc = .ok (.return_, 1)) :
    W p l e R s m args below meth c H locs cells slots (MQ below (Qvw D ty w A res) args s cells slots A) (F0 m pc ls []) := by
  obtain ⟨hK, hP, hD, hS, -, -⟩ := hI
  have hu : σ = res.2 := congrArg Prod.snd (Option.some.inj hres)
  exact W.vret X.1 X.2.1 hr (fun t ht hW => ⟨⟨σ, rfl, hu, by rw [ht]; exact hP, va_K.moved hW.alike hK, hD⟩, hS.F ht⟩) hS.2.2 hd hlk
theorem wz_ret {v v' : Int32} {rt : FieldType} {Qc : Array Value → State → Outcome → State → Prop} {free : Addr → Prop} (hexec : p.tables.exec = Jvm.exec) (hb : c.code = cc) (hr : meth.sig.returnType = some rt) (hn : narrow rt (.int v) = .int v')
    (hq : ∀ t : State, t.heap = H → s.WarmedH t.vm → Qc args s (.returned (some (.int v'))) t) (hf : ∀ q ∈ locs, free q.base) (hdg : decode cc pc = .ok (.ireturn, 1)) (hlocks : meth.locks = false) : W p l e R s m args below meth c H locs cells slots (MQ below Qc args s cells slots free) (F0 m pc ls [.int v]) := by
  intro T hT X
  obtain ⟨fs, hret, hrun, hended, hW, hframe⟩ := X.leave (v := some (.int v')) (fun h => by rw [hr] at h; cases h)
  have hmeth' : T.vm.method? m = some meth := X.method'
  refine ⟨T.setFrames fs, ?_, .returned (some (.int v')), hrun, hended, hq _ hT hW, locs, ⟨⟨_, rfl⟩, hW, hframe⟩, hf⟩
  jvm_step X.here [X.here.top, hexec, hb, hdg, hmeth', hr, hn]
  (try refine ⟨rfl, ?_⟩); (try refine ⟨rfl, ?_⟩)
  first | (intro acts; rw [hret _ acts rfl rfl rfl]) | rw [hret _ _ rfl rfl rfl]
  exact Steps.refl _
theorem rt_b (X : CallFix p m c cc nL s args tb own) (hlk : meth.locks = false) (hr : meth.sig.returnType = some .boolean) (hI : Inw D ty Fx (w σ) A s H locs) {r : Int32} (hres : some (vp_nar .boolean r, σ) = some res) (hd : decode cc pc = .ok (.ireturn, 1)) :
    W p l e R s m args below meth c H locs cells slots (MQ below (Qiw D ty w A res) args s cells slots A) (F0 m pc ls [.int r]) := by
  obtain ⟨hK, hP, hD, hS, -, -⟩ := hI
  exact wz_ret (v := r) (v' := vp_nar .boolean r) X.1 X.2.1 hr rfl (fun t ht hW => ⟨⟨vp_nar .boolean r, σ, rfl, Option.some.inj hres, by rw [ht]; exact hP, va_K.moved hW.alike hK, hD⟩, hS.F ht⟩) hS.2.2 hd hlk
/-- a method's beginning -/
theorem en_w {y : MethodName} {rm : Room} {w0 : va_W} {sz : Nat} {av : List Value} {Qc : (Nat → Prop) → Array Value → State → Outcome → State → Prop} {mc ms : Nat} (hy : plainName y.cls = true) (hav : (lg_sl av).length ≤ nL)
    (body : ∀ (p : Program) (e : Env) (s : State) (m : MethodId) (args : Array Value) (below : List Frame) (meth : Method) (c : Code) (A : Nat → Prop), CallFix p m c cc nL s args tb y.cls → meth.locks = false → meth.sig.returnType = ret → (y.name = "<init>" → meth.name = "<init>") →
      ∀ (H : Heap) (locs : List Loc), Inw D ty Fx w0 A s H locs → ∀ ls : Array Slot, lv_has ls nL (lv_args 0 av) → W p l e rm s m args below meth c H locs 0 0 (MQ below (Qc A) args s mc ms A) (F0 m 0 ls [])) :
    Met l y (wsy y cc nL ret) rm (Pcw D ty Fx w0 sz av) (Qc (va_A w0 sz)) mc ms (va_A w0 sz) := by
  refine Met.ofW (cc := cc) (maxL := nL) (ret := ret) hy rfl ?_
  intro p e s m args below meth c s₁ B hml hv
  obtain ⟨rfl, hsz, hP, hK, hD0, hFx⟩ := hv
  subst hsz
  have hts := atoms_spec (ws := wsy y cc nL ret) B.pre
  have hown : s.vm.findClass y.cls = some m.cls := findClass_of_methodNamed B.named
  have hD := hD0.self (sz := s.heap.size)
  generalize hAe : va_A w0 s.heap.size = A at hD hFx ⊢
  have hA : ∀ q : Nat, s.heap.size ≤ q → A q := fun q h => by rw [← hAe]; exact Or.inr h
  have hl := lv_entry av (n := nL) hav
  rw [lg_entry_eq]
  generalize (lg_sl av ++ List.replicate (nL - (lg_sl av).length) Slot.unset).toArray = ls at hl ⊢
  exact body p e s m av.toArray below meth c A ⟨B.exec, B.bytes, hml, hown, fun w hw => hts w (List.mem_cons_of_mem _ hw)⟩ B.notSynchronized B.returns (fun hn => by rw [← hn]; exact (name_of_methodNamed B.named B.method).1) s.heap [] ⟨hK, hP, hD, va_S.rf, hA, hFx⟩ ls hl
end Bs
