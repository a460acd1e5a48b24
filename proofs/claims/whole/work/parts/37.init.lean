theorem aoa_moved {t : FieldType} {u U : State} (hvm : u.vm.Alike U.vm) (h : (Cond.arrayOver (.array t)).before #[] u = true) : (Cond.arrayOver (.array t)).before #[] U = true := by
  obtain ⟨comp, c, k, h1, h2, h3, h4, h5⟩ := arrayOverA_spec h
  obtain ⟨k', hk', he⟩ := hvm.2.2 _ _ h3
  have key : ∀ F : Class → Bool, (∀ vm : Vm, vm.bare.classes.findIdx? F = vm.classes.findIdx? F) → u.vm.classes.findIdx? F = some c → U.vm.classes.findIdx? F = some c := fun F hF h => by
    rw [← hF]
    first | rw [hvm.bare_eq] | rw [← hvm.bare_eq]
    rw [hF]
    exact h
  have hi := key _ (fun vm => by simp only [Vm.bare, Array.findIdx?_map]; rfl) h2
  have hkd : k'.kind = .array comp (.array t) := by rw [he]; exact h4
  have f1 : U.vm.findClass (FieldType.array t).toString = some comp := by rw [hvm.findClass]; exact h1
  have f2 : U.vm.findClass ("[" ++ (FieldType.array t).toString) = some c := by rw [hvm.findClass]; exact h5
  unfold Cond.before Cond.holds
  simp only [Cond.value]
  rw [f1, Option.bind_some]
  refine (congrArg (fun o : Option Nat => (o.bind (fun c => (U.vm.classes[c]?).map fun (k : Class) => match k.kind with | .array _ ty => decide (ty = FieldType.array t) && decide (U.vm.findClass ("[" ++ (FieldType.array t).toString) = some c) | _ => false) == some true)) hi).trans ?_
  simp [hk', hkd, f2]
theorem rowfn {r g : Nat → Nat} (h : ∀ i, i < 5 → r i = g i) : (fun i => if i < 5 then some (r i) else none) = (fun i => if i < 5 then some (g i) else none) := by
  funext i
  by_cases hi : i < 5
  · rw [if_pos hi, if_pos hi, h i hi]
  · rw [if_neg hi, if_neg hi]
def FxI (_ : Nat → Prop) (U : State) (_ : Heap) : Prop := va_Nw (.methodLinkNest RX4 9 yX0_init RX4) U ∧ va_Nw (.methodLinkNest RX3 11 yX2_init RX4) U ∧ va_Nw (.methodLinkNest RX3 20 yX1_init RX4) U ∧ (Cond.arrayOver (.array .byte)).before #[] U = true
theorem fxI : FxOk FxI := fun _ _ _ _ _ _ hW h _ _ => ⟨h.1.warmM hW, h.2.1.warmM hW, h.2.2.1.warmM hW, aoa_moved hW.alike h.2.2.2⟩
def Qcn (D : va_G) (ty : Nat → ClassId) (wq : (Nat → Nat) → va_W) (bq : Nat) (A : Nat → Prop) : Array Value → State → Outcome → State → Prop := va_Qv (fun (u : Nat → Nat) => u 0 = bq) (fun u t => va_P D vwCl (wq u) t.heap ∧ va_K D vwCl (tyL ty) t ∧ va_D A (wq u)) A
/-- addresses by their places -/
def adr (l : List Nat) (i : Nat) : Nat := l.getD i 0
section Ib
variable {p : Program} {l : Launch} {e : Env} {R : Room} {s : State} {m : MethodId} {args : Array Value} {below : List Frame} {meth : Method} {c : Code} {H : Heap} {locs : List Loc} {cells slots mc ms : Nat} {Q : State → Prop}
variable {cc : ByteArray} {pc nL : Nat} {ls : Array Slot} {rest st : List Value} {D : va_G} {ty : Nat → ClassId} {q : Nat → Nat} {a b0 w0 c0 : va_W} {wq : (Nat → Nat) → va_W} {A : Nat → Prop} {own : String} {Fx Fy : (Nat → Prop) → State → Heap → Prop}
theorem nw_a (X : CallFix p m c cc nL s args tb own) (hI : Inw D ty Fx w0 A s H locs) {atype : ArrayType} (harr : Cond.arrayClass (newarray.typeOf atype) ∈ tb) {ft : FieldType} (hty : newarray.typeOf atype = ft) (t0 : Nat) {cT : ClassId} (ht : (tyL ty)[t0]? = some (cT, ft)) (hra : ∀ cA, va_RA s cA ft → s.vm.findClass ("[" ++ ft.toString) = some cA) {n : Int32} {N : Nat} {a0 : vp_A} (ha : ∀ cA : ClassId, vp_cell cA a0 = arrV cA N (fun _ => defaultValue ft)) (hn : ¬ n < 0) (hN : n.toNatClampNeg = N) (hbytes : N * componentBytes ft ≤ 536870912) (hcells : cells + 1 ≤ R.cells) (hslots : slots + N ≤ R.slots) (hd : decode cc pc = .ok (.newarray atype, 2))
    (kk : ∀ (q1 : Nat) (H : Heap), Inw D ty Fx (w0 ++ [(q1, .inl (cT, a0))]) A s H locs → W p l e R s m args below meth c H locs (cells + 1) (slots + N) Q (F0 m (pc + 2) ls (.ref q1 :: rest))) : W p l e R s m args below meth c H locs cells slots Q (F0 m pc ls (.int n :: rest)) := by
  obtain ⟨hK, hP, hD, hS, hA, hF⟩ := hI
  refine va_newa X.1 X.2.1 (X.2.2.2.2 _ harr) hty hK hP hD hS hA ha hn hN hbytes hcells hslots hd (fun q1 cA H1 hK1 hP1 hD1 hS1 => ?_)
  have h1 := hra cA (hK1.2 (tyL ty).length _ (by rw [List.getElem?_append_right (Nat.le_refl _), Nat.sub_self]; rfl)).2
  have h2 := hra cT (hK.2 t0 _ ht).2
  cases h1.symm.trans h2
  exact kk q1 H1 ⟨hK, hP1, hD1, hS1, hA, hF⟩
theorem nw_o (X : CallFix p m c cc nL s args tb own) (hI : Inw D ty Fx w0 A s H locs) {C : String} {T : u_T} {N ci idx : Nat} (hcl : Cond.classLink own idx C ∈ tb) (hinst : Cond.instantiable C N ∈ tb) (hini : Cond.initialized C ∈ tb) (hu : ∀ w ∈ u_ws C T N, w ∈ tb) (t0 : Nat → FieldType) (ht0 : ∀ k, k < N → parseFieldDescriptor (T k).2.2.1 = some (t0 k)) (hc : vwCl[ci]? = some (C, T, N)) {fs : List Value} (hfs : ∀ j, j < N → defaultValue (t0 j) = vp_V fs j) (hcells : cells + 1 ≤ R.cells) (hslots : slots + N ≤ R.slots) (hd : decode cc pc = .ok (.new idx, 3))
    (kk : ∀ (q1 : Nat) (H : Heap), Inw D ty Fx (w0 ++ [(q1, .inr (ci, fs))]) A s H locs → W p l e R s m args below meth c H locs (cells + 1) (slots + N) Q (F0 m (pc + 3) ls (.ref q1 :: rest))) : W p l e R s m args below meth c H locs cells slots Q (F0 m pc ls rest) := by
  obtain ⟨hK, hP, hD, hS, hA, hF⟩ := hI
  exact va_new X.1 X.2.1 X.2.2.2.2 hu t0 ht0 X.2.2.2.1 (X.2.2.2.2 _ hcl) (X.2.2.2.2 _ hinst) (X.2.2.2.2 _ hini) hK hP hD hS hA hc hfs hcells hslots hd (fun q1 H1 a1 a2 a3 => kk q1 H1 ⟨hK, a1, a2, a3, hA, hF⟩)
theorem mn_b (X : CallFix p m c cc nL s args tb own) (hI : Inw D ty Fx w0 A s H locs) {idx : Nat} (hcl : Cond.classLink own idx "[[B" ∈ tb) (harr : Cond.arrayClass .byte ∈ tb) (hov : (Cond.arrayOver (.array .byte)).before #[] s = true) (hcells : cells + (1 + 5) ≤ R.cells) (hslots : slots + (5 + 5 * 80) ≤ R.slots) (hd : decode cc pc = .ok (.multianewarray idx 2, 4))
    (kk : ∀ (g : Nat) (r : Nat → Nat) (H : Heap), Inw D ty Fx (w0 ++ [(g, .inl (ty 2, 5, .inr (.inr (.inr (.inr (fun i => if i < 5 then some (r i) else none)))))), (r 0, .inl (ty 1, 80, .inl (fun _ => 0))), (r 1, .inl (ty 1, 80, .inl (fun _ => 0))), (r 2, .inl (ty 1, 80, .inl (fun _ => 0))), (r 3, .inl (ty 1, 80, .inl (fun _ => 0))), (r 4, .inl (ty 1, 80, .inl (fun _ => 0)))]) A s H locs → W p l e R s m args below meth c H locs (cells + 1 + 5) (slots + 5 + 5 * 80) Q (F0 m (pc + 4) ls (.ref g :: rest))) : W p l e R s m args below meth c H locs cells slots Q (F0 m pc ls (.int 80 :: .int 5 :: rest)) := by
  obtain ⟨hK, hP, hD, hS, hA, hF⟩ := hI
  have hcy : s.vm.findClass (FieldType.array .byte).toString = some (ty 1) := (hK.2 1 _ rfl).2
  have e0 : w0 ++ va_pl [] (fun _ => (.inr (0, []) : va_E)) = w0 := List.append_nil _
  refine va_mna (X := w0) (L := []) (f := fun _ => .inr (0, [])) (ty := .byte) (cy := ty 1) (n := 5) (k := 80) (N' := 5) (K' := 80) (z := (80, .inl (fun _ => 0))) X.1 X.2.1 X.2.2.2.1 (X.2.2.2.2 _ hcl) hov (X.2.2.2.2 _ harr) hcy hK (by rw [e0]; exact hP) (by rw [e0]; exact hD) hS hA (by decide) (by decide) (by decide) (by decide) (by decide) (by decide) (by decide) (by decide) (by decide) hcells hslots (fun _ => rfl) hd (fun g r cA H1 _ _ hK1 hP1 hD1 hS1 => ?_)
  have h1 : va_RA s cA (.array .byte) := (hK1.2 (tyL ty).length _ (by rw [List.getElem?_append_right (Nat.le_refl _), Nat.sub_self]; rfl)).2
  have h2 : va_RA s (ty 2) (.array .byte) := (hK.2 2 _ rfl).2
  have h3 : s.vm.findClass ("[" ++ (FieldType.array .byte).toString) = some cA := h1
  have h4 : s.vm.findClass ("[" ++ (FieldType.array .byte).toString) = some (ty 2) := h2
  cases h3.symm.trans h4
  have e1 : ∀ o : Nat × va_E, (w0 ++ [o]) ++ va_pl ([] ++ (List.range 5).map r) (vr_up (fun _ => .inr (0, [])) ((List.range 5).map r) (.inl (ty 1, 80, .inl (fun _ => 0)))) = w0 ++ [o, (r 0, .inl (ty 1, 80, .inl (fun _ => 0))), (r 1, .inl (ty 1, 80, .inl (fun _ => 0))), (r 2, .inl (ty 1, 80, .inl (fun _ => 0))), (r 3, .inl (ty 1, 80, .inl (fun _ => 0))), (r 4, .inl (ty 1, 80, .inl (fun _ => 0)))] := fun o => by
    rw [← vr_rows (fun a _ h => absurd h (by simp)), List.append_assoc]
    rfl
  rw [e1] at hP1 hD1
  exact kk g r H1 ⟨hK, hP1, hD1, hS1, hA, hF⟩
theorem pf_f (X : CallFix p m c cc nL s args tb own) (hI : Inw D ty Fx w0 A s H locs) (hnm0 : meth.name = "<init>") (i : Nat) {ci a1 N idx : Nat} {T : u_T} {fs : List Value} (he : w0[i]? = some (a1, .inr (ci, fs))) (hc : vwCl[ci]? = some (own, T, N)) (hu : ∀ w ∈ u_ws own T N, w ∈ tb) (t0 : Nat → FieldType) (ht0 : ∀ k, k < N → parseFieldDescriptor (T k).2.2.1 = some (t0 k)) (hnm : ∀ a, a < N → ∀ b, b < N → a ≠ b → (T a).2.1 ≠ (T b).2.1) (k : Nat) (hk : k < N)
    (hl : Cond.fieldLink own idx own (T k).2.1 (T k).2.2.1 ∈ tb) (h1 : (T k).1 = own) (hfin : (T k).2.2.2 = true) {ft : FieldType} (hpd : parseFieldDescriptor (T k).2.2.1 = some ft) {v : Value} (hn : narrow ft v = v) (hfit : fits ft v = true) (hlen : k < fs.length) {w1 : va_W} (hw : w0.set i (a1, .inr (ci, fs.set k v)) = w1) (hd : decode cc pc = .ok (.putfield idx, 3))
    (kk : ∀ (H : Heap) (locs : List Loc), Inw D ty Fx w1 A s H locs → W p l e R s m args below meth c H locs cells slots Q (F0 m (pc + 3) ls rest)) : W p l e R s m args below meth c H locs cells slots Q (F0 m pc ls (v :: .ref a1 :: rest)) := by
  obtain ⟨hK, hP, hD, hS, hA, hF⟩ := hI
  obtain ⟨hx, hb, hml, ho, hts⟩ := X
  subst hw
  exact va_putF hx hb hts hu t0 ht0 hnm ho hK hP hD hS i he hc k hk (hts _ hl) (fun x h => by rw [h1] at h; exact h) hfin hnm0 h1 hpd hn hfit hlen hd (fun H1 locs1 a1 a2 a3 => kk H1 locs1 ⟨hK, a1, a2, a3, hA, hF⟩)
theorem ob_i (X : CallFix p m c cc nL s args tb own) {idx : Nat} (hl : Cond.methodLink own idx objectInit ∈ tb) (hi : Cond.instanceMethod objectInit ∈ tb) (hco : Cond.code objectInit ⟨#[0xb1]⟩ 1 none ∈ tb) (hsz : ls.size = nL) {a1 : Nat} (hd : decode cc pc = .ok (.invokespecial idx, 3)) (hR : 1 ≤ R.frames ∧ (rest.map fun v => v.category).sum + 12 ≤ R.locals)
    (kk : W p l e R s m args below meth c H locs cells slots Q (F0 m (pc + 3) ls rest)) : W p l e R s m args below meth c H locs cells slots Q (F0 m pc ls (.ref a1 :: rest)) :=
  W.objInit (g := F0 m pc ls (.ref a1 :: rest)) X.1 X.2.1 X.2.2.2.1 (X.2.2.2.2 _ hl) (X.2.2.2.2 _ hi) (X.2.2.2.2 _ hco) rfl (hsz.trans X.2.2.1.symm) rfl hd hR.1 (by show 2 * 0 + _ + 12 ≤ _; have := hR.2; omega) kk
theorem rv_c (X : CallFix p m c cc nL s args tb own) (hlk : meth.locks = false) (hr : meth.sig.returnType = none) (u : Nat → Nat) {bq : Nat} (hu : u 0 = bq) (hI : Inw D ty Fx w0 A s H locs) (is : List Nat) (hw : is.filterMap (fun i => w0[i]?) = wq u) (hn : va_nd is = true) (hw2 : is.map (fun i => w0[i]?) = (wq u).map some) (hd : decode cc pc = .ok (.return_, 1)) :
    W p l e R s m args below meth c H locs cells slots (MQ below (Qcn D ty wq bq A) args s cells slots A) (F0 m pc ls []) := by
  obtain ⟨hK, hP, hD, hS, -, -⟩ := hI
  exact W.vret X.1 X.2.1 hr (fun t ht hW => ⟨⟨u, rfl, hu, by rw [ht]; exact hP.sub is hw, va_K.moved hW.alike hK, hD.sub is hn hw2⟩, hS.F ht⟩) hS.2.2 hd hlk
def OkI (y : MethodName) (bytes : ByteArray) (maxL : Nat) (n : Nat) : Prop :=
  Cond.code y bytes maxL none ∈ tb ∧ Cond.initialized y.cls ∈ tb ∧ (y.cls ≠ "java/lang/invoke/MethodHandle" ∧ y.cls ≠ "java/lang/invoke/VarHandle") ∧ (parseMethodDescriptor y.desc).map (fun d => d.parameters.length) = some n ∧ Cond.instanceMethod y ∈ tb ∧ y.name = "<init>"
theorem ci_n (X : CallFix p m c cc nL s args tb own) (hFx : FxOk Fy) (hfy : ∀ A U H, Fx A U H → Fy A U H) (hI : Inw D ty Fx ((a ++ b0) ++ c0) A s H locs) {y : MethodName} {host : String} {bytes : ByteArray} {maxL n idx bq m1 s1 : Nat} {rm : Room} {As : List Value}
    (hM : Met l y (wsy y bytes maxL none) rm (Pcw D ty Fy b0 H.size (.ref bq :: As)) (Qcn D ty wq bq (va_A b0 H.size)) m1 s1 (va_A b0 H.size)) (hO : OkI y bytes maxL n) (hl : va_Nw (.methodLinkNest own idx y host) s ∨ Cond.methodLink own idx y ∈ tb) (hrm : rm.cells = m1 ∧ rm.slots = s1 ∧ rm.frames + 1 ≤ R.frames ∧ 8 + (maxL + 11) + rm.locals ≤ R.locals)
    (hn : As.length = n) (hsz : ls.size = nL) (hst : st = As.reverse ++ .ref bq :: rest) (hW : (rest.map fun v => v.category).sum ≤ 8) (hcs : cells + m1 ≤ R.cells ∧ slots + s1 ≤ R.slots) (hd : decode cc pc = .ok (.invokespecial idx, 3))
    (kk : ∀ (u : Nat → Nat) (H : Heap) (locs : List Loc), u 0 = bq → Inw D ty Fx ((a ++ wq u) ++ c0) A s H locs → W p l e R s m args below meth c H locs (cells + m1) (slots + s1) Q (F0 m (pc + 3) ls rest)) : W p l e R s m args below meth c H locs cells slots Q (F0 m pc ls st) := by
  have hIb := in_fx (in_sub hI) hfy
  have hfr := in_free hIb
  have hpre := in_pre hFx hIb (.ref bq :: As)
  obtain ⟨hK, hP, hD, hS, hA, hF⟩ := hI
  subst hst
  obtain ⟨o1, o2, o3, o4, o5, o6⟩ := hO
  have hts := X.2.2.2.2
  have hrun : va_Run p l e R s m args below meth c H locs cells slots m1 s1 (F0 m pc ls (As.reverse ++ .ref bq :: rest)) rest (Qcn D ty wq bq (va_A b0 H.size) (Value.ref bq :: As).toArray) (va_A b0 H.size) := by
    rcases hl with hl | hl
    · exact va_runIN (host := host) (As := As) (rest := rest) X hM ⟨⟨⟨hrm.1, hrm.2.1, hrm.2.2.1, hrm.2.2.2, wsy_ride hts o1, List.mem_cons_self⟩, hts _ o1, hts _ o2, o3, fun sig h => by rw [h] at o4; exact (Option.some.inj o4).symm, va_Nw.use rfl hl⟩, o6, hts _ o5⟩ ⟨pc_blind hFx _ _ _, hpre⟩ rfl hn hsz rfl (lv_room hW) hd hcs
    · exact va_runI (As := As) (rest := rest) X hM ⟨⟨hrm.1, hrm.2.1, hrm.2.2.1, hrm.2.2.2, wsy_ride hts o1, List.mem_cons_self, hts _ o1, hts _ o2, o3, fun sig h => by rw [h] at o4; exact (Option.some.inj o4).symm, hts _ hl⟩, o6, hts _ o5⟩ ⟨pc_blind hFx _ _ _, hpre⟩ rfl hn hsz rfl (lv_room hW) hd hcs
  refine va_callv hrun hS (fun q _ h => hfr q h) hfr (fun u t H1 locs1 ht hvm hw hB hz1 hk1 hS1 => ?_)
  obtain ⟨hP1, hK1, hD1⟩ := hB
  rw [ht] at hP1
  obtain ⟨hP2, hD2⟩ := jn hP hD hk1 hfr hP1 hD1
  exact kk u H1 locs1 hw ⟨hK, hP2, hD2, hS1, hA, hF⟩
end Ib
theorem ol_i : Cond.instanceMethod objectInit ∈ tb := tb_in (List.mem_of_getElem? (i := 44) (by decide +kernel)) (by decide +kernel)
theorem ol_c : Cond.code objectInit ⟨#[0xb1]⟩ 1 none ∈ tb := tb_in (List.mem_of_getElem? (i := 45) (by decide +kernel)) (by decide +kernel)
theorem ar_byte : Cond.arrayClass .byte ∈ tb := tb_in (List.mem_of_getElem? (i := 61) (by decide +kernel)) (by decide +kernel)
theorem nl_X0_9 : Cond.classLink RX0 9 "[[B" ∈ tb := tb_in (List.mem_of_getElem? (i := 52) (by decide +kernel)) (by decide +kernel)
theorem ar_int : Cond.arrayClass (newarray.typeOf .int) ∈ tb := tb_in (List.mem_of_getElem? (i := 62) (by decide +kernel)) (by decide +kernel)
theorem ar_boolean : Cond.arrayClass (newarray.typeOf .boolean) ∈ tb := tb_in (List.mem_of_getElem? (i := 655) (by decide +kernel)) (by decide +kernel)
theorem in_X0 : Cond.instantiable RX0 2 ∈ tb := tb_in (List.mem_of_getElem? (i := 47) (by decide +kernel)) (by decide +kernel)
theorem ini_X0 : Cond.initialized RX0 ∈ tb := tb_in (List.mem_of_getElem? (i := 26) (by decide +kernel)) (by decide +kernel)
theorem in_X1 : Cond.instantiable RX1 7 ∈ tb := tb_in (List.mem_of_getElem? (i := 104) (by decide +kernel)) (by decide +kernel)
theorem ini_X1 : Cond.initialized RX1 ∈ tb := tb_in (List.mem_of_getElem? (i := 29) (by decide +kernel)) (by decide +kernel)
theorem in_X2 : Cond.instantiable RX2 9 ∈ tb := tb_in (List.mem_of_getElem? (i := 70) (by decide +kernel)) (by decide +kernel)
theorem ini_X2 : Cond.initialized RX2 ∈ tb := tb_in (List.mem_of_getElem? (i := 28) (by decide +kernel)) (by decide +kernel)
theorem in_X3 : Cond.instantiable RX3 7 ∈ tb := tb_in (List.mem_of_getElem? (i := 64) (by decide +kernel)) (by decide +kernel)
theorem ini_X3 : Cond.initialized RX3 ∈ tb := tb_in (List.mem_of_getElem? (i := 27) (by decide +kernel)) (by decide +kernel)
theorem in_X4 : Cond.instantiable RX4 2 ∈ tb := tb_in (List.mem_of_getElem? (i := 39) (by decide +kernel)) (by decide +kernel)
theorem ini_X4 : Cond.initialized RX4 ∈ tb := tb_in (List.mem_of_getElem? (i := 25) (by decide +kernel)) (by decide +kernel)
theorem in_X5 : Cond.instantiable RX5 22 ∈ tb := tb_in (List.mem_of_getElem? (i := 583) (by decide +kernel)) (by decide +kernel)
theorem ini_X5 : Cond.initialized RX5 ∈ tb := tb_in (List.mem_of_getElem? (i := 30) (by decide +kernel)) (by decide +kernel)
theorem ol_X5 : Cond.methodLink RX5 1 objectInit ∈ tb := tb_in (List.mem_of_getElem? (i := 587) (by decide +kernel)) (by decide +kernel)
def wI_X5 (ty : Nat → ClassId) (u : Nat → Nat) : va_W := [(u 0, .inr (5, [.int 0, .ref (u 1), .ref (u 2), .int 0, .int 0, .ref (u 3), .ref (u 4), .int 0, .int 0, .int 0, .int 0, .int 0, .ref (u 5), .ref (u 6), .ref (u 7), .ref (u 8), .ref (u 9), .int 0, .ref (u 10), .int 0, .int 0, .ref (u 11)])), (u 1, .inl (ty 0, 400, .inl (fun _ => 0))), (u 2, .inl (ty 0, 5, .inl (fun _ => 0))), (u 3, .inl (ty 3, 5, .inl (fun _ => 0))), (u 4, .inl (ty 0, 5, .inl (fun _ => 0))), (u 5, .inl (ty 0, 520, .inl (fun _ => 0))), (u 6, .inl (ty 0, 520, .inl (fun _ => 0))), (u 7, .inl (ty 0, 520, .inl (fun _ => 0))), (u 8, .inl (ty 0, 3120, .inl (fun _ => 0))), (u 9, .inl (ty 0, 520, .inl (fun _ => 0))), (u 10, .inl (ty 0, 1010, .inl (fun _ => 0))), (u 11, .inl (ty 0, 40, .inl (fun _ => 0)))]
abbrev rm_X5_init : Room := { frames := 1, cells := 11, slots := 6665, locals := 30 }
set_option maxRecDepth 100000 in
theorem oi_X5 : OkI yX5_init cX5_init 1 0 := ⟨tb_in (List.mem_of_getElem? (i := 586) rfl) (by decide +kernel), tb_in (List.mem_of_getElem? (i := 30) (by decide +kernel)) (by decide +kernel), ⟨by decide +kernel, by decide +kernel⟩, by decide +kernel, tb_in (List.mem_of_getElem? (i := 585) (by decide +kernel)) (by decide +kernel), rfl⟩
set_option maxHeartbeats 4000000 in
set_option maxRecDepth 100000 in
theorem m_X5_init (l : Launch) (D : va_G) (ty : Nat → ClassId) (h0 : Nat) (sz : Nat) : Met l yX5_init (wsy yX5_init cX5_init 1 none) rm_X5_init (Pcw D ty FxI [(h0, .inr (5, [.int 0, .null, .null, .int 0, .int 0, .null, .null, .int 0, .int 0, .int 0, .int 0, .int 0, .null, .null, .null, .null, .null, .int 0, .null, .int 0, .int 0, .null]))] sz [.ref h0]) (Qcn D ty (wI_X5 ty) h0 (va_A [(h0, .inr (5, [.int 0, .null, .null, .int 0, .int 0, .null, .null, .int 0, .int 0, .int 0, .int 0, .int 0, .null, .null, .null, .null, .null, .int 0, .null, .int 0, .int 0, .null]))] sz)) 11 6665 (va_A [(h0, .inr (5, [.int 0, .null, .null, .int 0, .int 0, .null, .null, .int 0, .int 0, .int 0, .int 0, .int 0, .null, .null, .null, .null, .null, .int 0, .null, .int 0, .int 0, .null]))] sz) := by
  refine en_w (Qc := fun A => Qcn D ty (wI_X5 ty) h0 A) (by decide) (Nat.le_of_ble_eq_true rfl) ?_
  intro p e s m args below meth c A X hlk hr hin0 H locs hI ls hl
  have X : CallFix p m c cX5_init 1 s args tb RX5 := X
  have hin : meth.name = "<init>" := hin0 rfl
  have hl : lv_has ls 1 [(0, .ref h0)] := hl
  refine lv_aload_n X.1 X.2.1 dX5_init_0 rfl (lv_at hl 0 rfl) ?_
  refine ob_i X ol_X5 ol_i ol_c hl.1 dX5_init_1 ⟨Nat.le_of_ble_eq_true rfl, Nat.le_of_ble_eq_true rfl⟩ ?_
  refine lv_aload_n X.1 X.2.1 dX5_init_4 rfl (lv_at hl 0 rfl) ?_
  refine lv_sipush (v := 400) X.1 X.2.1 dX5_init_5 (by decide) ?_
  refine nw_a (a0 := (400, .inl (fun _ => 0))) (N := 400) X hI ar_int rfl 0 rfl (fun _ h => h) (fun _ => rfl) (by decide) (by decide) (by decide) (Nat.le_of_ble_eq_true rfl) (Nat.le_of_ble_eq_true rfl) dX5_init_8 (fun g1 H hI => ?_)
  replace hI : Inw D ty FxI [(h0, .inr (5, [.int 0, .null, .null, .int 0, .int 0, .null, .null, .int 0, .int 0, .int 0, .int 0, .int 0, .null, .null, .null, .null, .null, .int 0, .null, .int 0, .int 0, .null])), (g1, .inl (ty 0, 400, .inl (fun _ => 0)))] A s H locs := hI
  refine pf_f (v := .ref g1) (w1 := [(h0, .inr (5, [.int 0, .ref g1, .null, .int 0, .int 0, .null, .null, .int 0, .int 0, .int 0, .int 0, .int 0, .null, .null, .null, .null, .null, .int 0, .null, .int 0, .int 0, .null])), (g1, .inl (ty 0, 400, .inl (fun _ => 0)))]) X hI hin 0 rfl rfl utX5 tyX5 tyX5_ok nmX5 1 (by decide) lk_X5_disk rfl rfl rfl rfl rfl (Nat.le_of_ble_eq_true rfl) rfl dX5_init_10 (fun H locs hI => ?_)
  refine lv_aload_n X.1 X.2.1 dX5_init_13 rfl (lv_at hl 0 rfl) ?_
  refine lv_iconst (v := 5) X.1 X.2.1 dX5_init_14 (by decide) ?_
  refine nw_a (a0 := (5, .inl (fun _ => 0))) (N := 5) X hI ar_int rfl 0 rfl (fun _ h => h) (fun _ => rfl) (by decide) (by decide) (by decide) (Nat.le_of_ble_eq_true rfl) (Nat.le_of_ble_eq_true rfl) dX5_init_15 (fun g2 H hI => ?_)
  replace hI : Inw D ty FxI [(h0, .inr (5, [.int 0, .ref g1, .null, .int 0, .int 0, .null, .null, .int 0, .int 0, .int 0, .int 0, .int 0, .null, .null, .null, .null, .null, .int 0, .null, .int 0, .int 0, .null])), (g1, .inl (ty 0, 400, .inl (fun _ => 0))), (g2, .inl (ty 0, 5, .inl (fun _ => 0)))] A s H locs := hI
  refine pf_f (v := .ref g2) (w1 := [(h0, .inr (5, [.int 0, .ref g1, .ref g2, .int 0, .int 0, .null, .null, .int 0, .int 0, .int 0, .int 0, .int 0, .null, .null, .null, .null, .null, .int 0, .null, .int 0, .int 0, .null])), (g1, .inl (ty 0, 400, .inl (fun _ => 0))), (g2, .inl (ty 0, 5, .inl (fun _ => 0)))]) X hI hin 0 rfl rfl utX5 tyX5 tyX5_ok nmX5 2 (by decide) lk_X5_length rfl rfl rfl rfl rfl (Nat.le_of_ble_eq_true rfl) rfl dX5_init_17 (fun H locs hI => ?_)
  refine lv_aload_n X.1 X.2.1 dX5_init_20 rfl (lv_at hl 0 rfl) ?_
  refine lv_iconst (v := 5) X.1 X.2.1 dX5_init_21 (by decide) ?_
  refine nw_a (a0 := (5, .inl (fun _ => 0))) (N := 5) X hI ar_boolean rfl 3 rfl (fun _ h => h) (fun _ => rfl) (by decide) (by decide) (by decide) (Nat.le_of_ble_eq_true rfl) (Nat.le_of_ble_eq_true rfl) dX5_init_22 (fun g3 H hI => ?_)
  replace hI : Inw D ty FxI [(h0, .inr (5, [.int 0, .ref g1, .ref g2, .int 0, .int 0, .null, .null, .int 0, .int 0, .int 0, .int 0, .int 0, .null, .null, .null, .null, .null, .int 0, .null, .int 0, .int 0, .null])), (g1, .inl (ty 0, 400, .inl (fun _ => 0))), (g2, .inl (ty 0, 5, .inl (fun _ => 0))), (g3, .inl (ty 3, 5, .inl (fun _ => 0)))] A s H locs := hI
  refine pf_f (v := .ref g3) (w1 := [(h0, .inr (5, [.int 0, .ref g1, .ref g2, .int 0, .int 0, .ref g3, .null, .int 0, .int 0, .int 0, .int 0, .int 0, .null, .null, .null, .null, .null, .int 0, .null, .int 0, .int 0, .null])), (g1, .inl (ty 0, 400, .inl (fun _ => 0))), (g2, .inl (ty 0, 5, .inl (fun _ => 0))), (g3, .inl (ty 3, 5, .inl (fun _ => 0)))]) X hI hin 0 rfl rfl utX5 tyX5 tyX5_ok nmX5 5 (by decide) lk_X5_resident rfl rfl rfl rfl rfl (Nat.le_of_ble_eq_true rfl) rfl dX5_init_24 (fun H locs hI => ?_)
  refine lv_aload_n X.1 X.2.1 dX5_init_27 rfl (lv_at hl 0 rfl) ?_
  refine lv_iconst (v := 5) X.1 X.2.1 dX5_init_28 (by decide) ?_
  refine nw_a (a0 := (5, .inl (fun _ => 0))) (N := 5) X hI ar_int rfl 0 rfl (fun _ h => h) (fun _ => rfl) (by decide) (by decide) (by decide) (Nat.le_of_ble_eq_true rfl) (Nat.le_of_ble_eq_true rfl) dX5_init_29 (fun g4 H hI => ?_)
  replace hI : Inw D ty FxI [(h0, .inr (5, [.int 0, .ref g1, .ref g2, .int 0, .int 0, .ref g3, .null, .int 0, .int 0, .int 0, .int 0, .int 0, .null, .null, .null, .null, .null, .int 0, .null, .int 0, .int 0, .null])), (g1, .inl (ty 0, 400, .inl (fun _ => 0))), (g2, .inl (ty 0, 5, .inl (fun _ => 0))), (g3, .inl (ty 3, 5, .inl (fun _ => 0))), (g4, .inl (ty 0, 5, .inl (fun _ => 0)))] A s H locs := hI
  refine pf_f (v := .ref g4) (w1 := [(h0, .inr (5, [.int 0, .ref g1, .ref g2, .int 0, .int 0, .ref g3, .ref g4, .int 0, .int 0, .int 0, .int 0, .int 0, .null, .null, .null, .null, .null, .int 0, .null, .int 0, .int 0, .null])), (g1, .inl (ty 0, 400, .inl (fun _ => 0))), (g2, .inl (ty 0, 5, .inl (fun _ => 0))), (g3, .inl (ty 3, 5, .inl (fun _ => 0))), (g4, .inl (ty 0, 5, .inl (fun _ => 0)))]) X hI hin 0 rfl rfl utX5 tyX5 tyX5_ok nmX5 6 (by decide) lk_X5_called rfl rfl rfl rfl rfl (Nat.le_of_ble_eq_true rfl) rfl dX5_init_31 (fun H locs hI => ?_)
  refine lv_aload_n X.1 X.2.1 dX5_init_34 rfl (lv_at hl 0 rfl) ?_
  refine lv_sipush (v := 520) X.1 X.2.1 dX5_init_35 (by decide) ?_
  refine nw_a (a0 := (520, .inl (fun _ => 0))) (N := 520) X hI ar_int rfl 0 rfl (fun _ h => h) (fun _ => rfl) (by decide) (by decide) (by decide) (Nat.le_of_ble_eq_true rfl) (Nat.le_of_ble_eq_true rfl) dX5_init_38 (fun g5 H hI => ?_)
  replace hI : Inw D ty FxI [(h0, .inr (5, [.int 0, .ref g1, .ref g2, .int 0, .int 0, .ref g3, .ref g4, .int 0, .int 0, .int 0, .int 0, .int 0, .null, .null, .null, .null, .null, .int 0, .null, .int 0, .int 0, .null])), (g1, .inl (ty 0, 400, .inl (fun _ => 0))), (g2, .inl (ty 0, 5, .inl (fun _ => 0))), (g3, .inl (ty 3, 5, .inl (fun _ => 0))), (g4, .inl (ty 0, 5, .inl (fun _ => 0))), (g5, .inl (ty 0, 520, .inl (fun _ => 0)))] A s H locs := hI
  refine pf_f (v := .ref g5) (w1 := [(h0, .inr (5, [.int 0, .ref g1, .ref g2, .int 0, .int 0, .ref g3, .ref g4, .int 0, .int 0, .int 0, .int 0, .int 0, .ref g5, .null, .null, .null, .null, .int 0, .null, .int 0, .int 0, .null])), (g1, .inl (ty 0, 400, .inl (fun _ => 0))), (g2, .inl (ty 0, 5, .inl (fun _ => 0))), (g3, .inl (ty 3, 5, .inl (fun _ => 0))), (g4, .inl (ty 0, 5, .inl (fun _ => 0))), (g5, .inl (ty 0, 520, .inl (fun _ => 0)))]) X hI hin 0 rfl rfl utX5 tyX5 tyX5_ok nmX5 12 (by decide) lk_X5_segment rfl rfl rfl rfl rfl (Nat.le_of_ble_eq_true rfl) rfl dX5_init_40 (fun H locs hI => ?_)
  refine lv_aload_n X.1 X.2.1 dX5_init_43 rfl (lv_at hl 0 rfl) ?_
  refine lv_sipush (v := 520) X.1 X.2.1 dX5_init_44 (by decide) ?_
  refine nw_a (a0 := (520, .inl (fun _ => 0))) (N := 520) X hI ar_int rfl 0 rfl (fun _ h => h) (fun _ => rfl) (by decide) (by decide) (by decide) (Nat.le_of_ble_eq_true rfl) (Nat.le_of_ble_eq_true rfl) dX5_init_47 (fun g6 H hI => ?_)
  replace hI : Inw D ty FxI [(h0, .inr (5, [.int 0, .ref g1, .ref g2, .int 0, .int 0, .ref g3, .ref g4, .int 0, .int 0, .int 0, .int 0, .int 0, .ref g5, .null, .null, .null, .null, .int 0, .null, .int 0, .int 0, .null])), (g1, .inl (ty 0, 400, .inl (fun _ => 0))), (g2, .inl (ty 0, 5, .inl (fun _ => 0))), (g3, .inl (ty 3, 5, .inl (fun _ => 0))), (g4, .inl (ty 0, 5, .inl (fun _ => 0))), (g5, .inl (ty 0, 520, .inl (fun _ => 0))), (g6, .inl (ty 0, 520, .inl (fun _ => 0)))] A s H locs := hI
  refine pf_f (v := .ref g6) (w1 := [(h0, .inr (5, [.int 0, .ref g1, .ref g2, .int 0, .int 0, .ref g3, .ref g4, .int 0, .int 0, .int 0, .int 0, .int 0, .ref g5, .ref g6, .null, .null, .null, .int 0, .null, .int 0, .int 0, .null])), (g1, .inl (ty 0, 400, .inl (fun _ => 0))), (g2, .inl (ty 0, 5, .inl (fun _ => 0))), (g3, .inl (ty 3, 5, .inl (fun _ => 0))), (g4, .inl (ty 0, 5, .inl (fun _ => 0))), (g5, .inl (ty 0, 520, .inl (fun _ => 0))), (g6, .inl (ty 0, 520, .inl (fun _ => 0)))]) X hI hin 0 rfl rfl utX5 tyX5 tyX5_ok nmX5 13 (by decide) lk_X5_place rfl rfl rfl rfl rfl (Nat.le_of_ble_eq_true rfl) rfl dX5_init_49 (fun H locs hI => ?_)
  refine lv_aload_n X.1 X.2.1 dX5_init_52 rfl (lv_at hl 0 rfl) ?_
  refine lv_sipush (v := 520) X.1 X.2.1 dX5_init_53 (by decide) ?_
  refine nw_a (a0 := (520, .inl (fun _ => 0))) (N := 520) X hI ar_int rfl 0 rfl (fun _ h => h) (fun _ => rfl) (by decide) (by decide) (by decide) (Nat.le_of_ble_eq_true rfl) (Nat.le_of_ble_eq_true rfl) dX5_init_56 (fun g7 H hI => ?_)
  replace hI : Inw D ty FxI [(h0, .inr (5, [.int 0, .ref g1, .ref g2, .int 0, .int 0, .ref g3, .ref g4, .int 0, .int 0, .int 0, .int 0, .int 0, .ref g5, .ref g6, .null, .null, .null, .int 0, .null, .int 0, .int 0, .null])), (g1, .inl (ty 0, 400, .inl (fun _ => 0))), (g2, .inl (ty 0, 5, .inl (fun _ => 0))), (g3, .inl (ty 3, 5, .inl (fun _ => 0))), (g4, .inl (ty 0, 5, .inl (fun _ => 0))), (g5, .inl (ty 0, 520, .inl (fun _ => 0))), (g6, .inl (ty 0, 520, .inl (fun _ => 0))), (g7, .inl (ty 0, 520, .inl (fun _ => 0)))] A s H locs := hI
  refine pf_f (v := .ref g7) (w1 := [(h0, .inr (5, [.int 0, .ref g1, .ref g2, .int 0, .int 0, .ref g3, .ref g4, .int 0, .int 0, .int 0, .int 0, .int 0, .ref g5, .ref g6, .ref g7, .null, .null, .int 0, .null, .int 0, .int 0, .null])), (g1, .inl (ty 0, 400, .inl (fun _ => 0))), (g2, .inl (ty 0, 5, .inl (fun _ => 0))), (g3, .inl (ty 3, 5, .inl (fun _ => 0))), (g4, .inl (ty 0, 5, .inl (fun _ => 0))), (g5, .inl (ty 0, 520, .inl (fun _ => 0))), (g6, .inl (ty 0, 520, .inl (fun _ => 0))), (g7, .inl (ty 0, 520, .inl (fun _ => 0)))]) X hI hin 0 rfl rfl utX5 tyX5 tyX5_ok nmX5 14 (by decide) lk_X5_locals rfl rfl rfl rfl rfl (Nat.le_of_ble_eq_true rfl) rfl dX5_init_58 (fun H locs hI => ?_)
  refine lv_aload_n X.1 X.2.1 dX5_init_61 rfl (lv_at hl 0 rfl) ?_
  refine lv_sipush (v := 3120) X.1 X.2.1 dX5_init_62 (by decide) ?_
  refine nw_a (a0 := (3120, .inl (fun _ => 0))) (N := 3120) X hI ar_int rfl 0 rfl (fun _ h => h) (fun _ => rfl) (by decide) (by decide) (by decide) (Nat.le_of_ble_eq_true rfl) (Nat.le_of_ble_eq_true rfl) dX5_init_65 (fun g8 H hI => ?_)
  replace hI : Inw D ty FxI [(h0, .inr (5, [.int 0, .ref g1, .ref g2, .int 0, .int 0, .ref g3, .ref g4, .int 0, .int 0, .int 0, .int 0, .int 0, .ref g5, .ref g6, .ref g7, .null, .null, .int 0, .null, .int 0, .int 0, .null])), (g1, .inl (ty 0, 400, .inl (fun _ => 0))), (g2, .inl (ty 0, 5, .inl (fun _ => 0))), (g3, .inl (ty 3, 5, .inl (fun _ => 0))), (g4, .inl (ty 0, 5, .inl (fun _ => 0))), (g5, .inl (ty 0, 520, .inl (fun _ => 0))), (g6, .inl (ty 0, 520, .inl (fun _ => 0))), (g7, .inl (ty 0, 520, .inl (fun _ => 0))), (g8, .inl (ty 0, 3120, .inl (fun _ => 0)))] A s H locs := hI
  refine pf_f (v := .ref g8) (w1 := [(h0, .inr (5, [.int 0, .ref g1, .ref g2, .int 0, .int 0, .ref g3, .ref g4, .int 0, .int 0, .int 0, .int 0, .int 0, .ref g5, .ref g6, .ref g7, .ref g8, .null, .int 0, .null, .int 0, .int 0, .null])), (g1, .inl (ty 0, 400, .inl (fun _ => 0))), (g2, .inl (ty 0, 5, .inl (fun _ => 0))), (g3, .inl (ty 3, 5, .inl (fun _ => 0))), (g4, .inl (ty 0, 5, .inl (fun _ => 0))), (g5, .inl (ty 0, 520, .inl (fun _ => 0))), (g6, .inl (ty 0, 520, .inl (fun _ => 0))), (g7, .inl (ty 0, 520, .inl (fun _ => 0))), (g8, .inl (ty 0, 3120, .inl (fun _ => 0)))]) X hI hin 0 rfl rfl utX5 tyX5 tyX5_ok nmX5 15 (by decide) lk_X5_local rfl rfl rfl rfl rfl (Nat.le_of_ble_eq_true rfl) rfl dX5_init_67 (fun H locs hI => ?_)
  refine lv_aload_n X.1 X.2.1 dX5_init_70 rfl (lv_at hl 0 rfl) ?_
  refine lv_sipush (v := 520) X.1 X.2.1 dX5_init_71 (by decide) ?_
  refine nw_a (a0 := (520, .inl (fun _ => 0))) (N := 520) X hI ar_int rfl 0 rfl (fun _ h => h) (fun _ => rfl) (by decide) (by decide) (by decide) (Nat.le_of_ble_eq_true rfl) (Nat.le_of_ble_eq_true rfl) dX5_init_74 (fun g9 H hI => ?_)
  replace hI : Inw D ty FxI [(h0, .inr (5, [.int 0, .ref g1, .ref g2, .int 0, .int 0, .ref g3, .ref g4, .int 0, .int 0, .int 0, .int 0, .int 0, .ref g5, .ref g6, .ref g7, .ref g8, .null, .int 0, .null, .int 0, .int 0, .null])), (g1, .inl (ty 0, 400, .inl (fun _ => 0))), (g2, .inl (ty 0, 5, .inl (fun _ => 0))), (g3, .inl (ty 3, 5, .inl (fun _ => 0))), (g4, .inl (ty 0, 5, .inl (fun _ => 0))), (g5, .inl (ty 0, 520, .inl (fun _ => 0))), (g6, .inl (ty 0, 520, .inl (fun _ => 0))), (g7, .inl (ty 0, 520, .inl (fun _ => 0))), (g8, .inl (ty 0, 3120, .inl (fun _ => 0))), (g9, .inl (ty 0, 520, .inl (fun _ => 0)))] A s H locs := hI
  refine pf_f (v := .ref g9) (w1 := [(h0, .inr (5, [.int 0, .ref g1, .ref g2, .int 0, .int 0, .ref g3, .ref g4, .int 0, .int 0, .int 0, .int 0, .int 0, .ref g5, .ref g6, .ref g7, .ref g8, .ref g9, .int 0, .null, .int 0, .int 0, .null])), (g1, .inl (ty 0, 400, .inl (fun _ => 0))), (g2, .inl (ty 0, 5, .inl (fun _ => 0))), (g3, .inl (ty 3, 5, .inl (fun _ => 0))), (g4, .inl (ty 0, 5, .inl (fun _ => 0))), (g5, .inl (ty 0, 520, .inl (fun _ => 0))), (g6, .inl (ty 0, 520, .inl (fun _ => 0))), (g7, .inl (ty 0, 520, .inl (fun _ => 0))), (g8, .inl (ty 0, 3120, .inl (fun _ => 0))), (g9, .inl (ty 0, 520, .inl (fun _ => 0)))]) X hI hin 0 rfl rfl utX5 tyX5 tyX5_ok nmX5 16 (by decide) lk_X5_below rfl rfl rfl rfl rfl (Nat.le_of_ble_eq_true rfl) rfl dX5_init_76 (fun H locs hI => ?_)
  refine lv_aload_n X.1 X.2.1 dX5_init_79 rfl (lv_at hl 0 rfl) ?_
  refine lv_sipush (v := 1010) X.1 X.2.1 dX5_init_80 (by decide) ?_
  refine nw_a (a0 := (1010, .inl (fun _ => 0))) (N := 1010) X hI ar_int rfl 0 rfl (fun _ h => h) (fun _ => rfl) (by decide) (by decide) (by decide) (Nat.le_of_ble_eq_true rfl) (Nat.le_of_ble_eq_true rfl) dX5_init_83 (fun g10 H hI => ?_)
  replace hI : Inw D ty FxI [(h0, .inr (5, [.int 0, .ref g1, .ref g2, .int 0, .int 0, .ref g3, .ref g4, .int 0, .int 0, .int 0, .int 0, .int 0, .ref g5, .ref g6, .ref g7, .ref g8, .ref g9, .int 0, .null, .int 0, .int 0, .null])), (g1, .inl (ty 0, 400, .inl (fun _ => 0))), (g2, .inl (ty 0, 5, .inl (fun _ => 0))), (g3, .inl (ty 3, 5, .inl (fun _ => 0))), (g4, .inl (ty 0, 5, .inl (fun _ => 0))), (g5, .inl (ty 0, 520, .inl (fun _ => 0))), (g6, .inl (ty 0, 520, .inl (fun _ => 0))), (g7, .inl (ty 0, 520, .inl (fun _ => 0))), (g8, .inl (ty 0, 3120, .inl (fun _ => 0))), (g9, .inl (ty 0, 520, .inl (fun _ => 0))), (g10, .inl (ty 0, 1010, .inl (fun _ => 0)))] A s H locs := hI
  refine pf_f (v := .ref g10) (w1 := [(h0, .inr (5, [.int 0, .ref g1, .ref g2, .int 0, .int 0, .ref g3, .ref g4, .int 0, .int 0, .int 0, .int 0, .int 0, .ref g5, .ref g6, .ref g7, .ref g8, .ref g9, .int 0, .ref g10, .int 0, .int 0, .null])), (g1, .inl (ty 0, 400, .inl (fun _ => 0))), (g2, .inl (ty 0, 5, .inl (fun _ => 0))), (g3, .inl (ty 3, 5, .inl (fun _ => 0))), (g4, .inl (ty 0, 5, .inl (fun _ => 0))), (g5, .inl (ty 0, 520, .inl (fun _ => 0))), (g6, .inl (ty 0, 520, .inl (fun _ => 0))), (g7, .inl (ty 0, 520, .inl (fun _ => 0))), (g8, .inl (ty 0, 3120, .inl (fun _ => 0))), (g9, .inl (ty 0, 520, .inl (fun _ => 0))), (g10, .inl (ty 0, 1010, .inl (fun _ => 0)))]) X hI hin 0 rfl rfl utX5 tyX5 tyX5_ok nmX5 18 (by decide) lk_X5_number rfl rfl rfl rfl rfl (Nat.le_of_ble_eq_true rfl) rfl dX5_init_85 (fun H locs hI => ?_)
  refine lv_aload_n X.1 X.2.1 dX5_init_88 rfl (lv_at hl 0 rfl) ?_
  refine lv_bipush (v := 40) X.1 X.2.1 dX5_init_89 (by decide) ?_
  refine nw_a (a0 := (40, .inl (fun _ => 0))) (N := 40) X hI ar_int rfl 0 rfl (fun _ h => h) (fun _ => rfl) (by decide) (by decide) (by decide) (Nat.le_of_ble_eq_true rfl) (Nat.le_of_ble_eq_true rfl) dX5_init_91 (fun g11 H hI => ?_)
  replace hI : Inw D ty FxI [(h0, .inr (5, [.int 0, .ref g1, .ref g2, .int 0, .int 0, .ref g3, .ref g4, .int 0, .int 0, .int 0, .int 0, .int 0, .ref g5, .ref g6, .ref g7, .ref g8, .ref g9, .int 0, .ref g10, .int 0, .int 0, .null])), (g1, .inl (ty 0, 400, .inl (fun _ => 0))), (g2, .inl (ty 0, 5, .inl (fun _ => 0))), (g3, .inl (ty 3, 5, .inl (fun _ => 0))), (g4, .inl (ty 0, 5, .inl (fun _ => 0))), (g5, .inl (ty 0, 520, .inl (fun _ => 0))), (g6, .inl (ty 0, 520, .inl (fun _ => 0))), (g7, .inl (ty 0, 520, .inl (fun _ => 0))), (g8, .inl (ty 0, 3120, .inl (fun _ => 0))), (g9, .inl (ty 0, 520, .inl (fun _ => 0))), (g10, .inl (ty 0, 1010, .inl (fun _ => 0))), (g11, .inl (ty 0, 40, .inl (fun _ => 0)))] A s H locs := hI
  refine pf_f (v := .ref g11) (w1 := [(h0, .inr (5, [.int 0, .ref g1, .ref g2, .int 0, .int 0, .ref g3, .ref g4, .int 0, .int 0, .int 0, .int 0, .int 0, .ref g5, .ref g6, .ref g7, .ref g8, .ref g9, .int 0, .ref g10, .int 0, .int 0, .ref g11])), (g1, .inl (ty 0, 400, .inl (fun _ => 0))), (g2, .inl (ty 0, 5, .inl (fun _ => 0))), (g3, .inl (ty 3, 5, .inl (fun _ => 0))), (g4, .inl (ty 0, 5, .inl (fun _ => 0))), (g5, .inl (ty 0, 520, .inl (fun _ => 0))), (g6, .inl (ty 0, 520, .inl (fun _ => 0))), (g7, .inl (ty 0, 520, .inl (fun _ => 0))), (g8, .inl (ty 0, 3120, .inl (fun _ => 0))), (g9, .inl (ty 0, 520, .inl (fun _ => 0))), (g10, .inl (ty 0, 1010, .inl (fun _ => 0))), (g11, .inl (ty 0, 40, .inl (fun _ => 0)))]) X hI hin 0 rfl rfl utX5 tyX5 tyX5_ok nmX5 21 (by decide) lk_X5_put rfl rfl rfl rfl rfl (Nat.le_of_ble_eq_true rfl) rfl dX5_init_93 (fun H locs hI => ?_)
  exact rv_c (wq := wI_X5 ty) X hlk hr (adr [h0, g1, g2, g3, g4, g5, g6, g7, g8, g9, g10, g11]) rfl hI [0, 1, 2, 3, 4, 5, 6, 7, 8, 9, 10, 11] rfl rfl rfl dX5_init_96
theorem ol_X2 : Cond.methodLink RX2 3 objectInit ∈ tb := tb_in (List.mem_of_getElem? (i := 74) (by decide +kernel)) (by decide +kernel)
def wI_X2 (ty : Nat → ClassId) (u : Nat → Nat) : va_W := [(u 0, .inr (2, [.ref (u 1), .ref (u 2), .ref (u 3), .int 0, .int 0, .int 0, .int 0, .int 0, .int 0])), (u 1, .inl (ty 0, 5, .inl (fun _ => 0))), (u 2, .inl (ty 0, 5, .inl (fun _ => 0))), (u 3, .inl (ty 0, 5, .inl (fun _ => 0)))]
abbrev rm_X2_init : Room := { frames := 1, cells := 3, slots := 15, locals := 30 }
set_option maxRecDepth 100000 in
theorem oi_X2 : OkI yX2_init cX2_init 1 0 := ⟨tb_in (List.mem_of_getElem? (i := 73) rfl) (by decide +kernel), tb_in (List.mem_of_getElem? (i := 28) (by decide +kernel)) (by decide +kernel), ⟨by decide +kernel, by decide +kernel⟩, by decide +kernel, tb_in (List.mem_of_getElem? (i := 72) (by decide +kernel)) (by decide +kernel), rfl⟩
set_option maxHeartbeats 4000000 in
set_option maxRecDepth 100000 in
theorem m_X2_init (l : Launch) (D : va_G) (ty : Nat → ClassId) (h0 : Nat) (sz : Nat) : Met l yX2_init (wsy yX2_init cX2_init 1 none) rm_X2_init (Pcw D ty FxI [(h0, .inr (2, [.null, .null, .null, .int 0, .int 0, .int 0, .int 0, .int 0, .int 0]))] sz [.ref h0]) (Qcn D ty (wI_X2 ty) h0 (va_A [(h0, .inr (2, [.null, .null, .null, .int 0, .int 0, .int 0, .int 0, .int 0, .int 0]))] sz)) 3 15 (va_A [(h0, .inr (2, [.null, .null, .null, .int 0, .int 0, .int 0, .int 0, .int 0, .int 0]))] sz) := by
  refine en_w (Qc := fun A => Qcn D ty (wI_X2 ty) h0 A) (by decide) (Nat.le_of_ble_eq_true rfl) ?_
  intro p e s m args below meth c A X hlk hr hin0 H locs hI ls hl
  have X : CallFix p m c cX2_init 1 s args tb RX2 := X
  have hin : meth.name = "<init>" := hin0 rfl
  have hl : lv_has ls 1 [(0, .ref h0)] := hl
  refine lv_aload_n X.1 X.2.1 dX2_init_0 rfl (lv_at hl 0 rfl) ?_
  refine ob_i X ol_X2 ol_i ol_c hl.1 dX2_init_1 ⟨Nat.le_of_ble_eq_true rfl, Nat.le_of_ble_eq_true rfl⟩ ?_
  refine lv_aload_n X.1 X.2.1 dX2_init_4 rfl (lv_at hl 0 rfl) ?_
  refine lv_iconst (v := 5) X.1 X.2.1 dX2_init_5 (by decide) ?_
  refine nw_a (a0 := (5, .inl (fun _ => 0))) (N := 5) X hI ar_int rfl 0 rfl (fun _ h => h) (fun _ => rfl) (by decide) (by decide) (by decide) (Nat.le_of_ble_eq_true rfl) (Nat.le_of_ble_eq_true rfl) dX2_init_6 (fun g1 H hI => ?_)
  replace hI : Inw D ty FxI [(h0, .inr (2, [.null, .null, .null, .int 0, .int 0, .int 0, .int 0, .int 0, .int 0])), (g1, .inl (ty 0, 5, .inl (fun _ => 0)))] A s H locs := hI
  refine pf_f (v := .ref g1) (w1 := [(h0, .inr (2, [.ref g1, .null, .null, .int 0, .int 0, .int 0, .int 0, .int 0, .int 0])), (g1, .inl (ty 0, 5, .inl (fun _ => 0)))]) X hI hin 0 rfl rfl utX2 tyX2 tyX2_ok nmX2 0 (by decide) lk_X2_residentBytes rfl rfl rfl rfl rfl (Nat.le_of_ble_eq_true rfl) rfl dX2_init_8 (fun H locs hI => ?_)
  refine lv_aload_n X.1 X.2.1 dX2_init_11 rfl (lv_at hl 0 rfl) ?_
  refine lv_iconst (v := 5) X.1 X.2.1 dX2_init_12 (by decide) ?_
  refine nw_a (a0 := (5, .inl (fun _ => 0))) (N := 5) X hI ar_int rfl 0 rfl (fun _ h => h) (fun _ => rfl) (by decide) (by decide) (by decide) (Nat.le_of_ble_eq_true rfl) (Nat.le_of_ble_eq_true rfl) dX2_init_13 (fun g2 H hI => ?_)
  replace hI : Inw D ty FxI [(h0, .inr (2, [.ref g1, .null, .null, .int 0, .int 0, .int 0, .int 0, .int 0, .int 0])), (g1, .inl (ty 0, 5, .inl (fun _ => 0))), (g2, .inl (ty 0, 5, .inl (fun _ => 0)))] A s H locs := hI
  refine pf_f (v := .ref g2) (w1 := [(h0, .inr (2, [.ref g1, .ref g2, .null, .int 0, .int 0, .int 0, .int 0, .int 0, .int 0])), (g1, .inl (ty 0, 5, .inl (fun _ => 0))), (g2, .inl (ty 0, 5, .inl (fun _ => 0)))]) X hI hin 0 rfl rfl utX2 tyX2 tyX2_ok nmX2 1 (by decide) lk_X2_frameCounts rfl rfl rfl rfl rfl (Nat.le_of_ble_eq_true rfl) rfl dX2_init_15 (fun H locs hI => ?_)
  refine lv_aload_n X.1 X.2.1 dX2_init_18 rfl (lv_at hl 0 rfl) ?_
  refine lv_iconst (v := 5) X.1 X.2.1 dX2_init_19 (by decide) ?_
  refine nw_a (a0 := (5, .inl (fun _ => 0))) (N := 5) X hI ar_int rfl 0 rfl (fun _ h => h) (fun _ => rfl) (by decide) (by decide) (by decide) (Nat.le_of_ble_eq_true rfl) (Nat.le_of_ble_eq_true rfl) dX2_init_20 (fun g3 H hI => ?_)
  replace hI : Inw D ty FxI [(h0, .inr (2, [.ref g1, .ref g2, .null, .int 0, .int 0, .int 0, .int 0, .int 0, .int 0])), (g1, .inl (ty 0, 5, .inl (fun _ => 0))), (g2, .inl (ty 0, 5, .inl (fun _ => 0))), (g3, .inl (ty 0, 5, .inl (fun _ => 0)))] A s H locs := hI
  refine pf_f (v := .ref g3) (w1 := [(h0, .inr (2, [.ref g1, .ref g2, .ref g3, .int 0, .int 0, .int 0, .int 0, .int 0, .int 0])), (g1, .inl (ty 0, 5, .inl (fun _ => 0))), (g2, .inl (ty 0, 5, .inl (fun _ => 0))), (g3, .inl (ty 0, 5, .inl (fun _ => 0)))]) X hI hin 0 rfl rfl utX2 tyX2 tyX2_ok nmX2 2 (by decide) lk_X2_latestCalls rfl rfl rfl rfl rfl (Nat.le_of_ble_eq_true rfl) rfl dX2_init_22 (fun H locs hI => ?_)
  exact rv_c (wq := wI_X2 ty) X hlk hr (adr [h0, g1, g2, g3]) rfl hI [0, 1, 2, 3] rfl rfl rfl dX2_init_25
theorem ol_X1 : Cond.methodLink RX1 3 objectInit ∈ tb := tb_in (List.mem_of_getElem? (i := 108) (by decide +kernel)) (by decide +kernel)
def wI_X1 (ty : Nat → ClassId) (u : Nat → Nat) : va_W := [(u 0, .inr (1, [.ref (u 1), .ref (u 2), .ref (u 3), .ref (u 4), .ref (u 5), .int 0, .int 0])), (u 1, .inl (ty 0, 500, .inl (fun _ => 0))), (u 2, .inl (ty 0, 500, .inl (fun _ => 0))), (u 3, .inl (ty 0, 500, .inl (fun _ => 0))), (u 4, .inl (ty 0, 500, .inl (fun _ => 0))), (u 5, .inl (ty 0, 1000, .inl (fun _ => 0)))]
abbrev rm_X1_init : Room := { frames := 1, cells := 5, slots := 3000, locals := 30 }
set_option maxRecDepth 100000 in
theorem oi_X1 : OkI yX1_init cX1_init 1 0 := ⟨tb_in (List.mem_of_getElem? (i := 107) rfl) (by decide +kernel), tb_in (List.mem_of_getElem? (i := 29) (by decide +kernel)) (by decide +kernel), ⟨by decide +kernel, by decide +kernel⟩, by decide +kernel, tb_in (List.mem_of_getElem? (i := 106) (by decide +kernel)) (by decide +kernel), rfl⟩
set_option maxHeartbeats 4000000 in
set_option maxRecDepth 100000 in
theorem m_X1_init (l : Launch) (D : va_G) (ty : Nat → ClassId) (h0 : Nat) (sz : Nat) : Met l yX1_init (wsy yX1_init cX1_init 1 none) rm_X1_init (Pcw D ty FxI [(h0, .inr (1, [.null, .null, .null, .null, .null, .int 0, .int 0]))] sz [.ref h0]) (Qcn D ty (wI_X1 ty) h0 (va_A [(h0, .inr (1, [.null, .null, .null, .null, .null, .int 0, .int 0]))] sz)) 5 3000 (va_A [(h0, .inr (1, [.null, .null, .null, .null, .null, .int 0, .int 0]))] sz) := by
  refine en_w (Qc := fun A => Qcn D ty (wI_X1 ty) h0 A) (by decide) (Nat.le_of_ble_eq_true rfl) ?_
  intro p e s m args below meth c A X hlk hr hin0 H locs hI ls hl
  have X : CallFix p m c cX1_init 1 s args tb RX1 := X
  have hin : meth.name = "<init>" := hin0 rfl
  have hl : lv_has ls 1 [(0, .ref h0)] := hl
  refine lv_aload_n X.1 X.2.1 dX1_init_0 rfl (lv_at hl 0 rfl) ?_
  refine ob_i X ol_X1 ol_i ol_c hl.1 dX1_init_1 ⟨Nat.le_of_ble_eq_true rfl, Nat.le_of_ble_eq_true rfl⟩ ?_
  refine lv_aload_n X.1 X.2.1 dX1_init_4 rfl (lv_at hl 0 rfl) ?_
  refine lv_sipush (v := 500) X.1 X.2.1 dX1_init_5 (by decide) ?_
  refine nw_a (a0 := (500, .inl (fun _ => 0))) (N := 500) X hI ar_int rfl 0 rfl (fun _ h => h) (fun _ => rfl) (by decide) (by decide) (by decide) (Nat.le_of_ble_eq_true rfl) (Nat.le_of_ble_eq_true rfl) dX1_init_8 (fun g1 H hI => ?_)
  replace hI : Inw D ty FxI [(h0, .inr (1, [.null, .null, .null, .null, .null, .int 0, .int 0])), (g1, .inl (ty 0, 500, .inl (fun _ => 0)))] A s H locs := hI
  refine pf_f (v := .ref g1) (w1 := [(h0, .inr (1, [.ref g1, .null, .null, .null, .null, .int 0, .int 0])), (g1, .inl (ty 0, 500, .inl (fun _ => 0)))]) X hI hin 0 rfl rfl utX1 tyX1 tyX1_ok nmX1 0 (by decide) lk_X1_segments rfl rfl rfl rfl rfl (Nat.le_of_ble_eq_true rfl) rfl dX1_init_10 (fun H locs hI => ?_)
  refine lv_aload_n X.1 X.2.1 dX1_init_13 rfl (lv_at hl 0 rfl) ?_
  refine lv_sipush (v := 500) X.1 X.2.1 dX1_init_14 (by decide) ?_
  refine nw_a (a0 := (500, .inl (fun _ => 0))) (N := 500) X hI ar_int rfl 0 rfl (fun _ h => h) (fun _ => rfl) (by decide) (by decide) (by decide) (Nat.le_of_ble_eq_true rfl) (Nat.le_of_ble_eq_true rfl) dX1_init_17 (fun g2 H hI => ?_)
  replace hI : Inw D ty FxI [(h0, .inr (1, [.ref g1, .null, .null, .null, .null, .int 0, .int 0])), (g1, .inl (ty 0, 500, .inl (fun _ => 0))), (g2, .inl (ty 0, 500, .inl (fun _ => 0)))] A s H locs := hI
  refine pf_f (v := .ref g2) (w1 := [(h0, .inr (1, [.ref g1, .ref g2, .null, .null, .null, .int 0, .int 0])), (g1, .inl (ty 0, 500, .inl (fun _ => 0))), (g2, .inl (ty 0, 500, .inl (fun _ => 0)))]) X hI hin 0 rfl rfl utX1 tyX1 tyX1_ok nmX1 1 (by decide) lk_X1_places rfl rfl rfl rfl rfl (Nat.le_of_ble_eq_true rfl) rfl dX1_init_19 (fun H locs hI => ?_)
  refine lv_aload_n X.1 X.2.1 dX1_init_22 rfl (lv_at hl 0 rfl) ?_
  refine lv_sipush (v := 500) X.1 X.2.1 dX1_init_23 (by decide) ?_
  refine nw_a (a0 := (500, .inl (fun _ => 0))) (N := 500) X hI ar_int rfl 0 rfl (fun _ h => h) (fun _ => rfl) (by decide) (by decide) (by decide) (Nat.le_of_ble_eq_true rfl) (Nat.le_of_ble_eq_true rfl) dX1_init_26 (fun g3 H hI => ?_)
  replace hI : Inw D ty FxI [(h0, .inr (1, [.ref g1, .ref g2, .null, .null, .null, .int 0, .int 0])), (g1, .inl (ty 0, 500, .inl (fun _ => 0))), (g2, .inl (ty 0, 500, .inl (fun _ => 0))), (g3, .inl (ty 0, 500, .inl (fun _ => 0)))] A s H locs := hI
  refine pf_f (v := .ref g3) (w1 := [(h0, .inr (1, [.ref g1, .ref g2, .ref g3, .null, .null, .int 0, .int 0])), (g1, .inl (ty 0, 500, .inl (fun _ => 0))), (g2, .inl (ty 0, 500, .inl (fun _ => 0))), (g3, .inl (ty 0, 500, .inl (fun _ => 0)))]) X hI hin 0 rfl rfl utX1 tyX1 tyX1_ok nmX1 2 (by decide) lk_X1_localCounts rfl rfl rfl rfl rfl (Nat.le_of_ble_eq_true rfl) rfl dX1_init_28 (fun H locs hI => ?_)
  refine lv_aload_n X.1 X.2.1 dX1_init_31 rfl (lv_at hl 0 rfl) ?_
  refine lv_sipush (v := 500) X.1 X.2.1 dX1_init_32 (by decide) ?_
  refine nw_a (a0 := (500, .inl (fun _ => 0))) (N := 500) X hI ar_int rfl 0 rfl (fun _ h => h) (fun _ => rfl) (by decide) (by decide) (by decide) (Nat.le_of_ble_eq_true rfl) (Nat.le_of_ble_eq_true rfl) dX1_init_35 (fun g4 H hI => ?_)
  replace hI : Inw D ty FxI [(h0, .inr (1, [.ref g1, .ref g2, .ref g3, .null, .null, .int 0, .int 0])), (g1, .inl (ty 0, 500, .inl (fun _ => 0))), (g2, .inl (ty 0, 500, .inl (fun _ => 0))), (g3, .inl (ty 0, 500, .inl (fun _ => 0))), (g4, .inl (ty 0, 500, .inl (fun _ => 0)))] A s H locs := hI
  refine pf_f (v := .ref g4) (w1 := [(h0, .inr (1, [.ref g1, .ref g2, .ref g3, .ref g4, .null, .int 0, .int 0])), (g1, .inl (ty 0, 500, .inl (fun _ => 0))), (g2, .inl (ty 0, 500, .inl (fun _ => 0))), (g3, .inl (ty 0, 500, .inl (fun _ => 0))), (g4, .inl (ty 0, 500, .inl (fun _ => 0)))]) X hI hin 0 rfl rfl utX1 tyX1 tyX1_ok nmX1 3 (by decide) lk_X1_firstWords rfl rfl rfl rfl rfl (Nat.le_of_ble_eq_true rfl) rfl dX1_init_37 (fun H locs hI => ?_)
  refine lv_aload_n X.1 X.2.1 dX1_init_40 rfl (lv_at hl 0 rfl) ?_
  refine lv_sipush (v := 1000) X.1 X.2.1 dX1_init_41 (by decide) ?_
  refine nw_a (a0 := (1000, .inl (fun _ => 0))) (N := 1000) X hI ar_int rfl 0 rfl (fun _ h => h) (fun _ => rfl) (by decide) (by decide) (by decide) (Nat.le_of_ble_eq_true rfl) (Nat.le_of_ble_eq_true rfl) dX1_init_44 (fun g5 H hI => ?_)
  replace hI : Inw D ty FxI [(h0, .inr (1, [.ref g1, .ref g2, .ref g3, .ref g4, .null, .int 0, .int 0])), (g1, .inl (ty 0, 500, .inl (fun _ => 0))), (g2, .inl (ty 0, 500, .inl (fun _ => 0))), (g3, .inl (ty 0, 500, .inl (fun _ => 0))), (g4, .inl (ty 0, 500, .inl (fun _ => 0))), (g5, .inl (ty 0, 1000, .inl (fun _ => 0)))] A s H locs := hI
  refine pf_f (v := .ref g5) (w1 := [(h0, .inr (1, [.ref g1, .ref g2, .ref g3, .ref g4, .ref g5, .int 0, .int 0])), (g1, .inl (ty 0, 500, .inl (fun _ => 0))), (g2, .inl (ty 0, 500, .inl (fun _ => 0))), (g3, .inl (ty 0, 500, .inl (fun _ => 0))), (g4, .inl (ty 0, 500, .inl (fun _ => 0))), (g5, .inl (ty 0, 1000, .inl (fun _ => 0)))]) X hI hin 0 rfl rfl utX1 tyX1 tyX1_ok nmX1 4 (by decide) lk_X1_words rfl rfl rfl rfl rfl (Nat.le_of_ble_eq_true rfl) rfl dX1_init_46 (fun H locs hI => ?_)
  exact rv_c (wq := wI_X1 ty) X hlk hr (adr [h0, g1, g2, g3, g4, g5]) rfl hI [0, 1, 2, 3, 4, 5] rfl rfl rfl dX1_init_49
theorem ol_X0 : Cond.methodLink RX0 3 objectInit ∈ tb := tb_in (List.mem_of_getElem? (i := 51) (by decide +kernel)) (by decide +kernel)
def wI_X0 (ty : Nat → ClassId) (u : Nat → Nat) : va_W := [(u 0, .inr (0, [.ref (u 1), .ref (u 7)])), (u 1, .inl (ty 2, 5, .inr (.inr (.inr (.inr (fun i => if i < 5 then some (u (2 + i)) else none)))))), (u 2, .inl (ty 1, 80, .inl (fun _ => 0))), (u 3, .inl (ty 1, 80, .inl (fun _ => 0))), (u 4, .inl (ty 1, 80, .inl (fun _ => 0))), (u 5, .inl (ty 1, 80, .inl (fun _ => 0))), (u 6, .inl (ty 1, 80, .inl (fun _ => 0))), (u 7, .inl (ty 0, 5, .inl (fun _ => 0)))]
abbrev rm_X0_init : Room := { frames := 1, cells := 7, slots := 410, locals := 30 }
set_option maxRecDepth 100000 in
theorem oi_X0 : OkI yX0_init cX0_init 1 0 := ⟨tb_in (List.mem_of_getElem? (i := 50) rfl) (by decide +kernel), tb_in (List.mem_of_getElem? (i := 26) (by decide +kernel)) (by decide +kernel), ⟨by decide +kernel, by decide +kernel⟩, by decide +kernel, tb_in (List.mem_of_getElem? (i := 49) (by decide +kernel)) (by decide +kernel), rfl⟩
set_option maxHeartbeats 4000000 in
set_option maxRecDepth 100000 in
theorem m_X0_init (l : Launch) (D : va_G) (ty : Nat → ClassId) (h0 : Nat) (sz : Nat) : Met l yX0_init (wsy yX0_init cX0_init 1 none) rm_X0_init (Pcw D ty FxI [(h0, .inr (0, [.null, .null]))] sz [.ref h0]) (Qcn D ty (wI_X0 ty) h0 (va_A [(h0, .inr (0, [.null, .null]))] sz)) 7 410 (va_A [(h0, .inr (0, [.null, .null]))] sz) := by
  refine en_w (Qc := fun A => Qcn D ty (wI_X0 ty) h0 A) (by decide) (Nat.le_of_ble_eq_true rfl) ?_
  intro p e s m args below meth c A X hlk hr hin0 H locs hI ls hl
  have X : CallFix p m c cX0_init 1 s args tb RX0 := X
  have hin : meth.name = "<init>" := hin0 rfl
  have hl : lv_has ls 1 [(0, .ref h0)] := hl
  refine lv_aload_n X.1 X.2.1 dX0_init_0 rfl (lv_at hl 0 rfl) ?_
  refine ob_i X ol_X0 ol_i ol_c hl.1 dX0_init_1 ⟨Nat.le_of_ble_eq_true rfl, Nat.le_of_ble_eq_true rfl⟩ ?_
  refine lv_aload_n X.1 X.2.1 dX0_init_4 rfl (lv_at hl 0 rfl) ?_
  refine lv_iconst (v := 5) X.1 X.2.1 dX0_init_5 (by decide) ?_
  refine lv_bipush (v := 80) X.1 X.2.1 dX0_init_6 (by decide) ?_
  refine mn_b X hI nl_X0_9 ar_byte hI.2.2.2.2.2.2.2.2 (Nat.le_of_ble_eq_true rfl) (Nat.le_of_ble_eq_true rfl) dX0_init_8 (fun g90 r H hI => ?_)
  replace hI : Inw D ty FxI [(h0, .inr (0, [.null, .null])), (g90, .inl (ty 2, 5, .inr (.inr (.inr (.inr (fun i => if i < 5 then some (r i) else none)))))), (r 0, .inl (ty 1, 80, .inl (fun _ => 0))), (r 1, .inl (ty 1, 80, .inl (fun _ => 0))), (r 2, .inl (ty 1, 80, .inl (fun _ => 0))), (r 3, .inl (ty 1, 80, .inl (fun _ => 0))), (r 4, .inl (ty 1, 80, .inl (fun _ => 0)))] A s H locs := hI
  refine pf_f (v := .ref g90) (w1 := [(h0, .inr (0, [.ref g90, .null])), (g90, .inl (ty 2, 5, .inr (.inr (.inr (.inr (fun i => if i < 5 then some (r i) else none)))))), (r 0, .inl (ty 1, 80, .inl (fun _ => 0))), (r 1, .inl (ty 1, 80, .inl (fun _ => 0))), (r 2, .inl (ty 1, 80, .inl (fun _ => 0))), (r 3, .inl (ty 1, 80, .inl (fun _ => 0))), (r 4, .inl (ty 1, 80, .inl (fun _ => 0)))]) X hI hin 0 rfl rfl utX0 tyX0 tyX0_ok nmX0 0 (by decide) lk_X0_bytes rfl rfl rfl rfl rfl (Nat.le_of_ble_eq_true rfl) rfl dX0_init_12 (fun H locs hI => ?_)
  refine lv_aload_n X.1 X.2.1 dX0_init_15 rfl (lv_at hl 0 rfl) ?_
  refine lv_iconst (v := 5) X.1 X.2.1 dX0_init_16 (by decide) ?_
  refine nw_a (a0 := (5, .inl (fun _ => 0))) (N := 5) X hI ar_int rfl 0 rfl (fun _ h => h) (fun _ => rfl) (by decide) (by decide) (by decide) (Nat.le_of_ble_eq_true rfl) (Nat.le_of_ble_eq_true rfl) dX0_init_17 (fun g1 H hI => ?_)
  replace hI : Inw D ty FxI [(h0, .inr (0, [.ref g90, .null])), (g90, .inl (ty 2, 5, .inr (.inr (.inr (.inr (fun i => if i < 5 then some (r i) else none)))))), (r 0, .inl (ty 1, 80, .inl (fun _ => 0))), (r 1, .inl (ty 1, 80, .inl (fun _ => 0))), (r 2, .inl (ty 1, 80, .inl (fun _ => 0))), (r 3, .inl (ty 1, 80, .inl (fun _ => 0))), (r 4, .inl (ty 1, 80, .inl (fun _ => 0))), (g1, .inl (ty 0, 5, .inl (fun _ => 0)))] A s H locs := hI
  refine pf_f (v := .ref g1) (w1 := [(h0, .inr (0, [.ref g90, .ref g1])), (g90, .inl (ty 2, 5, .inr (.inr (.inr (.inr (fun i => if i < 5 then some (r i) else none)))))), (r 0, .inl (ty 1, 80, .inl (fun _ => 0))), (r 1, .inl (ty 1, 80, .inl (fun _ => 0))), (r 2, .inl (ty 1, 80, .inl (fun _ => 0))), (r 3, .inl (ty 1, 80, .inl (fun _ => 0))), (r 4, .inl (ty 1, 80, .inl (fun _ => 0))), (g1, .inl (ty 0, 5, .inl (fun _ => 0)))]) X hI hin 0 rfl rfl utX0 tyX0 tyX0_ok nmX0 1 (by decide) lk_X0_lengths rfl rfl rfl rfl rfl (Nat.le_of_ble_eq_true rfl) rfl dX0_init_19 (fun H locs hI => ?_)
  have hrow : (fun i => if i < 5 then some (r i) else none) = (fun i => if i < 5 then some (adr [h0, g90, r 0, r 1, r 2, r 3, r 4, g1] (2 + i)) else none) := rowfn (fun i hi => by
    match i, hi with
    | 0, _ => rfl
    | 1, _ => rfl
    | 2, _ => rfl
    | 3, _ => rfl
    | 4, _ => rfl)
  rw [hrow] at hI
  exact rv_c (wq := wI_X0 ty) X hlk hr (adr [h0, g90, r 0, r 1, r 2, r 3, r 4, g1]) rfl hI [0, 1, 2, 3, 4, 5, 6, 7] rfl rfl rfl dX0_init_22
theorem ol_X3 : Cond.methodLink RX3 3 objectInit ∈ tb := tb_in (List.mem_of_getElem? (i := 68) (by decide +kernel)) (by decide +kernel)
theorem nc_X3_9 : Cond.classLink RX3 9 RX2 ∈ tb := tb_in (List.mem_of_getElem? (i := 69) (by decide +kernel)) (by decide +kernel)
theorem nc_X3_18 : Cond.classLink RX3 18 RX1 ∈ tb := tb_in (List.mem_of_getElem? (i := 103) (by decide +kernel)) (by decide +kernel)
def wI_X3 (ty : Nat → ClassId) (hd : Nat) (u : Nat → Nat) : va_W := [(u 0, .inr (3, [.ref hd, .ref (u 1), .ref (u 5), .ref (u 11), .int 0, .int 0, .int 0])), (u 1, .inr (2, [.ref (u 2), .ref (u 3), .ref (u 4), .int 0, .int 0, .int 0, .int 0, .int 0, .int 0])), (u 2, .inl (ty 0, 5, .inl (fun _ => 0))), (u 3, .inl (ty 0, 5, .inl (fun _ => 0))), (u 4, .inl (ty 0, 5, .inl (fun _ => 0))), (u 5, .inr (1, [.ref (u 6), .ref (u 7), .ref (u 8), .ref (u 9), .ref (u 10), .int 0, .int 0])), (u 6, .inl (ty 0, 500, .inl (fun _ => 0))), (u 7, .inl (ty 0, 500, .inl (fun _ => 0))), (u 8, .inl (ty 0, 500, .inl (fun _ => 0))), (u 9, .inl (ty 0, 500, .inl (fun _ => 0))), (u 10, .inl (ty 0, 1000, .inl (fun _ => 0))), (u 11, .inl (ty 0, 40, .inl (fun _ => 0)))]
abbrev rm_X3_init : Room := { frames := 2, cells := 11, slots := 3071, locals := 50 }
set_option maxRecDepth 100000 in
theorem oi_X3 : OkI yX3_init cX3_init 2 1 := ⟨tb_in (List.mem_of_getElem? (i := 67) rfl) (by decide +kernel), tb_in (List.mem_of_getElem? (i := 27) (by decide +kernel)) (by decide +kernel), ⟨by decide +kernel, by decide +kernel⟩, by decide +kernel, tb_in (List.mem_of_getElem? (i := 66) (by decide +kernel)) (by decide +kernel), rfl⟩
set_option maxHeartbeats 4000000 in
set_option maxRecDepth 100000 in
theorem m_X3_init (l : Launch) (D : va_G) (ty : Nat → ClassId) (h0 : Nat) (hd : Nat) (sz : Nat) : Met l yX3_init (wsy yX3_init cX3_init 2 none) rm_X3_init (Pcw D ty FxI [(h0, .inr (3, [.null, .null, .null, .null, .int 0, .int 0, .int 0]))] sz [.ref h0, .ref hd]) (Qcn D ty (wI_X3 ty hd) h0 (va_A [(h0, .inr (3, [.null, .null, .null, .null, .int 0, .int 0, .int 0]))] sz)) 11 3071 (va_A [(h0, .inr (3, [.null, .null, .null, .null, .int 0, .int 0, .int 0]))] sz) := by
  refine en_w (Qc := fun A => Qcn D ty (wI_X3 ty hd) h0 A) (by decide) (Nat.le_of_ble_eq_true rfl) ?_
  intro p e s m args below meth c A X hlk hr hin0 H locs hI ls hl
  have X : CallFix p m c cX3_init 2 s args tb RX3 := X
  have hin : meth.name = "<init>" := hin0 rfl
  have hl : lv_has ls 2 [(0, .ref h0), (1, .ref hd)] := hl
  refine lv_aload_n X.1 X.2.1 dX3_init_0 rfl (lv_at hl 0 rfl) ?_
  refine ob_i X ol_X3 ol_i ol_c hl.1 dX3_init_1 ⟨Nat.le_of_ble_eq_true rfl, Nat.le_of_ble_eq_true rfl⟩ ?_
  refine lv_aload_n X.1 X.2.1 dX3_init_4 rfl (lv_at hl 0 rfl) ?_
  refine nw_o (ci := 2) (fs := [.null, .null, .null, .int 0, .int 0, .int 0, .int 0, .int 0, .int 0]) X hI nc_X3_9 in_X2 ini_X2 utX2 tyX2 tyX2_ok rfl (fun j hj => by rcases (show j = 0 ∨ j = 1 ∨ j = 2 ∨ j = 3 ∨ j = 4 ∨ j = 5 ∨ j = 6 ∨ j = 7 ∨ j = 8 by omega) with rfl | rfl | rfl | rfl | rfl | rfl | rfl | rfl | rfl <;> rfl) (Nat.le_of_ble_eq_true rfl) (Nat.le_of_ble_eq_true rfl) dX3_init_5 (fun g1 H hI => ?_)
  replace hI : Inw D ty FxI (([(h0, .inr (3, [.null, .null, .null, .null, .int 0, .int 0, .int 0]))] ++ [(g1, .inr (2, [.null, .null, .null, .int 0, .int 0, .int 0, .int 0, .int 0, .int 0]))]) ++ []) A s H locs := hI
  refine lv_dup X.1 X.2.1 dX3_init_8 rfl ?_
  refine ci_n (a := [(h0, .inr (3, [.null, .null, .null, .null, .int 0, .int 0, .int 0]))]) (b0 := [(g1, .inr (2, [.null, .null, .null, .int 0, .int 0, .int 0, .int 0, .int 0, .int 0]))]) (c0 := []) (wq := wI_X2 ty) (host := RX4) (rest := [.ref g1, .ref h0]) X fxI (fun _ _ _ h => h) hI (m_X2_init l D ty g1 _) oi_X2 (Or.inl hI.2.2.2.2.2.2.1) ⟨rfl, rfl, Nat.le_of_ble_eq_true rfl, Nat.le_of_ble_eq_true rfl⟩ rfl hl.1 rfl (Nat.le_of_ble_eq_true rfl) ⟨Nat.le_of_ble_eq_true rfl, Nat.le_of_ble_eq_true rfl⟩ dX3_init_9 (fun u2 H locs hu hI => ?_)
  replace hI : Inw D ty FxI [(h0, .inr (3, [.null, .null, .null, .null, .int 0, .int 0, .int 0])), (g1, .inr (2, [.ref (u2 1), .ref (u2 2), .ref (u2 3), .int 0, .int 0, .int 0, .int 0, .int 0, .int 0])), ((u2 1), .inl (ty 0, 5, .inl (fun _ => 0))), ((u2 2), .inl (ty 0, 5, .inl (fun _ => 0))), ((u2 3), .inl (ty 0, 5, .inl (fun _ => 0)))] A s H locs := by
    rw [wI_X2, hu] at hI
    exact hI
  refine pf_f (v := .ref g1) (w1 := [(h0, .inr (3, [.null, .ref g1, .null, .null, .int 0, .int 0, .int 0])), (g1, .inr (2, [.ref (u2 1), .ref (u2 2), .ref (u2 3), .int 0, .int 0, .int 0, .int 0, .int 0, .int 0])), ((u2 1), .inl (ty 0, 5, .inl (fun _ => 0))), ((u2 2), .inl (ty 0, 5, .inl (fun _ => 0))), ((u2 3), .inl (ty 0, 5, .inl (fun _ => 0)))]) X hI hin 0 rfl rfl utX3 tyX3 tyX3_ok nmX3 1 (by decide) lk_X3_memory rfl rfl rfl rfl rfl (Nat.le_of_ble_eq_true rfl) rfl dX3_init_12 (fun H locs hI => ?_)
  refine lv_aload_n X.1 X.2.1 dX3_init_15 rfl (lv_at hl 0 rfl) ?_
  refine nw_o (ci := 1) (fs := [.null, .null, .null, .null, .null, .int 0, .int 0]) X hI nc_X3_18 in_X1 ini_X1 utX1 tyX1 tyX1_ok rfl (fun j hj => by rcases (show j = 0 ∨ j = 1 ∨ j = 2 ∨ j = 3 ∨ j = 4 ∨ j = 5 ∨ j = 6 by omega) with rfl | rfl | rfl | rfl | rfl | rfl | rfl <;> rfl) (Nat.le_of_ble_eq_true rfl) (Nat.le_of_ble_eq_true rfl) dX3_init_16 (fun g3 H hI => ?_)
  replace hI : Inw D ty FxI (([(h0, .inr (3, [.null, .ref g1, .null, .null, .int 0, .int 0, .int 0])), (g1, .inr (2, [.ref (u2 1), .ref (u2 2), .ref (u2 3), .int 0, .int 0, .int 0, .int 0, .int 0, .int 0])), ((u2 1), .inl (ty 0, 5, .inl (fun _ => 0))), ((u2 2), .inl (ty 0, 5, .inl (fun _ => 0))), ((u2 3), .inl (ty 0, 5, .inl (fun _ => 0)))] ++ [(g3, .inr (1, [.null, .null, .null, .null, .null, .int 0, .int 0]))]) ++ []) A s H locs := hI
  refine lv_dup X.1 X.2.1 dX3_init_19 rfl ?_
  refine ci_n (a := [(h0, .inr (3, [.null, .ref g1, .null, .null, .int 0, .int 0, .int 0])), (g1, .inr (2, [.ref (u2 1), .ref (u2 2), .ref (u2 3), .int 0, .int 0, .int 0, .int 0, .int 0, .int 0])), ((u2 1), .inl (ty 0, 5, .inl (fun _ => 0))), ((u2 2), .inl (ty 0, 5, .inl (fun _ => 0))), ((u2 3), .inl (ty 0, 5, .inl (fun _ => 0)))]) (b0 := [(g3, .inr (1, [.null, .null, .null, .null, .null, .int 0, .int 0]))]) (c0 := []) (wq := wI_X1 ty) (host := RX4) (rest := [.ref g3, .ref h0]) X fxI (fun _ _ _ h => h) hI (m_X1_init l D ty g3 _) oi_X1 (Or.inl hI.2.2.2.2.2.2.2.1) ⟨rfl, rfl, Nat.le_of_ble_eq_true rfl, Nat.le_of_ble_eq_true rfl⟩ rfl hl.1 rfl (Nat.le_of_ble_eq_true rfl) ⟨Nat.le_of_ble_eq_true rfl, Nat.le_of_ble_eq_true rfl⟩ dX3_init_20 (fun u4 H locs hu hI => ?_)
  replace hI : Inw D ty FxI [(h0, .inr (3, [.null, .ref g1, .null, .null, .int 0, .int 0, .int 0])), (g1, .inr (2, [.ref (u2 1), .ref (u2 2), .ref (u2 3), .int 0, .int 0, .int 0, .int 0, .int 0, .int 0])), ((u2 1), .inl (ty 0, 5, .inl (fun _ => 0))), ((u2 2), .inl (ty 0, 5, .inl (fun _ => 0))), ((u2 3), .inl (ty 0, 5, .inl (fun _ => 0))), (g3, .inr (1, [.ref (u4 1), .ref (u4 2), .ref (u4 3), .ref (u4 4), .ref (u4 5), .int 0, .int 0])), ((u4 1), .inl (ty 0, 500, .inl (fun _ => 0))), ((u4 2), .inl (ty 0, 500, .inl (fun _ => 0))), ((u4 3), .inl (ty 0, 500, .inl (fun _ => 0))), ((u4 4), .inl (ty 0, 500, .inl (fun _ => 0))), ((u4 5), .inl (ty 0, 1000, .inl (fun _ => 0)))] A s H locs := by
    rw [wI_X1, hu] at hI
    exact hI
  refine pf_f (v := .ref g3) (w1 := [(h0, .inr (3, [.null, .ref g1, .ref g3, .null, .int 0, .int 0, .int 0])), (g1, .inr (2, [.ref (u2 1), .ref (u2 2), .ref (u2 3), .int 0, .int 0, .int 0, .int 0, .int 0, .int 0])), ((u2 1), .inl (ty 0, 5, .inl (fun _ => 0))), ((u2 2), .inl (ty 0, 5, .inl (fun _ => 0))), ((u2 3), .inl (ty 0, 5, .inl (fun _ => 0))), (g3, .inr (1, [.ref (u4 1), .ref (u4 2), .ref (u4 3), .ref (u4 4), .ref (u4 5), .int 0, .int 0])), ((u4 1), .inl (ty 0, 500, .inl (fun _ => 0))), ((u4 2), .inl (ty 0, 500, .inl (fun _ => 0))), ((u4 3), .inl (ty 0, 500, .inl (fun _ => 0))), ((u4 4), .inl (ty 0, 500, .inl (fun _ => 0))), ((u4 5), .inl (ty 0, 1000, .inl (fun _ => 0)))]) X hI hin 0 rfl rfl utX3 tyX3 tyX3_ok nmX3 2 (by decide) lk_X3_frames rfl rfl rfl rfl rfl (Nat.le_of_ble_eq_true rfl) rfl dX3_init_23 (fun H locs hI => ?_)
  refine lv_aload_n X.1 X.2.1 dX3_init_26 rfl (lv_at hl 0 rfl) ?_
  refine lv_bipush (v := 40) X.1 X.2.1 dX3_init_27 (by decide) ?_
  refine nw_a (a0 := (40, .inl (fun _ => 0))) (N := 40) X hI ar_int rfl 0 rfl (fun _ h => h) (fun _ => rfl) (by decide) (by decide) (by decide) (Nat.le_of_ble_eq_true rfl) (Nat.le_of_ble_eq_true rfl) dX3_init_29 (fun g5 H hI => ?_)
  replace hI : Inw D ty FxI [(h0, .inr (3, [.null, .ref g1, .ref g3, .null, .int 0, .int 0, .int 0])), (g1, .inr (2, [.ref (u2 1), .ref (u2 2), .ref (u2 3), .int 0, .int 0, .int 0, .int 0, .int 0, .int 0])), ((u2 1), .inl (ty 0, 5, .inl (fun _ => 0))), ((u2 2), .inl (ty 0, 5, .inl (fun _ => 0))), ((u2 3), .inl (ty 0, 5, .inl (fun _ => 0))), (g3, .inr (1, [.ref (u4 1), .ref (u4 2), .ref (u4 3), .ref (u4 4), .ref (u4 5), .int 0, .int 0])), ((u4 1), .inl (ty 0, 500, .inl (fun _ => 0))), ((u4 2), .inl (ty 0, 500, .inl (fun _ => 0))), ((u4 3), .inl (ty 0, 500, .inl (fun _ => 0))), ((u4 4), .inl (ty 0, 500, .inl (fun _ => 0))), ((u4 5), .inl (ty 0, 1000, .inl (fun _ => 0))), (g5, .inl (ty 0, 40, .inl (fun _ => 0)))] A s H locs := hI
  refine pf_f (v := .ref g5) (w1 := [(h0, .inr (3, [.null, .ref g1, .ref g3, .ref g5, .int 0, .int 0, .int 0])), (g1, .inr (2, [.ref (u2 1), .ref (u2 2), .ref (u2 3), .int 0, .int 0, .int 0, .int 0, .int 0, .int 0])), ((u2 1), .inl (ty 0, 5, .inl (fun _ => 0))), ((u2 2), .inl (ty 0, 5, .inl (fun _ => 0))), ((u2 3), .inl (ty 0, 5, .inl (fun _ => 0))), (g3, .inr (1, [.ref (u4 1), .ref (u4 2), .ref (u4 3), .ref (u4 4), .ref (u4 5), .int 0, .int 0])), ((u4 1), .inl (ty 0, 500, .inl (fun _ => 0))), ((u4 2), .inl (ty 0, 500, .inl (fun _ => 0))), ((u4 3), .inl (ty 0, 500, .inl (fun _ => 0))), ((u4 4), .inl (ty 0, 500, .inl (fun _ => 0))), ((u4 5), .inl (ty 0, 1000, .inl (fun _ => 0))), (g5, .inl (ty 0, 40, .inl (fun _ => 0)))]) X hI hin 0 rfl rfl utX3 tyX3 tyX3_ok nmX3 3 (by decide) lk_X3_outs rfl rfl rfl rfl rfl (Nat.le_of_ble_eq_true rfl) rfl dX3_init_31 (fun H locs hI => ?_)
  refine lv_aload_n X.1 X.2.1 dX3_init_34 rfl (lv_at hl 0 rfl) ?_
  refine lv_aload_n X.1 X.2.1 dX3_init_35 rfl (lv_at hl 1 rfl) ?_
  refine pf_f (v := .ref hd) (w1 := [(h0, .inr (3, [.ref hd, .ref g1, .ref g3, .ref g5, .int 0, .int 0, .int 0])), (g1, .inr (2, [.ref (u2 1), .ref (u2 2), .ref (u2 3), .int 0, .int 0, .int 0, .int 0, .int 0, .int 0])), ((u2 1), .inl (ty 0, 5, .inl (fun _ => 0))), ((u2 2), .inl (ty 0, 5, .inl (fun _ => 0))), ((u2 3), .inl (ty 0, 5, .inl (fun _ => 0))), (g3, .inr (1, [.ref (u4 1), .ref (u4 2), .ref (u4 3), .ref (u4 4), .ref (u4 5), .int 0, .int 0])), ((u4 1), .inl (ty 0, 500, .inl (fun _ => 0))), ((u4 2), .inl (ty 0, 500, .inl (fun _ => 0))), ((u4 3), .inl (ty 0, 500, .inl (fun _ => 0))), ((u4 4), .inl (ty 0, 500, .inl (fun _ => 0))), ((u4 5), .inl (ty 0, 1000, .inl (fun _ => 0))), (g5, .inl (ty 0, 40, .inl (fun _ => 0)))]) X hI hin 0 rfl rfl utX3 tyX3 tyX3_ok nmX3 0 (by decide) lk_X3_disk rfl rfl rfl rfl rfl (Nat.le_of_ble_eq_true rfl) rfl dX3_init_36 (fun H locs hI => ?_)
  exact rv_c (wq := wI_X3 ty hd) X hlk hr (adr [h0, g1, (u2 1), (u2 2), (u2 3), g3, (u4 1), (u4 2), (u4 3), (u4 4), (u4 5), g5]) rfl hI [0, 1, 2, 3, 4, 5, 6, 7, 8, 9, 10, 11] rfl rfl rfl dX3_init_39
theorem ol_X4 : Cond.methodLink RX4 1 objectInit ∈ tb := tb_in (List.mem_of_getElem? (i := 43) (by decide +kernel)) (by decide +kernel)
theorem nc_X4_7 : Cond.classLink RX4 7 RX0 ∈ tb := tb_in (List.mem_of_getElem? (i := 46) (by decide +kernel)) (by decide +kernel)
theorem nc_X4_16 : Cond.classLink RX4 16 RX3 ∈ tb := tb_in (List.mem_of_getElem? (i := 63) (by decide +kernel)) (by decide +kernel)
theorem ml_X4_18 : Cond.methodLink RX4 18 yX3_init ∈ tb := tb_in (List.mem_of_getElem? (i := 65) (by decide +kernel)) (by decide +kernel)
def wI_X4 (ty : Nat → ClassId) (u : Nat → Nat) : va_W := [(u 0, .inr (4, [.ref (u 1), .ref (u 9)])), (u 1, .inr (0, [.ref (u 2), .ref (u 8)])), (u 2, .inl (ty 2, 5, .inr (.inr (.inr (.inr (fun i => if i < 5 then some (u (3 + i)) else none)))))), (u 3, .inl (ty 1, 80, .inl (fun _ => 0))), (u 4, .inl (ty 1, 80, .inl (fun _ => 0))), (u 5, .inl (ty 1, 80, .inl (fun _ => 0))), (u 6, .inl (ty 1, 80, .inl (fun _ => 0))), (u 7, .inl (ty 1, 80, .inl (fun _ => 0))), (u 8, .inl (ty 0, 5, .inl (fun _ => 0))), (u 9, .inr (3, [.ref (u 1), .ref (u 10), .ref (u 14), .ref (u 20), .int 0, .int 0, .int 0])), (u 10, .inr (2, [.ref (u 11), .ref (u 12), .ref (u 13), .int 0, .int 0, .int 0, .int 0, .int 0, .int 0])), (u 11, .inl (ty 0, 5, .inl (fun _ => 0))), (u 12, .inl (ty 0, 5, .inl (fun _ => 0))), (u 13, .inl (ty 0, 5, .inl (fun _ => 0))), (u 14, .inr (1, [.ref (u 15), .ref (u 16), .ref (u 17), .ref (u 18), .ref (u 19), .int 0, .int 0])), (u 15, .inl (ty 0, 500, .inl (fun _ => 0))), (u 16, .inl (ty 0, 500, .inl (fun _ => 0))), (u 17, .inl (ty 0, 500, .inl (fun _ => 0))), (u 18, .inl (ty 0, 500, .inl (fun _ => 0))), (u 19, .inl (ty 0, 1000, .inl (fun _ => 0))), (u 20, .inl (ty 0, 40, .inl (fun _ => 0)))]
abbrev rm_X4_init : Room := { frames := 3, cells := 20, slots := 3490, locals := 71 }
set_option maxRecDepth 100000 in
theorem oi_X4 : OkI yX4_init cX4_init 1 0 := ⟨tb_in (List.mem_of_getElem? (i := 42) rfl) (by decide +kernel), tb_in (List.mem_of_getElem? (i := 25) (by decide +kernel)) (by decide +kernel), ⟨by decide +kernel, by decide +kernel⟩, by decide +kernel, tb_in (List.mem_of_getElem? (i := 41) (by decide +kernel)) (by decide +kernel), rfl⟩
set_option maxHeartbeats 4000000 in
set_option maxRecDepth 100000 in
theorem m_X4_init (l : Launch) (D : va_G) (ty : Nat → ClassId) (h0 : Nat) (sz : Nat) : Met l yX4_init (wsy yX4_init cX4_init 1 none) rm_X4_init (Pcw D ty FxI [(h0, .inr (4, [.null, .null]))] sz [.ref h0]) (Qcn D ty (wI_X4 ty) h0 (va_A [(h0, .inr (4, [.null, .null]))] sz)) 20 3490 (va_A [(h0, .inr (4, [.null, .null]))] sz) := by
  refine en_w (Qc := fun A => Qcn D ty (wI_X4 ty) h0 A) (by decide) (Nat.le_of_ble_eq_true rfl) ?_
  intro p e s m args below meth c A X hlk hr hin0 H locs hI ls hl
  have X : CallFix p m c cX4_init 1 s args tb RX4 := X
  have hin : meth.name = "<init>" := hin0 rfl
  have hl : lv_has ls 1 [(0, .ref h0)] := hl
  refine lv_aload_n X.1 X.2.1 dX4_init_0 rfl (lv_at hl 0 rfl) ?_
  refine ob_i X ol_X4 ol_i ol_c hl.1 dX4_init_1 ⟨Nat.le_of_ble_eq_true rfl, Nat.le_of_ble_eq_true rfl⟩ ?_
  refine lv_aload_n X.1 X.2.1 dX4_init_4 rfl (lv_at hl 0 rfl) ?_
  refine nw_o (ci := 0) (fs := [.null, .null]) X hI nc_X4_7 in_X0 ini_X0 utX0 tyX0 tyX0_ok rfl (fun j hj => by rcases (show j = 0 ∨ j = 1 by omega) with rfl | rfl <;> rfl) (Nat.le_of_ble_eq_true rfl) (Nat.le_of_ble_eq_true rfl) dX4_init_5 (fun g1 H hI => ?_)
  replace hI : Inw D ty FxI (([(h0, .inr (4, [.null, .null]))] ++ [(g1, .inr (0, [.null, .null]))]) ++ []) A s H locs := hI
  refine lv_dup X.1 X.2.1 dX4_init_8 rfl ?_
  refine ci_n (a := [(h0, .inr (4, [.null, .null]))]) (b0 := [(g1, .inr (0, [.null, .null]))]) (c0 := []) (wq := wI_X0 ty) (host := RX4) (rest := [.ref g1, .ref h0]) X fxI (fun _ _ _ h => h) hI (m_X0_init l D ty g1 _) oi_X0 (Or.inl hI.2.2.2.2.2.1) ⟨rfl, rfl, Nat.le_of_ble_eq_true rfl, Nat.le_of_ble_eq_true rfl⟩ rfl hl.1 rfl (Nat.le_of_ble_eq_true rfl) ⟨Nat.le_of_ble_eq_true rfl, Nat.le_of_ble_eq_true rfl⟩ dX4_init_9 (fun u2 H locs hu hI => ?_)
  replace hI : Inw D ty FxI [(h0, .inr (4, [.null, .null])), (g1, .inr (0, [.ref (u2 1), .ref (u2 7)])), ((u2 1), .inl (ty 2, 5, .inr (.inr (.inr (.inr (fun i => if i < 5 then some (u2 (2 + i)) else none)))))), ((u2 2), .inl (ty 1, 80, .inl (fun _ => 0))), ((u2 3), .inl (ty 1, 80, .inl (fun _ => 0))), ((u2 4), .inl (ty 1, 80, .inl (fun _ => 0))), ((u2 5), .inl (ty 1, 80, .inl (fun _ => 0))), ((u2 6), .inl (ty 1, 80, .inl (fun _ => 0))), ((u2 7), .inl (ty 0, 5, .inl (fun _ => 0)))] A s H locs := by
    rw [wI_X0, hu] at hI
    exact hI
  refine pf_f (v := .ref g1) (w1 := [(h0, .inr (4, [.ref g1, .null])), (g1, .inr (0, [.ref (u2 1), .ref (u2 7)])), ((u2 1), .inl (ty 2, 5, .inr (.inr (.inr (.inr (fun i => if i < 5 then some (u2 (2 + i)) else none)))))), ((u2 2), .inl (ty 1, 80, .inl (fun _ => 0))), ((u2 3), .inl (ty 1, 80, .inl (fun _ => 0))), ((u2 4), .inl (ty 1, 80, .inl (fun _ => 0))), ((u2 5), .inl (ty 1, 80, .inl (fun _ => 0))), ((u2 6), .inl (ty 1, 80, .inl (fun _ => 0))), ((u2 7), .inl (ty 0, 5, .inl (fun _ => 0)))]) X hI hin 0 rfl rfl utX4 tyX4 tyX4_ok nmX4 0 (by decide) lk_X4_disk rfl rfl rfl rfl rfl (Nat.le_of_ble_eq_true rfl) rfl dX4_init_12 (fun H locs hI => ?_)
  refine lv_aload_n X.1 X.2.1 dX4_init_15 rfl (lv_at hl 0 rfl) ?_
  refine nw_o (ci := 3) (fs := [.null, .null, .null, .null, .int 0, .int 0, .int 0]) X hI nc_X4_16 in_X3 ini_X3 utX3 tyX3 tyX3_ok rfl (fun j hj => by rcases (show j = 0 ∨ j = 1 ∨ j = 2 ∨ j = 3 ∨ j = 4 ∨ j = 5 ∨ j = 6 by omega) with rfl | rfl | rfl | rfl | rfl | rfl | rfl <;> rfl) (Nat.le_of_ble_eq_true rfl) (Nat.le_of_ble_eq_true rfl) dX4_init_16 (fun g3 H hI => ?_)
  replace hI : Inw D ty FxI (([(h0, .inr (4, [.ref g1, .null])), (g1, .inr (0, [.ref (u2 1), .ref (u2 7)])), ((u2 1), .inl (ty 2, 5, .inr (.inr (.inr (.inr (fun i => if i < 5 then some (u2 (2 + i)) else none)))))), ((u2 2), .inl (ty 1, 80, .inl (fun _ => 0))), ((u2 3), .inl (ty 1, 80, .inl (fun _ => 0))), ((u2 4), .inl (ty 1, 80, .inl (fun _ => 0))), ((u2 5), .inl (ty 1, 80, .inl (fun _ => 0))), ((u2 6), .inl (ty 1, 80, .inl (fun _ => 0))), ((u2 7), .inl (ty 0, 5, .inl (fun _ => 0)))] ++ [(g3, .inr (3, [.null, .null, .null, .null, .int 0, .int 0, .int 0]))]) ++ []) A s H locs := hI
  refine lv_dup X.1 X.2.1 dX4_init_19 rfl ?_
  refine lv_aload_n X.1 X.2.1 dX4_init_20 rfl (lv_at hl 0 rfl) ?_
  refine gt_f X hI 0 rfl rfl utX4 0 (by decide) lk_X4_disk rfl rfl dX4_init_21 ?_
  refine ci_n (a := [(h0, .inr (4, [.ref g1, .null])), (g1, .inr (0, [.ref (u2 1), .ref (u2 7)])), ((u2 1), .inl (ty 2, 5, .inr (.inr (.inr (.inr (fun i => if i < 5 then some (u2 (2 + i)) else none)))))), ((u2 2), .inl (ty 1, 80, .inl (fun _ => 0))), ((u2 3), .inl (ty 1, 80, .inl (fun _ => 0))), ((u2 4), .inl (ty 1, 80, .inl (fun _ => 0))), ((u2 5), .inl (ty 1, 80, .inl (fun _ => 0))), ((u2 6), .inl (ty 1, 80, .inl (fun _ => 0))), ((u2 7), .inl (ty 0, 5, .inl (fun _ => 0)))]) (b0 := [(g3, .inr (3, [.null, .null, .null, .null, .int 0, .int 0, .int 0]))]) (c0 := []) (wq := wI_X3 ty g1) (host := RX4) (rest := [.ref g3, .ref h0]) X fxI (fun _ _ _ h => h) hI (m_X3_init l D ty g3 g1 _) oi_X3 (Or.inr ml_X4_18) ⟨rfl, rfl, Nat.le_of_ble_eq_true rfl, Nat.le_of_ble_eq_true rfl⟩ rfl hl.1 rfl (Nat.le_of_ble_eq_true rfl) ⟨Nat.le_of_ble_eq_true rfl, Nat.le_of_ble_eq_true rfl⟩ dX4_init_24 (fun u4 H locs hu hI => ?_)
  replace hI : Inw D ty FxI [(h0, .inr (4, [.ref g1, .null])), (g1, .inr (0, [.ref (u2 1), .ref (u2 7)])), ((u2 1), .inl (ty 2, 5, .inr (.inr (.inr (.inr (fun i => if i < 5 then some (u2 (2 + i)) else none)))))), ((u2 2), .inl (ty 1, 80, .inl (fun _ => 0))), ((u2 3), .inl (ty 1, 80, .inl (fun _ => 0))), ((u2 4), .inl (ty 1, 80, .inl (fun _ => 0))), ((u2 5), .inl (ty 1, 80, .inl (fun _ => 0))), ((u2 6), .inl (ty 1, 80, .inl (fun _ => 0))), ((u2 7), .inl (ty 0, 5, .inl (fun _ => 0))), (g3, .inr (3, [.ref g1, .ref (u4 1), .ref (u4 5), .ref (u4 11), .int 0, .int 0, .int 0])), ((u4 1), .inr (2, [.ref (u4 2), .ref (u4 3), .ref (u4 4), .int 0, .int 0, .int 0, .int 0, .int 0, .int 0])), ((u4 2), .inl (ty 0, 5, .inl (fun _ => 0))), ((u4 3), .inl (ty 0, 5, .inl (fun _ => 0))), ((u4 4), .inl (ty 0, 5, .inl (fun _ => 0))), ((u4 5), .inr (1, [.ref (u4 6), .ref (u4 7), .ref (u4 8), .ref (u4 9), .ref (u4 10), .int 0, .int 0])), ((u4 6), .inl (ty 0, 500, .inl (fun _ => 0))), ((u4 7), .inl (ty 0, 500, .inl (fun _ => 0))), ((u4 8), .inl (ty 0, 500, .inl (fun _ => 0))), ((u4 9), .inl (ty 0, 500, .inl (fun _ => 0))), ((u4 10), .inl (ty 0, 1000, .inl (fun _ => 0))), ((u4 11), .inl (ty 0, 40, .inl (fun _ => 0)))] A s H locs := by
    rw [wI_X3, hu] at hI
    exact hI
  refine pf_f (v := .ref g3) (w1 := [(h0, .inr (4, [.ref g1, .ref g3])), (g1, .inr (0, [.ref (u2 1), .ref (u2 7)])), ((u2 1), .inl (ty 2, 5, .inr (.inr (.inr (.inr (fun i => if i < 5 then some (u2 (2 + i)) else none)))))), ((u2 2), .inl (ty 1, 80, .inl (fun _ => 0))), ((u2 3), .inl (ty 1, 80, .inl (fun _ => 0))), ((u2 4), .inl (ty 1, 80, .inl (fun _ => 0))), ((u2 5), .inl (ty 1, 80, .inl (fun _ => 0))), ((u2 6), .inl (ty 1, 80, .inl (fun _ => 0))), ((u2 7), .inl (ty 0, 5, .inl (fun _ => 0))), (g3, .inr (3, [.ref g1, .ref (u4 1), .ref (u4 5), .ref (u4 11), .int 0, .int 0, .int 0])), ((u4 1), .inr (2, [.ref (u4 2), .ref (u4 3), .ref (u4 4), .int 0, .int 0, .int 0, .int 0, .int 0, .int 0])), ((u4 2), .inl (ty 0, 5, .inl (fun _ => 0))), ((u4 3), .inl (ty 0, 5, .inl (fun _ => 0))), ((u4 4), .inl (ty 0, 5, .inl (fun _ => 0))), ((u4 5), .inr (1, [.ref (u4 6), .ref (u4 7), .ref (u4 8), .ref (u4 9), .ref (u4 10), .int 0, .int 0])), ((u4 6), .inl (ty 0, 500, .inl (fun _ => 0))), ((u4 7), .inl (ty 0, 500, .inl (fun _ => 0))), ((u4 8), .inl (ty 0, 500, .inl (fun _ => 0))), ((u4 9), .inl (ty 0, 500, .inl (fun _ => 0))), ((u4 10), .inl (ty 0, 1000, .inl (fun _ => 0))), ((u4 11), .inl (ty 0, 40, .inl (fun _ => 0)))]) X hI hin 0 rfl rfl utX4 tyX4 tyX4_ok nmX4 1 (by decide) lk_X4_run rfl rfl rfl rfl rfl (Nat.le_of_ble_eq_true rfl) rfl dX4_init_27 (fun H locs hI => ?_)
  have hrow : (fun i => if i < 5 then some (u2 (2 + i)) else none) = (fun i => if i < 5 then some (adr [h0, g1, (u2 1), (u2 2), (u2 3), (u2 4), (u2 5), (u2 6), (u2 7), g3, (u4 1), (u4 2), (u4 3), (u4 4), (u4 5), (u4 6), (u4 7), (u4 8), (u4 9), (u4 10), (u4 11)] (3 + i)) else none) := rowfn (fun i hi => by
    match i, hi with
    | 0, _ => rfl
    | 1, _ => rfl
    | 2, _ => rfl
    | 3, _ => rfl
    | 4, _ => rfl)
  rw [hrow] at hI
  exact rv_c (wq := wI_X4 ty) X hlk hr (adr [h0, g1, (u2 1), (u2 2), (u2 3), (u2 4), (u2 5), (u2 6), (u2 7), g3, (u4 1), (u4 2), (u4 3), (u4 4), (u4 5), (u4 6), (u4 7), (u4 8), (u4 9), (u4 10), (u4 11)]) rfl hI [0, 1, 2, 3, 4, 5, 6, 7, 8, 9, 10, 11, 12, 13, 14, 15, 16, 17, 18, 19, 20] rfl rfl rfl dX4_init_30
