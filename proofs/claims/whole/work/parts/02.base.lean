-- ===== 02.base: contracts over ONE world list that is never cut =====
/-- the world ws, the classes cl and the array classes tys in a state; all cells lie in A -/
def x_B (D : va_G) (cl : List vw_C) (tys : List (ClassId × FieldType)) (A : Nat → Prop) (ws : va_W) (t : State) : Prop := va_P D cl ws t.heap ∧ va_K D cl tys t ∧ va_D A ws
/-- a method's start: its arguments, the world, and all that comes new lies in A -/
def x_P (D : va_G) (cl : List vw_C) (tys : List (ClassId × FieldType)) (A : Nat → Prop) (av : List Value) (ws : va_W) : Array Value → State → Prop := va_Pc av (fun U => x_B D cl tys A ws U ∧ (∀ q, U.heap.size ≤ q → A q) ∧ xN U)
theorem x_blind {D : va_G} {cl : List vw_C} {tys : List (ClassId × FieldType)} {A : Nat → Prop} {av : List Value} {ws : va_W} : FrameBlind (x_P D cl tys A av ws) := by
  intro a U g mk q
  obtain ⟨q0, ⟨qP, qK, qD⟩, qA, qN⟩ := q
  exact ⟨q0, ⟨qP, va_K.moved (u := U) (U := U.calling g mk a) (Vm.Alike.refl U.vm) qK, qD⟩, qA, xN.same (u := U) (U := U.calling g mk a) rfl qN⟩
/-- contracts: int (boolean, char), void, reference answers -/
abbrev x_Mi (l : Launch) (y : MethodName) (w : List Cond) (rm : Room) (D : va_G) (cl : List vw_C) (tys : List (ClassId × FieldType)) (A : Nat → Prop) (av : List Value) (ws : va_W) (post : Int32 → va_W → Prop) : Prop := Met l y w rm (x_P D cl tys A av ws) (va_Qi post (x_B D cl tys A) A) rm.cells rm.slots A
abbrev x_Mv (l : Launch) (y : MethodName) (w : List Cond) (rm : Room) (D : va_G) (cl : List vw_C) (tys : List (ClassId × FieldType)) (A : Nat → Prop) (av : List Value) (ws : va_W) (post : va_W → Prop) : Prop := Met l y w rm (x_P D cl tys A av ws) (va_Qv post (x_B D cl tys A) A) rm.cells rm.slots A
abbrev x_Mr (l : Launch) (y : MethodName) (w : List Cond) (rm : Room) (D : va_G) (cl : List vw_C) (tys : List (ClassId × FieldType)) (A : Nat → Prop) (av : List Value) (ws : va_W) (post : Nat → va_W → Prop) : Prop := Met l y w rm (x_P D cl tys A av ws) (va_Qr (fun _ : va_W => True) (fun ws1 a t => post a ws1 ∧ x_B D cl tys A ws1 t) A) rm.cells rm.slots A
section XE
variable {l : Launch} {y : MethodName} {w : List Cond} {rm : Room} {D : va_G} {cl : List vw_C} {tys : List (ClassId × FieldType)} {A : Nat → Prop} {av : List Value} {ws : va_W} {cc : ByteArray} {maxL : Nat} {ret : Option FieldType}
/-- a method's entry -/
theorem x_enter {Qc : Array Value → State → Outcome → State → Prop} {mc ms : Nat} {free : Addr → Prop} (hy : plainName y.cls = true) (hw : w = Cond.code y cc maxL ret :: xT) (hn : (lg_sl av).length ≤ maxL)
    (k : ∀ (p : Program) (e : Env) (s : State) (m : MethodId) (args : Array Value) (below : List Frame) (meth : Method) (c : Code) (ls : Array Slot), p.tables.exec = Jvm.exec → c.code = cc → meth.sig.returnType = ret → meth.locks = false → c.maxLocals = maxL → s.vm.findClass y.cls = some m.cls → meth.name = y.name → (∀ x ∈ xT, x.before args s = true) → va_K D cl tys s → va_P D cl ws s.heap → va_D A ws → va_S A s.heap s.heap [] → (∀ q, s.heap.size ≤ q → A q) → xN s → lv_has ls maxL (lv_args 0 av) →
      W p l e rm s m args below meth c s.heap [] 0 0 (MQ below Qc args s mc ms free) (F0 m 0 ls [])) : Met l y w rm (x_P D cl tys A av ws) Qc mc ms free := by
  refine Met.ofW (cc := cc) (maxL := maxL) (ret := ret) hy hw ?_
  intro p e s m args below meth c s₁ B hml hv
  obtain ⟨rfl, ⟨hP, hK, hD⟩, hA, hN⟩ := hv
  have hts : ∀ x ∈ xT, x.before av.toArray s = true := fun x hx => atoms_spec (ws := w) B.pre x (by rw [hw]; exact List.mem_cons_of_mem _ hx)
  have hl := lv_entry av (n := maxL) hn
  rw [lg_entry_eq]
  exact k p e s m _ below meth c _ B.exec B.bytes B.returns B.notSynchronized hml (findClass_of_methodNamed B.named) (name_of_methodNamed B.named B.method).1 hts hK hP hD va_S.rf hA hN hl
end XE
section XR
variable {p : Program} {l : Launch} {e : Env} {R : Room} {s : State} {m : MethodId} {args : Array Value} {below : List Frame} {meth : Method} {c : Code} {H : Heap} {locs : List Loc} {cells slots : Nat} {Q : State → Prop}
variable {cc : ByteArray} {pc : Nat} {ls : Array Slot} {rest : List Value} {D : va_G} {cl : List vw_C} {A : Nat → Prop} {tys : List (ClassId × FieldType)} {ws : va_W}
/-- the ends -/
theorem x_iret {v : Int32} {post : Int32 → va_W → Prop} (hx : p.tables.exec = Jvm.exec) (hb : c.code = cc) (hr : meth.sig.returnType = some .int) (hlk : meth.locks = false) (hK : va_K D cl tys s) (hP : va_P D cl ws H) (hD : va_D A ws) (hS : va_S A s.heap H locs) (hdg : decode cc pc = .ok (.ireturn, 1)) (hq : post v ws) :
    W p l e R s m args below meth c H locs cells slots (MQ below (va_Qi post (x_B D cl tys A) A) args s cells slots A) (F0 m pc ls [.int v]) :=
  W.iret (v := v) hx hb hr (fun t ht hW => ⟨⟨v, ws, rfl, hq, by rw [ht]; exact hP, va_K.moved hW.alike hK, hD⟩, hS.F ht⟩) hS.2.2 hdg hlk
theorem x_zret {v : Int32} {ty : FieldType} {post : Int32 → va_W → Prop} (hx : p.tables.exec = Jvm.exec) (hb : c.code = cc) (hr : meth.sig.returnType = some ty) (hn : narrow ty (.int v) = .int v) (hlk : meth.locks = false) (hK : va_K D cl tys s) (hP : va_P D cl ws H) (hD : va_D A ws) (hS : va_S A s.heap H locs) (hdg : decode cc pc = .ok (.ireturn, 1)) (hq : post v ws) :
    W p l e R s m args below meth c H locs cells slots (MQ below (va_Qi post (x_B D cl tys A) A) args s cells slots A) (F0 m pc ls [.int v]) :=
  W.zret (v := v) hx hb hr hn (fun t ht hW => ⟨⟨v, ws, rfl, hq, by rw [ht]; exact hP, va_K.moved hW.alike hK, hD⟩, hS.F ht⟩) hS.2.2 hdg hlk
theorem x_vret {post : va_W → Prop} (hx : p.tables.exec = Jvm.exec) (hb : c.code = cc) (hr : meth.sig.returnType = none) (hlk : meth.locks = false) (hK : va_K D cl tys s) (hP : va_P D cl ws H) (hD : va_D A ws) (hS : va_S A s.heap H locs) (hdg : decode cc pc = .ok (.return_, 1)) (hq : post ws) :
    W p l e R s m args below meth c H locs cells slots (MQ below (va_Qv post (x_B D cl tys A) A) args s cells slots A) (F0 m pc ls []) :=
  W.vret hx hb hr (fun t ht hW => ⟨⟨ws, rfl, hq, by rw [ht]; exact hP, va_K.moved hW.alike hK, hD⟩, hS.F ht⟩) hS.2.2 hdg hlk
theorem x_aret {v : Nat} {rt : FieldType} {post : Nat → va_W → Prop} (hx : p.tables.exec = Jvm.exec) (hb : c.code = cc) (hr : meth.sig.returnType = some rt) (hrt : (∃ n, rt = .object n) ∨ ∃ t, rt = .array t) (hlk : meth.locks = false) (hK : va_K D cl tys s) (hP : va_P D cl ws H) (hD : va_D A ws) (hS : va_S A s.heap H locs) (hdg : decode cc pc = .ok (.areturn, 1)) (hq : post v ws) :
    W p l e R s m args below meth c H locs cells slots (MQ below (va_Qr (fun _ : va_W => True) (fun ws1 a t => post a ws1 ∧ x_B D cl tys A ws1 t) A) args s cells slots A) (F0 m pc ls [.ref v]) :=
  W.aret (v := .ref v) hx hb hr hrt (Or.inr ⟨v, rfl⟩) (fun t ht hW => ⟨⟨ws, v, rfl, trivial, hq, by rw [ht]; exact hP, va_K.moved hW.alike hK, hD⟩, hS.F ht⟩) hS.2.2 hdg hlk
/-- what a call takes of its caller -/
theorem x_pre {U : State} {H0 : Heap} {av : List Value} (hK : va_K D cl tys s) (hP : va_P D cl ws H) (hD : va_D A ws) (hS : va_S A H0 H locs) (hA : ∀ q, H0.size ≤ q → A q) (hN : xN s) (hU : U.heap = H) (hW : s.WarmedH U.vm) : x_P D cl tys A av ws av.toArray U :=
  ⟨rfl, ⟨by rw [hU]; exact hP, va_K.moved hW.alike hK, hD⟩, fun q hq => hA q (Nat.le_trans hS.1 (by rw [hU] at hq; exact hq)), hN.warm hW⟩
variable {y : MethodName} {w : List Cond} {rm : Room} {av : List Value} {H0 : Heap} {st0 : List Value}
/-- a call that answers an int: hr comes from va_runV, va_runS, va_runVN, va_runSN .. -/
theorem x_calli {post : Int32 → va_W → Prop} {a : Array Value} {mc ms : Nat} (hr : va_Run p l e R s m args below meth c H locs cells slots mc ms (F0 m pc ls st0) rest (va_Qi post (x_B D cl tys A) A a) A) (hS : va_S A H0 H locs)
    (kk : ∀ (r : Int32) (ws1 : va_W) (H1 : Heap) (locs1 : List Loc), post r ws1 → va_P D cl ws1 H1 → va_D A ws1 → va_S A H0 H1 locs1 → W p l e R s m args below meth c H1 locs1 (cells + mc) (slots + ms) Q (F0 m (pc + 3) ls (.int r :: rest))) : W p l e R s m args below meth c H locs cells slots Q (F0 m pc ls st0) :=
  va_calli hr hS (fun _ _ h => h) (fun _ h => h) (fun r u t H1 locs1 ht _ hw hB _ _ hS1 => kk r u H1 locs1 hw (by have := hB.1; rw [ht] at this; exact this) hB.2.2 hS1)
theorem x_callv {post : va_W → Prop} {a : Array Value} {mc ms : Nat} (hr : va_Run p l e R s m args below meth c H locs cells slots mc ms (F0 m pc ls st0) rest (va_Qv post (x_B D cl tys A) A a) A) (hS : va_S A H0 H locs)
    (kk : ∀ (ws1 : va_W) (H1 : Heap) (locs1 : List Loc), post ws1 → va_P D cl ws1 H1 → va_D A ws1 → va_S A H0 H1 locs1 → W p l e R s m args below meth c H1 locs1 (cells + mc) (slots + ms) Q (F0 m (pc + 3) ls rest)) : W p l e R s m args below meth c H locs cells slots Q (F0 m pc ls st0) :=
  va_callv hr hS (fun _ _ h => h) (fun _ h => h) (fun u t H1 locs1 ht _ hw hB _ _ hS1 => kk u H1 locs1 hw (by have := hB.1; rw [ht] at this; exact this) hB.2.2 hS1)
theorem x_callr {post : Nat → va_W → Prop} {a : Array Value} {mc ms : Nat} (hr : va_Run p l e R s m args below meth c H locs cells slots mc ms (F0 m pc ls st0) rest (va_Qr (fun _ : va_W => True) (fun ws1 a t => post a ws1 ∧ x_B D cl tys A ws1 t) A a) A) (hS : va_S A H0 H locs)
    (kk : ∀ (r : Nat) (ws1 : va_W) (H1 : Heap) (locs1 : List Loc), post r ws1 → va_P D cl ws1 H1 → va_D A ws1 → va_S A H0 H1 locs1 → W p l e R s m args below meth c H1 locs1 (cells + mc) (slots + ms) Q (F0 m (pc + 3) ls (.ref r :: rest))) : W p l e R s m args below meth c H locs cells slots Q (F0 m pc ls st0) :=
  va_callr hr hS (fun _ _ h => h) (fun _ h => h) (fun u r t H1 locs1 ht _ _ hB _ _ hS1 => kk r u H1 locs1 hB.1 (by have := hB.2.1; rw [ht] at this; exact this) hB.2.2.2 hS1)
end XR
-- ===== one cell of the world changes =====
def x_upd (ws : va_W) (k : Nat) (q : Nat × va_E) (ws1 : va_W) : Prop := ws1[k]? = some q ∧ ∀ j, j ≠ k → ws1[j]? = ws[j]?
theorem x_lt {ws : va_W} {k : Nat} {q : Nat × va_E} (h : ws[k]? = some q) : k < ws.length := (List.getElem?_eq_some_iff.mp h).1
theorem x_gen {D : va_G} {cl : List vw_C} {A : Nat → Prop} {ws : va_W} {H : Heap} {k : Nat} {q0 q : Nat × va_E} (h : ws[k]? = some q0) (hP : va_P D cl (ws.set k q) H) (hD : va_D A (ws.set k q)) : ∃ ws1, x_upd ws k q ws1 ∧ va_P D cl ws1 H ∧ va_D A ws1 :=
  ⟨ws.set k q, ⟨by rw [List.getElem?_set_self (x_lt h)], fun j hj => List.getElem?_set_ne (Ne.symm hj)⟩, hP, hD⟩
-- ===== calls: every method's words are its code and xT =====
theorem xG {w0 : Cond} (h : w0 ∈ xT) : GoodIn xT (w0 :: xT) := by
  intro w hw
  have hm : w ∈ xT := (List.mem_cons.mp hw).elim (fun e => e ▸ h) id
  exact ⟨hm, good_of_word (xT_good w hm)⟩
/-- a room of d frames, no cells -/
def xR (d : Nat) : Room := { frames := d, cells := 0, slots := 0, locals := 40 * d }
section XC
variable {p : Program} {l : Launch} {e : Env} {R : Room} {s : State} {m : MethodId} {args : Array Value} {below : List Frame} {meth : Method} {c : Code} {H : Heap} {locs : List Loc} {cells slots : Nat}
variable {cc : ByteArray} {pc : Nat} {ls : Array Slot} {rest st0 As : List Value} {D : va_G} {cl : List vw_C} {A : Nat → Prop} {tys : List (ClassId × FieldType)} {ws : va_W} {H0 : Heap}
variable {y : MethodName} {bytes : ByteArray} {maxL nL mc ms n index : Nat} {ret : Option FieldType} {rm : Room} {Qc : Array Value → State → Outcome → State → Prop} {own C host : String} {a : Nat}
theorem x_runV (S : CallFix p m c cc nL s args xT own) (hM : Met l y (Cond.code y bytes maxL ret :: xT) rm (x_P D cl tys A (.ref a :: As) ws) Qc mc ms A) (h1 : Cond.methodLink own index y ∈ xT) (h2 : Cond.instanceMethod y ∈ xT) (h3 : Cond.selects C y y ∈ xT) (h4 : Cond.initialized C ∈ xT) (h5 : Cond.code y bytes maxL ret ∈ xT)
    (hd : y.cls = C ∧ y.cls ≠ "java/lang/invoke/MethodHandle" ∧ y.cls ≠ "java/lang/invoke/VarHandle" ∧ (parseMethodDescriptor y.desc).map (fun d => d.parameters.length) = some n) (hrc : rm.cells = mc) (hrs : rm.slots = ms) (hR : rm.frames + 1 ≤ R.frames ∧ 8 + (maxL + 11) + rm.locals ≤ R.locals) (hf : cells + mc ≤ R.cells ∧ slots + ms ≤ R.slots)
    (hv : ∃ cell : Cell, H[a]? = some cell ∧ cell.vm.isStatics = false ∧ s.vm.findClass C = some cell.cls) (hK : va_K D cl tys s) (hP : va_P D cl ws H) (hD : va_D A ws) (hS : va_S A H0 H locs) (hA : ∀ q, H0.size ≤ q → A q) (hN : xN s)
    (hn : As.length = n) (hsz : ls.size = nL) (hst : st0 = As.reverse ++ .ref a :: rest) (hW : 2 * (F0 m pc ls st0).monitorRoom + (rest.map fun v => v.category).sum ≤ 8) (hdg : decode cc pc = .ok (.invokevirtual index, 3)) :
    va_Run p l e R s m args below meth c H locs cells slots mc ms (F0 m pc ls st0) rest (Qc (Value.ref a :: As).toArray) A := by
  have ht := S.2.2.2.2
  refine va_runV (C := C) (index := index) (n := n) (ret := ret) (bytes := bytes) (maxL := maxL) S hM ⟨callB_of n ht (xG h5) rfl hrc hrs (by rw [hd.1]; exact ht _ h4) (ht _ h1) hd.2 hR, ht _ h2, ht _ h3⟩ ⟨x_blind, hv, fun U hU hW => x_pre hK hP hD hS hA hN hU hW⟩ rfl hn hsz hst hW hdg hf
theorem x_runS (S : CallFix p m c cc nL s args xT own) (hM : Met l y (Cond.code y bytes maxL ret :: xT) rm (x_P D cl tys A As ws) Qc mc ms A) (h1 : Cond.methodLink own index y ∈ xT) (h2 : Cond.static y ∈ xT) (h4 : Cond.initialized y.cls ∈ xT) (h5 : Cond.code y bytes maxL ret ∈ xT)
    (hd : y.cls ≠ "java/lang/invoke/MethodHandle" ∧ y.cls ≠ "java/lang/invoke/VarHandle" ∧ (parseMethodDescriptor y.desc).map (fun d => d.parameters.length) = some n) (hrc : rm.cells = mc) (hrs : rm.slots = ms) (hR : rm.frames + 1 ≤ R.frames ∧ 8 + (maxL + 11) + rm.locals ≤ R.locals) (hf : cells + mc ≤ R.cells ∧ slots + ms ≤ R.slots)
    (hK : va_K D cl tys s) (hP : va_P D cl ws H) (hD : va_D A ws) (hS : va_S A H0 H locs) (hA : ∀ q, H0.size ≤ q → A q) (hN : xN s)
    (hn : As.length = n) (hsz : ls.size = nL) (hst : st0 = As.reverse ++ rest) (hW : 2 * (F0 m pc ls st0).monitorRoom + (rest.map fun v => v.category).sum ≤ 8) (hdg : decode cc pc = .ok (.invokestatic index, 3)) :
    va_Run p l e R s m args below meth c H locs cells slots mc ms (F0 m pc ls st0) rest (Qc As.toArray) A := by
  have ht := S.2.2.2.2
  refine va_runS (index := index) (n := n) (ret := ret) (bytes := bytes) (maxL := maxL) S hM ⟨callB_of n ht (xG h5) rfl hrc hrs (ht _ h4) (ht _ h1) hd hR, ht _ h2⟩ ⟨x_blind, fun U hU hW => x_pre hK hP hD hS hA hN hU hW⟩ rfl hn hsz hst hW hdg hf
theorem x_runSN (S : CallFix p m c cc nL s args xT own) (hM : Met l y (Cond.code y bytes maxL ret :: xT) rm (x_P D cl tys A As ws) Qc mc ms A) (h1 : va_Nw (.methodLinkNest own index y host) s) (h2 : Cond.static y ∈ xT) (h4 : Cond.initialized y.cls ∈ xT) (h5 : Cond.code y bytes maxL ret ∈ xT)
    (hd : y.cls ≠ "java/lang/invoke/MethodHandle" ∧ y.cls ≠ "java/lang/invoke/VarHandle" ∧ (parseMethodDescriptor y.desc).map (fun d => d.parameters.length) = some n) (hrc : rm.cells = mc) (hrs : rm.slots = ms) (hR : rm.frames + 1 ≤ R.frames ∧ 8 + (maxL + 11) + rm.locals ≤ R.locals) (hf : cells + mc ≤ R.cells ∧ slots + ms ≤ R.slots)
    (hK : va_K D cl tys s) (hP : va_P D cl ws H) (hD : va_D A ws) (hS : va_S A H0 H locs) (hA : ∀ q, H0.size ≤ q → A q) (hN : xN s)
    (hn : As.length = n) (hsz : ls.size = nL) (hst : st0 = As.reverse ++ rest) (hW : 2 * (F0 m pc ls st0).monitorRoom + (rest.map fun v => v.category).sum ≤ 8) (hdg : decode cc pc = .ok (.invokestatic index, 3)) :
    va_Run p l e R s m args below meth c H locs cells slots mc ms (F0 m pc ls st0) rest (Qc As.toArray) A := by
  have ht := S.2.2.2.2
  refine va_runSN (index := index) (n := n) (ret := ret) (bytes := bytes) (maxL := maxL) S hM ⟨va_cnB n ht (xG h5) rfl hrc hrs h1 (ht _ h4) hd hR, ht _ h2, trivial⟩ ⟨x_blind, fun U hU hW => x_pre hK hP hD hS hA hN hU hW⟩ rfl hn hsz hst hW hdg hf
theorem x_runI (S : CallFix p m c cc nL s args xT own) (hM : Met l y (Cond.code y bytes maxL none :: xT) rm (x_P D cl tys A (.ref a :: As) ws) Qc mc ms A) (h1 : Cond.methodLink own index y ∈ xT) (h2 : Cond.instanceMethod y ∈ xT) (h4 : Cond.initialized y.cls ∈ xT) (h5 : Cond.code y bytes maxL none ∈ xT) (hy : y.name = "<init>")
    (hd : y.cls ≠ "java/lang/invoke/MethodHandle" ∧ y.cls ≠ "java/lang/invoke/VarHandle" ∧ (parseMethodDescriptor y.desc).map (fun d => d.parameters.length) = some n) (hrc : rm.cells = mc) (hrs : rm.slots = ms) (hR : rm.frames + 1 ≤ R.frames ∧ 8 + (maxL + 11) + rm.locals ≤ R.locals) (hf : cells + mc ≤ R.cells ∧ slots + ms ≤ R.slots)
    (hK : va_K D cl tys s) (hP : va_P D cl ws H) (hD : va_D A ws) (hS : va_S A H0 H locs) (hA : ∀ q, H0.size ≤ q → A q) (hN : xN s)
    (hn : As.length = n) (hsz : ls.size = nL) (hst : st0 = As.reverse ++ .ref a :: rest) (hW : 2 * (F0 m pc ls st0).monitorRoom + (rest.map fun v => v.category).sum ≤ 8) (hdg : decode cc pc = .ok (.invokespecial index, 3)) :
    va_Run p l e R s m args below meth c H locs cells slots mc ms (F0 m pc ls st0) rest (Qc (Value.ref a :: As).toArray) A := by
  have ht := S.2.2.2.2
  refine va_runI (index := index) (n := n) (bytes := bytes) (maxL := maxL) S hM ⟨callB_of n ht (xG h5) rfl hrc hrs (ht _ h4) (ht _ h1) hd hR, hy, ht _ h2⟩ ⟨x_blind, fun U hU hW => x_pre hK hP hD hS hA hN hU hW⟩ rfl hn hsz hst hW hdg hf
end XC
