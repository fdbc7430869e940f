-- ===== methods that read string constants: a start that knows them =====
def sLen : List Nat := [3, 4, 5, 3, 4, 5, 4, 3, 2]
def sByt : List (List Int32) := [[97, 108, 108], [100, 101, 112, 115], [117, 115, 101, 114, 115], [119, 97, 121], [107, 105, 110, 100], [116, 101, 115, 116, 115], [115, 97, 109, 101], [108, 101, 116], [105, 110]]
def sIdx : List Nat := [56, 62, 64, 66, 68, 70, 72, 74, 76]
def sTx : List String := ["all", "deps", "users", "way", "kind", "tests", "same", "let", "in"]
/-- what the string methods rest on: two statics, the nine literals -/
def xE (A : Nat → Prop) (adK adV : Nat → Nat) (zf : Value) (U : State) : Prop :=
  va_Z "java/lang/String" "COMPACT_STRINGS" "Z" (.int 1) A U U.heap ∧ va_Z "jdk/internal/util/Preconditions" "SIOOBE_FORMATTER" "Ljava/util/function/BiFunction;" zf A U U.heap ∧ vk_S 9 sLen sByt adK adV A U U.heap ∧ ∀ i, i < 9 → vk_R "GraphQuery$Text" (sIdx.getD i 0) (sTx.getD i "") (adK i) U
theorem xE.move {A : Nat → Prop} {adK adV : Nat → Nat} {zf : Value} {s U : State} {H : Heap} {locs : List Loc} (h : xE A adK adV zf s) (hS : va_S A s.heap H locs) (hU : U.heap = H) (hW : s.WarmedH U.vm) : xE A adK adV zf U := by
  have hq : ∀ a : Nat, a < s.heap.size → ¬ A a → U.heap[a]? = s.heap[a]? := fun a h1 h2 => by rw [hU]; exact hS.2.1 a h1 h2
  exact ⟨va_Z.moved hW.alike (h.1.kept hq), va_Z.moved hW.alike (h.2.1.kept hq), vk_S.moved hW.alike (h.2.2.1.kept hq), fun i hi => (h.2.2.2 i hi).warm hW⟩
def x_Ps (adK adV : Nat → Nat) (zf : Value) (D : va_G) (cl : List vw_C) (tys : List (ClassId × FieldType)) (A : Nat → Prop) (av : List Value) (ws : va_W) : Array Value → State → Prop := va_Pc av (fun U => x_B D cl tys A ws U ∧ (∀ q, U.heap.size ≤ q → A q) ∧ xN U ∧ xE A adK adV zf U)
theorem x_blinds {adK adV : Nat → Nat} {zf : Value} {D : va_G} {cl : List vw_C} {tys : List (ClassId × FieldType)} {A : Nat → Prop} {av : List Value} {ws : va_W} : FrameBlind (x_Ps adK adV zf D cl tys A av ws) := by
  intro a U g mk q
  obtain ⟨q0, ⟨qP, qK, qD⟩, qA, qN, qE⟩ := q
  refine ⟨q0, ⟨qP, va_K.moved (u := U) (U := U.calling g mk a) (Vm.Alike.refl U.vm) qK, qD⟩, qA, xN.same (u := U) (U := U.calling g mk a) rfl qN, ?_⟩
  exact ⟨va_Z.moved (u := U) (U := U.calling g mk a) (Vm.Alike.refl U.vm) qE.1, va_Z.moved (u := U) (U := U.calling g mk a) (Vm.Alike.refl U.vm) qE.2.1, vk_S.moved (u := U) (U := U.calling g mk a) (Vm.Alike.refl U.vm) qE.2.2.1, fun i hi => (qE.2.2.2 i hi).same rfl⟩
abbrev x_Msi (l : Launch) (y : MethodName) (w : List Cond) (rm : Room) (adK adV : Nat → Nat) (zf : Value) (D : va_G) (cl : List vw_C) (tys : List (ClassId × FieldType)) (A : Nat → Prop) (av : List Value) (ws : va_W) (post : Int32 → va_W → Prop) : Prop := Met l y w rm (x_Ps adK adV zf D cl tys A av ws) (va_Qi post (x_B D cl tys A) A) rm.cells rm.slots A
abbrev x_Msv (l : Launch) (y : MethodName) (w : List Cond) (rm : Room) (adK adV : Nat → Nat) (zf : Value) (D : va_G) (cl : List vw_C) (tys : List (ClassId × FieldType)) (A : Nat → Prop) (av : List Value) (ws : va_W) (post : va_W → Prop) : Prop := Met l y w rm (x_Ps adK adV zf D cl tys A av ws) (va_Qv post (x_B D cl tys A) A) rm.cells rm.slots A
theorem x_enters {l : Launch} {y : MethodName} {w : List Cond} {rm : Room} {D : va_G} {cl : List vw_C} {tys : List (ClassId × FieldType)} {A : Nat → Prop} {av : List Value} {ws : va_W} {cc : ByteArray} {maxL : Nat} {ret : Option FieldType} {adK adV : Nat → Nat} {zf : Value} {Qc : Array Value → State → Outcome → State → Prop} {mc ms : Nat} {free : Addr → Prop} (hy : plainName y.cls = true) (hw : w = Cond.code y cc maxL ret :: xT) (hn : (lg_sl av).length ≤ maxL)
    (k : ∀ (p : Program) (e : Env) (s : State) (m : MethodId) (args : Array Value) (below : List Frame) (meth : Method) (c : Code) (ls : Array Slot), p.tables.exec = Jvm.exec → c.code = cc → meth.sig.returnType = ret → meth.locks = false → c.maxLocals = maxL → s.vm.findClass y.cls = some m.cls → meth.name = y.name → (∀ x ∈ xT, x.before args s = true) → va_K D cl tys s → va_P D cl ws s.heap → va_D A ws → va_S A s.heap s.heap [] → (∀ q, s.heap.size ≤ q → A q) → xN s → xE A adK adV zf s → lv_has ls maxL (lv_args 0 av) →
      W p l e rm s m args below meth c s.heap [] 0 0 (MQ below Qc args s mc ms free) (F0 m 0 ls [])) : Met l y w rm (x_Ps adK adV zf D cl tys A av ws) Qc mc ms free := by
  refine Met.ofW (cc := cc) (maxL := maxL) (ret := ret) hy hw ?_
  intro p e s m args below meth c s₁ B hml hv
  obtain ⟨rfl, ⟨hP, hK, hD⟩, hA, hN, hE⟩ := hv
  have hts : ∀ x ∈ xT, x.before av.toArray s = true := fun x hx => atoms_spec (ws := w) B.pre x (by rw [hw]; exact List.mem_cons_of_mem _ hx)
  have hl := lv_entry av (n := maxL) hn
  rw [lg_entry_eq]
  exact k p e s m _ below meth c _ B.exec B.bytes B.returns B.notSynchronized hml (findClass_of_methodNamed B.named) (name_of_methodNamed B.named B.method).1 hts hK hP hD va_S.rf hA hN hE hl
section XS
variable {p : Program} {l : Launch} {e : Env} {R : Room} {s : State} {m : MethodId} {args : Array Value} {below : List Frame} {meth : Method} {c : Code} {H : Heap} {locs : List Loc} {cells slots : Nat}
variable {cc : ByteArray} {pc : Nat} {ls : Array Slot} {rest st0 As : List Value} {D : va_G} {cl : List vw_C} {A : Nat → Prop} {tys : List (ClassId × FieldType)} {ws : va_W}
variable {y : MethodName} {bytes : ByteArray} {maxL nL mc ms n index : Nat} {ret : Option FieldType} {rm : Room} {Qc : Array Value → State → Outcome → State → Prop} {own C : String} {a : Nat} {adK adV : Nat → Nat} {zf : Value}
theorem x_pres {U : State} {av : List Value} (hK : va_K D cl tys s) (hP : va_P D cl ws H) (hD : va_D A ws) (hS : va_S A s.heap H locs) (hA : ∀ q, s.heap.size ≤ q → A q) (hN : xN s) (hE : xE A adK adV zf s) (hU : U.heap = H) (hW : s.WarmedH U.vm) : x_Ps adK adV zf D cl tys A av ws av.toArray U :=
  ⟨rfl, ⟨by rw [hU]; exact hP, va_K.moved hW.alike hK, hD⟩, fun q hq => hA q (Nat.le_trans hS.1 (by rw [hU] at hq; exact hq)), hN.warm hW, hE.move hS hU hW⟩
theorem x_runVs (S : CallFix p m c cc nL s args xT own) (hM : Met l y (Cond.code y bytes maxL ret :: xT) rm (x_Ps adK adV zf D cl tys A (.ref a :: As) ws) Qc mc ms A) (h1 : Cond.methodLink own index y ∈ xT) (h2 : Cond.instanceMethod y ∈ xT) (h3 : Cond.selects C y y ∈ xT) (h4 : Cond.initialized C ∈ xT) (h5 : Cond.code y bytes maxL ret ∈ xT)
    (hd : y.cls = C ∧ y.cls ≠ "java/lang/invoke/MethodHandle" ∧ y.cls ≠ "java/lang/invoke/VarHandle" ∧ (parseMethodDescriptor y.desc).map (fun d => d.parameters.length) = some n) (hrc : rm.cells = mc) (hrs : rm.slots = ms) (hR : rm.frames + 1 ≤ R.frames ∧ 8 + (maxL + 11) + rm.locals ≤ R.locals) (hf : cells + mc ≤ R.cells ∧ slots + ms ≤ R.slots)
    (hv : ∃ cell : Cell, H[a]? = some cell ∧ cell.vm.isStatics = false ∧ s.vm.findClass C = some cell.cls) (hK : va_K D cl tys s) (hP : va_P D cl ws H) (hD : va_D A ws) (hS : va_S A s.heap H locs) (hA : ∀ q, s.heap.size ≤ q → A q) (hN : xN s) (hE : xE A adK adV zf s)
    (hn : As.length = n) (hsz : ls.size = nL) (hst : st0 = As.reverse ++ .ref a :: rest) (hW : 2 * (F0 m pc ls st0).monitorRoom + (rest.map fun v => v.category).sum ≤ 8) (hdg : decode cc pc = .ok (.invokevirtual index, 3)) :
    va_Run p l e R s m args below meth c H locs cells slots mc ms (F0 m pc ls st0) rest (Qc (Value.ref a :: As).toArray) A := by
  have ht := S.2.2.2.2
  exact va_runV (C := C) (index := index) (n := n) (ret := ret) (bytes := bytes) (maxL := maxL) S hM ⟨callB_of n ht (xG h5) rfl hrc hrs (by rw [hd.1]; exact ht _ h4) (ht _ h1) hd.2 hR, ht _ h2, ht _ h3⟩ ⟨x_blinds, hv, fun U hU hW => x_pres hK hP hD hS hA hN hE hU hW⟩ rfl hn hsz hst hW hdg hf
theorem x_runSs (S : CallFix p m c cc nL s args xT own) (hM : Met l y (Cond.code y bytes maxL ret :: xT) rm (x_Ps adK adV zf D cl tys A As ws) Qc mc ms A) (h1 : Cond.methodLink own index y ∈ xT) (h2 : Cond.static y ∈ xT) (h4 : Cond.initialized y.cls ∈ xT) (h5 : Cond.code y bytes maxL ret ∈ xT)
    (hd : y.cls ≠ "java/lang/invoke/MethodHandle" ∧ y.cls ≠ "java/lang/invoke/VarHandle" ∧ (parseMethodDescriptor y.desc).map (fun d => d.parameters.length) = some n) (hrc : rm.cells = mc) (hrs : rm.slots = ms) (hR : rm.frames + 1 ≤ R.frames ∧ 8 + (maxL + 11) + rm.locals ≤ R.locals) (hf : cells + mc ≤ R.cells ∧ slots + ms ≤ R.slots)
    (hK : va_K D cl tys s) (hP : va_P D cl ws H) (hD : va_D A ws) (hS : va_S A s.heap H locs) (hA : ∀ q, s.heap.size ≤ q → A q) (hN : xN s) (hE : xE A adK adV zf s)
    (hn : As.length = n) (hsz : ls.size = nL) (hst : st0 = As.reverse ++ rest) (hW : 2 * (F0 m pc ls st0).monitorRoom + (rest.map fun v => v.category).sum ≤ 8) (hdg : decode cc pc = .ok (.invokestatic index, 3)) :
    va_Run p l e R s m args below meth c H locs cells slots mc ms (F0 m pc ls st0) rest (Qc As.toArray) A := by
  have ht := S.2.2.2.2
  exact va_runS (index := index) (n := n) (ret := ret) (bytes := bytes) (maxL := maxL) S hM ⟨callB_of n ht (xG h5) rfl hrc hrs (ht _ h4) (ht _ h1) hd hR, ht _ h2⟩ ⟨x_blinds, fun U hU hW => x_pres hK hP hD hS hA hN hE hU hW⟩ rfl hn hsz hst hW hdg hf
end XS
