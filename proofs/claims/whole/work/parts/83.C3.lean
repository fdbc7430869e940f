/-- the start with the class of the arrays of rows -/
def x_Po (D : va_G) (cl : List vw_C) (tys : List (ClassId × FieldType)) (A : Nat → Prop) (av : List Value) (ws : va_W) : Array Value → State → Prop := va_Pc av (fun U => x_B D cl tys A ws U ∧ (∀ q, U.heap.size ≤ q → A q) ∧ xN U ∧ va_AO "GraphQuery$Row" U)
theorem x_blindo {D : va_G} {cl : List vw_C} {tys : List (ClassId × FieldType)} {A : Nat → Prop} {av : List Value} {ws : va_W} : FrameBlind (x_Po D cl tys A av ws) := by
  intro a U g mk q
  obtain ⟨q0, ⟨qP, qK, qD⟩, qA, qN, qE⟩ := q
  exact ⟨q0, ⟨qP, va_K.moved (u := U) (U := U.calling g mk a) (Vm.Alike.refl U.vm) qK, qD⟩, qA, xN.same (u := U) (U := U.calling g mk a) rfl qN, va_AO.moved (u := U) (U := U.calling g mk a) (Vm.Alike.refl U.vm) qE⟩
abbrev x_Mov (l : Launch) (y : MethodName) (w : List Cond) (rm : Room) (D : va_G) (cl : List vw_C) (tys : List (ClassId × FieldType)) (A : Nat → Prop) (av : List Value) (ws : va_W) (post : va_W → Prop) : Prop := Met l y w rm (x_Po D cl tys A av ws) (va_Qv post (x_B D cl tys A) A) rm.cells rm.slots A
theorem x_entero {l : Launch} {y : MethodName} {w : List Cond} {rm : Room} {D : va_G} {cl : List vw_C} {tys : List (ClassId × FieldType)} {A : Nat → Prop} {av : List Value} {ws : va_W} {cc : ByteArray} {maxL : Nat} {ret : Option FieldType} {Qc : Array Value → State → Outcome → State → Prop} {mc ms : Nat} {free : Addr → Prop} (hy : plainName y.cls = true) (hw : w = Cond.code y cc maxL ret :: xT) (hn : (lg_sl av).length ≤ maxL)
    (k : ∀ (p : Program) (e : Env) (s : State) (m : MethodId) (args : Array Value) (below : List Frame) (meth : Method) (c : Code) (ls : Array Slot), p.tables.exec = Jvm.exec → c.code = cc → meth.sig.returnType = ret → meth.locks = false → c.maxLocals = maxL → s.vm.findClass y.cls = some m.cls → meth.name = y.name → (∀ x ∈ xT, x.before args s = true) → va_K D cl tys s → va_P D cl ws s.heap → va_D A ws → va_S A s.heap s.heap [] → (∀ q, s.heap.size ≤ q → A q) → xN s → va_AO "GraphQuery$Row" s → lv_has ls maxL (lv_args 0 av) →
      W p l e rm s m args below meth c s.heap [] 0 0 (MQ below Qc args s mc ms free) (F0 m 0 ls [])) : Met l y w rm (x_Po D cl tys A av ws) Qc mc ms free := by
  refine Met.ofW (cc := cc) (maxL := maxL) (ret := ret) hy hw ?_
  intro p e s m args below meth c s₁ B hml hv
  obtain ⟨rfl, ⟨hP, hK, hD⟩, hA, hN, hE⟩ := hv
  have hts : ∀ x ∈ xT, x.before av.toArray s = true := fun x hx => atoms_spec (ws := w) B.pre x (by rw [hw]; exact List.mem_cons_of_mem _ hx)
  have hl := lv_entry av (n := maxL) hn
  rw [lg_entry_eq]
  exact k p e s m _ below meth c _ B.exec B.bytes B.returns B.notSynchronized hml (findClass_of_methodNamed B.named) (name_of_methodNamed B.named B.method).1 hts hK hP hD va_S.rf hA hN hE hl
theorem x_runIo {p : Program} {l : Launch} {e : Env} {R : Room} {s : State} {m : MethodId} {args : Array Value} {below : List Frame} {meth : Method} {c : Code} {H : Heap} {locs : List Loc} {cells slots : Nat} {cc : ByteArray} {pc : Nat} {ls : Array Slot} {rest st0 As : List Value} {D : va_G} {cl : List vw_C} {A : Nat → Prop} {tys : List (ClassId × FieldType)} {ws : va_W} {H0 : Heap} {y : MethodName} {bytes : ByteArray} {maxL nL mc ms n index : Nat} {rm : Room} {Qc : Array Value → State → Outcome → State → Prop} {own : String} {a : Nat}
    (S : CallFix p m c cc nL s args xT own) (hM : Met l y (Cond.code y bytes maxL none :: xT) rm (x_Po D cl tys A (.ref a :: As) ws) Qc mc ms A) (h1 : Cond.methodLink own index y ∈ xT) (h2 : Cond.instanceMethod y ∈ xT) (h4 : Cond.initialized y.cls ∈ xT) (h5 : Cond.code y bytes maxL none ∈ xT) (hy : y.name = "<init>")
    (hd : y.cls ≠ "java/lang/invoke/MethodHandle" ∧ y.cls ≠ "java/lang/invoke/VarHandle" ∧ (parseMethodDescriptor y.desc).map (fun d => d.parameters.length) = some n) (hrc : rm.cells = mc) (hrs : rm.slots = ms) (hR : rm.frames + 1 ≤ R.frames ∧ 8 + (maxL + 11) + rm.locals ≤ R.locals) (hf : cells + mc ≤ R.cells ∧ slots + ms ≤ R.slots)
    (hK : va_K D cl tys s) (hP : va_P D cl ws H) (hD : va_D A ws) (hS : va_S A H0 H locs) (hA : ∀ q, H0.size ≤ q → A q) (hN : xN s) (hO : va_AO "GraphQuery$Row" s)
    (hn : As.length = n) (hsz : ls.size = nL) (hst : st0 = As.reverse ++ .ref a :: rest) (hW : 2 * (F0 m pc ls st0).monitorRoom + (rest.map fun v => v.category).sum ≤ 8) (hdg : decode cc pc = .ok (.invokespecial index, 3)) :
    va_Run p l e R s m args below meth c H locs cells slots mc ms (F0 m pc ls st0) rest (Qc (Value.ref a :: As).toArray) A := by
  have ht := S.2.2.2.2
  refine va_runI (index := index) (n := n) (bytes := bytes) (maxL := maxL) S hM ⟨callB_of n ht (xG h5) rfl hrc hrs (ht _ h4) (ht _ h1) hd hR, hy, ht _ h2⟩ ⟨x_blindo, fun U hU hW => ⟨rfl, ⟨by rw [hU]; exact hP, va_K.moved hW.alike hK, hD⟩, fun q hq => hA q (Nat.le_trans hS.1 (by rw [hU] at hq; exact hq)), hN.warm hW, va_AO.moved hW.alike hO⟩⟩ rfl hn hsz hst hW hdg hf
theorem x_ad.ex (ws : va_W) : ∃ ad, x_ad ad ws := ⟨fun j => ((ws[j]?).map Prod.fst).getD 0, fun j q hq => by show q.1 = ((ws[j]?).map Prod.fst).getD 0; rw [hq]; rfl⟩
theorem up_s {f : Nat → Option Nat} {i : Nat} {v : Option Nat} : va_up f i v i = v := by simp [va_up]
theorem up_o {f : Nat → Option Nat} {i j : Nat} {v : Option Nat} (h : ¬ j = i) : va_up f i v j = f j := by simp [va_up, h]

set_option maxHeartbeats 4000000 in
set_option maxRecDepth 100000 in
theorem cN_init (l : Launch) (D : va_G) (tys : List (ClassId × FieldType)) (A : Nat → Prop) (ws : va_W) (cI : ClassId) (hI : tys[0]? = some (cI, .int)) (cR : ClassId) (hCR : tys[2]? = some (cR, .object "GraphQuery$Row")) (k a : Nat) (hk0 : ws[k]? = some (a, .inr (3, [.null, .null, .int 0]))) (hwl : ws.length = k + 1) : x_Mov l yN_init wN_init ({ frames := 2, cells := 74, slots := 1224, locals := 180 }) D xCl tys A [.ref a] ws (fun ws1 => x_gr k 74 a ws ws1 ∧ ∀ ad, x_ad ad ws1 → RunnerAt cI cR ad ws1 k 0 (fun _ => []) (fun _ => [])) := by
  have hlow : ∀ j, j < k → ws[j]? = ws[j]? := fun _ _ => rfl
  refine x_entero (by decide) rfl (Nat.le_of_ble_eq_true rfl) (fun p e s m args below meth c ls hx hb hr hlk hml hown hnm hts hK hP hD hS hA hN hO9 hl => ?_)
  have hl : lv_has ls 2 [(0, .ref a)] := hl
  have loop_54 : ∀ (fu9 : Nat) (q1 : Nat) (q2 : Nat) (fa : Nat → Option Nat) (fb : Nat → Option Nat) (i : Nat) (ws1 : va_W) (H : Heap) (locs : List Loc) (ls : Array Slot), i ≤ 12 → ws1.length = k + 51 + 2 * i + 0 → (∀ j, j < k → ws1[j]? = ws[j]?) → ws1[k]? = some (a, .inr (3, [.ref q1, .ref q2, .int 0])) → ws1[k + 1]? = some (q1, .inl (cR, 24, .inr (.inr (.inr (.inr fa))))) → ws1[k + 50]? = some (q2, .inl (cR, 12, .inr (.inr (.inr (.inr fb))))) → (∀ ad, x_ad ad ws1 → ∀ j, j < 24 → fa j = some (ad (k + 2 + 2 * j)) ∧ RowAt cI ad ws1 (k + 2 + 2 * j) []) → (∀ ad, x_ad ad ws1 → ∀ j, j < i → fb j = some (ad (k + 51 + 2 * j)) ∧ RowAt cI ad ws1 (k + 51 + 2 * j) []) → 12 - i < fu9 → va_P D xCl ws1 H → va_D A ws1 → va_S A s.heap H locs → lv_has ls 2 [(0, .ref a), (1, .int (nI i))] → W p l e ({ frames := 2, cells := 74, slots := 1224, locals := 180 }) s m args below meth c H locs (50 + 2 * i) (828 + 33 * i) (MQ below (va_Qv (fun ws1 => x_gr k 74 a ws ws1 ∧ ∀ ad, x_ad ad ws1 → RunnerAt cI cR ad ws1 k 0 (fun _ => []) (fun _ => [])) (x_B D xCl tys A) A) args s 74 1224 A) (F0 m 54 ls []) := by
    intro fu9
    induction fu9 with
    | zero => intro q1 q2 fa fb i ws1 H locs ls hi hwl hlow hc0 hc1 hc2 hpifa hpifb hme; exact absurd hme (Nat.not_lt_zero _)
    | succ fu9 ih =>
      intro q1 q2 fa fb i ws1 H locs ls hi hwl hlow hc0 hc1 hc2 hpifa hpifb hme hP hD hS hl
      have hqfa_c : ∀ j, k + 2 ≤ j → j < k + 50 → ws1[j]? = ws1[j]? := fun _ _ _ => rfl
      have hqfa_a : ∀ ad, x_ad ad ws1 → x_ad ad ws1 := fun _ z9 => z9
      have hqfb_c : ∀ j, k + 51 ≤ j → j < k + 51 + 2 * i → ws1[j]? = ws1[j]? := fun _ _ _ => rfl
      have hqfb_a : ∀ ad, x_ad ad ws1 → x_ad ad ws1 := fun _ z9 => z9
      refine lv_iload_n hx hb dN_init_54 rfl (lv_at hl 1 rfl) ?_
      refine lv_aload_n hx hb dN_init_55 rfl (lv_at hl 0 rfl) ?_
      refine va_get (D := D) (cl := xCl) (ci := 3) (v := .ref q2) (C := rnN) (T := tbN) (N := 3) hx hb hts inN hown hK hP k hc0 rfl 1 (by decide) (hts _ tw_137) (fun _ h9 => h9) rfl dN_init_56 ?_
      refine va_alen (v := 12) hx hb hK hP (k + 50) 2 hc2 hCR (by rfl) dN_init_59 ?_
      refine lv_icmp_ge (tgt := 82) hx hb dN_init_60 (by decide) (fun c60 => ?_) (fun c60 => ?_)
      · have hi12 : i = 12 := by have c60 : nI 12 ≤ nI i := c60; rw [nI_leI (by omega) (by omega)] at c60; omega
        refine W.widen (k := 74) (n := 1224) (by omega) (by omega) ?_
        refine lv_aload_n hx hb dN_init_82 rfl (lv_at hl 0 rfl) ?_
        refine lv_iconst (v := 0) hx hb dN_init_83 (by decide) ?_
        refine va_put (D := D) (cl := xCl) (ci := 3) (v := .int 0) (ty := .int) (C := rnN) (T := tbN) (N := 3) hx hb hts inN tyN toN nmN hown hK hP hD hS k hc0 rfl 2 (by decide) (hts _ tw_138) (fun _ h9 => h9) rfl (by decide +kernel) rfl rfl (Nat.le_of_ble_eq_true rfl) dN_init_84 (fun H locs hP hD hS => ?_)
        obtain ⟨ws_2, hu_1, hP, hD⟩ := x_gen hc0 hP hD
        have h_3 : ws_2[k]? = some (a, .inr (3, [.ref q1, .ref q2, .int 0])) := hu_1.1
        have h_4 := (hu_1.2 (k + 1) (kn_ne (i := 1) (j := 0) (by decide))).trans hc1
        have h_5 := (hu_1.2 (k + 50) (kn_ne (i := 50) (j := 0) (by decide))).trans hc2
        have hwl := (x_upd.len hc0 hu_1).trans hwl
        have hqfa_c : ∀ j, k + 2 ≤ j → j < k + 50 → ws_2[j]? = ws1[j]? := fun j a9 b9 => (hu_1.2 j (Nat.ne_of_gt (Nat.lt_of_lt_of_le (kn_lt (i := 0) (j := 2) (by decide)) a9))).trans (hqfa_c j a9 b9)
        have hqfa_a : ∀ ad, x_ad ad ws_2 → x_ad ad ws1 := fun ad z9 => hqfa_a ad (x_ad.upd hc0 hu_1 z9)
        have hqfb_c : ∀ j, k + 51 ≤ j → j < k + 51 + 2 * i → ws_2[j]? = ws1[j]? := fun j a9 b9 => (hu_1.2 j (Nat.ne_of_gt (Nat.lt_of_lt_of_le (kn_lt (i := 0) (j := 51) (by decide)) a9))).trans (hqfb_c j a9 b9)
        have hqfb_a : ∀ ad, x_ad ad ws_2 → x_ad ad ws1 := fun ad z9 => hqfb_a ad (x_ad.upd hc0 hu_1 z9)
        have hlow : ∀ j, j < k → ws_2[j]? = ws[j]? := fun j z9 => (hu_1.2 j (Nat.ne_of_lt (Nat.lt_of_lt_of_le z9 (Nat.le_add_right k 0)))).trans (hlow j z9)
        exact x_vret hx hb hr hlk hK hP hD hS dN_init_87 (by obtain rfl : i = 12 := hi12; refine ⟨⟨hwl, hlow, _, h_3⟩, fun ad z9 => ?_⟩; have e0 : a = ad k := z9 k _ h_3; have e1 : q1 = ad (k + 1) := z9 (k + 1) _ h_4; have e2 : q2 = ad (k + 50) := z9 (k + 50) _ h_5; subst e0; subst e1; subst e2; exact ⟨h_3, ⟨fa, h_4, fun j hj => (hpifa ad (hqfa_a ad z9) j hj).1⟩, ⟨fb, h_5, fun j hj => (hpifb ad (hqfb_a ad z9) j hj).1⟩, fun j hj => (hpifa ad (hqfa_a ad z9) j hj).2.cg (fun x h1 h2 => hqfa_c x (by omega) (by omega)), fun j hj => (hpifb ad (hqfb_a ad z9) j hj).2.cg (fun x h1 h2 => hqfb_c x (by omega) (by omega))⟩)
      · have hi2 : i < 12 := by have c60 : ¬ nI 12 ≤ nI i := c60; rw [nI_leI (by omega) (by omega)] at c60; omega
        refine lv_aload_n hx hb dN_init_63 rfl (lv_at hl 0 rfl) ?_
        refine va_get (D := D) (cl := xCl) (ci := 3) (v := .ref q2) (C := rnN) (T := tbN) (N := 3) hx hb hts inN hown hK hP k hc0 rfl 1 (by decide) (hts _ tw_137) (fun _ h9 => h9) rfl dN_init_64 ?_
        refine lv_iload_n hx hb dN_init_67 rfl (lv_at hl 1 rfl) ?_
        refine va_new (ci := 2) (fs := [.null, .int 0, .int 0]) (C := rnR) (T := tbR) (N := 3) hx hb hts inR tyR toR hown (hts _ tw_119) (hts _ tw_121) (hts _ tw_7) hK hP hD hS hA rfl (fun j hj => by match j, hj with | 0, _ => rfl | 1, _ => rfl | 2, _ => rfl | n + 3, h => exact absurd h (by omega)) (show 50 + 2 * i + 1 ≤ 74 by omega) (show 828 + 33 * i + 3 ≤ 1224 by omega) dN_init_68 (fun q_6 H hP hD hS => ?_)
        obtain ⟨ws_7, a_8l, a_8o, a_8n, hP, hD⟩ := x_app hP hD
        rw [hwl] at a_8l a_8n
        have h_9 := (a_8o k (by rw [hwl]; omega)).trans hc0
        have h_10 := (a_8o (k + 1) (by rw [hwl]; omega)).trans hc1
        have h_11 := (a_8o (k + 50) (by rw [hwl]; omega)).trans hc2
        have hqfa_c : ∀ j, k + 2 ≤ j → j < k + 50 → ws_7[j]? = ws1[j]? := fun j a9 b9 => (a_8o j (by rw [hwl]; omega)).trans (hqfa_c j a9 b9)
        have hqfa_a : ∀ ad, x_ad ad ws_7 → x_ad ad ws1 := fun ad z9 => hqfa_a ad (x_ad.app a_8o z9)
        have hqfb_c : ∀ j, k + 51 ≤ j → j < k + 51 + 2 * i → ws_7[j]? = ws1[j]? := fun j a9 b9 => (a_8o j (by rw [hwl]; omega)).trans (hqfb_c j a9 b9)
        have hqfb_a : ∀ ad, x_ad ad ws_7 → x_ad ad ws1 := fun ad z9 => hqfb_a ad (x_ad.app a_8o z9)
        have hlow : ∀ j, j < k → ws_7[j]? = ws[j]? := fun j z9 => (a_8o j (by rw [hwl]; omega)).trans (hlow j z9)
        have hwl : ws_7.length = k + 51 + 2 * i + 1 := a_8l
        refine lv_dup hx hb dN_init_71 rfl ?_
        refine x_callv (x_runI (n := 0) (As := []) (rest := [.ref q_6, .int (nI i), .ref q2]) ⟨hx, hb, hml, hown, hts⟩ (cR_init l D tys A ws_7 cI hI (k + 51 + 2 * i + 0) q_6 a_8n hwl) tw_122 tw_123 tw_7 tw_124 rfl (by decide +kernel) rfl rfl ⟨by decide, by decide⟩ ⟨show 50 + 2 * i + 1 + 1 ≤ 74 by omega, show 828 + 33 * i + 3 + 30 ≤ 1224 by omega⟩ hK hP hD hS hA hN rfl hl.1 rfl (lv_room (Nat.le_of_ble_eq_true rfl)) dN_init_72) hS (fun ws_13 H locs hws12 hP hD hS => ?_)
        obtain ⟨gs12, ps12⟩ := hws12
        have h_14 := (gs12.2.1 k (by omega)).trans h_9
        have h_15 := (gs12.2.1 (k + 1) (by omega)).trans h_10
        have h_16 := (gs12.2.1 (k + 50) (by omega)).trans h_11
        have hqfa_c : ∀ j, k + 2 ≤ j → j < k + 50 → ws_13[j]? = ws1[j]? := fun j a9 b9 => (gs12.2.1 j (by omega)).trans (hqfa_c j a9 b9)
        have hqfa_a : ∀ ad, x_ad ad ws_13 → x_ad ad ws1 := fun ad z9 => hqfa_a ad (x_ad.gr a_8n hwl gs12 z9)
        have hqfb_c : ∀ j, k + 51 ≤ j → j < k + 51 + 2 * i → ws_13[j]? = ws1[j]? := fun j a9 b9 => (gs12.2.1 j (by omega)).trans (hqfb_c j a9 b9)
        have hqfb_a : ∀ ad, x_ad ad ws_13 → x_ad ad ws1 := fun ad z9 => hqfb_a ad (x_ad.gr a_8n hwl gs12 z9)
        have hlow : ∀ j, j < k → ws_13[j]? = ws[j]? := fun j z9 => (gs12.2.1 j (by omega)).trans (hlow j z9)
        obtain ⟨es12, os12⟩ := gs12.2.2
        have hwl : ws_13.length = k + 51 + 2 * i + 2 := gs12.1
        have ps12_c : ∀ j, k + 51 + 2 * i + 0 ≤ j → j < k + 51 + 2 * i + 0 + 2 → ws_13[j]? = ws_13[j]? := fun _ _ _ => rfl
        have ps12_a : ∀ ad, x_ad ad ws_13 → x_ad ad ws_13 := fun _ z9 => z9
        obtain ⟨ad9, had9⟩ := x_ad.ex ws_13
        obtain ⟨fs9, hfo9⟩ := (ps12 ad9 had9).obj
        have eq9 : q_6 = ad9 (k + 51 + 2 * i + 0) := had9 _ _ os12
        rw [← eq9] at hfo9
        refine va_astq hx hb hK hP hD hS (k + 50) 2 (k + 51 + 2 * i + 0) 2 h_16 hCR hfo9 rfl (vp_in_nI (by omega) (by omega)) dN_init_75 (fun H locs hP hD hS => ?_)
        obtain ⟨ws_18, hu_17, hP, hD⟩ := x_gen h_16 hP hD
        have h_19 : ws_18[k + 50]? = some (q2, .inl (cR, 12, .inr (.inr (.inr (.inr (va_up fb ((nI i)).toNatClampNeg (some q_6))))))) := hu_17.1
        have h_20 := (hu_17.2 k (kn_ne (i := 0) (j := 50) (by decide))).trans h_14
        have h_21 := (hu_17.2 (k + 1) (kn_ne (i := 1) (j := 50) (by decide))).trans h_15
        have h_22 := (hu_17.2 (k + 51 + 2 * i + 0) (by omega)).trans hfo9
        have hwl := (x_upd.len h_16 hu_17).trans hwl
        have hqfa_c : ∀ j, k + 2 ≤ j → j < k + 50 → ws_18[j]? = ws1[j]? := fun j a9 b9 => (hu_17.2 j (by omega)).trans (hqfa_c j a9 b9)
        have hqfa_a : ∀ ad, x_ad ad ws_18 → x_ad ad ws1 := fun ad z9 => hqfa_a ad (x_ad.upd h_16 hu_17 z9)
        have hqfb_c : ∀ j, k + 51 ≤ j → j < k + 51 + 2 * i → ws_18[j]? = ws1[j]? := fun j a9 b9 => (hu_17.2 j (Nat.ne_of_gt (Nat.lt_of_lt_of_le (kn_lt (i := 50) (j := 51) (by decide)) a9))).trans (hqfb_c j a9 b9)
        have hqfb_a : ∀ ad, x_ad ad ws_18 → x_ad ad ws1 := fun ad z9 => hqfb_a ad (x_ad.upd h_16 hu_17 z9)
        have ps12_c : ∀ j, k + 51 + 2 * i + 0 ≤ j → j < k + 51 + 2 * i + 0 + 2 → ws_18[j]? = ws_13[j]? := fun j a9 b9 => (hu_17.2 j (by omega)).trans (ps12_c j a9 b9)
        have ps12_a : ∀ ad, x_ad ad ws_18 → x_ad ad ws_13 := fun ad z9 => ps12_a ad (x_ad.upd h_16 hu_17 z9)
        have hlow : ∀ j, j < k → ws_18[j]? = ws[j]? := fun j z9 => (hu_17.2 j (Nat.ne_of_lt (Nat.lt_of_lt_of_le z9 (Nat.le_add_right k 50)))).trans (hlow j z9)
        refine lv_iinc (v := (nI (i + 1))) (lv' := [(1, .int (nI (i + 1))), (0, .ref a)]) hx hb dN_init_76 hl (k := 1) rfl (nI_1 _) (by decide) rfl (fun ls hl => ?_)
        refine W.widen (k := 50 + 2 * (i + 1)) (n := 828 + 33 * (i + 1)) (by show 50 + 2 * i + 1 + 1 ≤ 50 + 2 * (i + 1); omega) (by show 828 + 33 * i + 3 + 30 ≤ 828 + 33 * (i + 1); omega) ?_
        refine lv_goto (tgt := 54) hx hb dN_init_79 (by decide) ?_
        exact ih q1 q2 fa _ (i + 1) ws_18 _ _ _ (by omega) (by rw [hwl]; omega) hlow h_20 h_21 h_19 (fun ad z9 j hj => by obtain ⟨y1, y2⟩ := hpifa ad (hqfa_a ad z9) j hj; exact ⟨y1, y2.cg (fun x h1 h2 => hqfa_c x (by omega) (by omega))⟩) (fun ad z9 j hj => by by_cases z8 : j = i; (subst z8; exact ⟨by show va_up fb (nI j).toNatClampNeg (some q_6) j = _; rw [nI_clamp (by omega), up_s, show q_6 = ad (k + 51 + 2 * j) from z9 _ _ h_22], (ps12 ad (ps12_a ad z9)).cg (fun x h1 h2 => ps12_c x (by omega) (by omega))⟩); (obtain ⟨y1, y2⟩ := hpifb ad (hqfb_a ad z9) j (by omega); exact ⟨by show va_up fb (nI i).toNatClampNeg (some q_6) j = _; rw [nI_clamp (by omega), up_o z8]; exact y1, y2.cg (fun x h1 h2 => hqfb_c x (by omega) (by omega))⟩)) (by omega) hP hD hS (lv_sub hl [1, 0] rfl)
  have loop_15 : ∀ (fu9 : Nat) (q1 : Nat) (fa : Nat → Option Nat) (i : Nat) (ws1 : va_W) (H : Heap) (locs : List Loc) (ls : Array Slot), i ≤ 24 → ws1.length = k + 2 + 2 * i + 0 → (∀ j, j < k → ws1[j]? = ws[j]?) → ws1[k]? = some (a, .inr (3, [.ref q1, .null, .int 0])) → ws1[k + 1]? = some (q1, .inl (cR, 24, .inr (.inr (.inr (.inr fa))))) → (∀ ad, x_ad ad ws1 → ∀ j, j < i → fa j = some (ad (k + 2 + 2 * j)) ∧ RowAt cI ad ws1 (k + 2 + 2 * j) []) → 24 - i < fu9 → va_P D xCl ws1 H → va_D A ws1 → va_S A s.heap H locs → lv_has ls 2 [(0, .ref a), (1, .int (nI i))] → W p l e ({ frames := 2, cells := 74, slots := 1224, locals := 180 }) s m args below meth c H locs (1 + 2 * i) (24 + 33 * i) (MQ below (va_Qv (fun ws1 => x_gr k 74 a ws ws1 ∧ ∀ ad, x_ad ad ws1 → RunnerAt cI cR ad ws1 k 0 (fun _ => []) (fun _ => [])) (x_B D xCl tys A) A) args s 74 1224 A) (F0 m 15 ls []) := by
    intro fu9
    induction fu9 with
    | zero => intro q1 fa i ws1 H locs ls hi hwl hlow hc0 hc1 hpifa hme; exact absurd hme (Nat.not_lt_zero _)
    | succ fu9 ih =>
      intro q1 fa i ws1 H locs ls hi hwl hlow hc0 hc1 hpifa hme hP hD hS hl
      have hqfa_c : ∀ j, k + 2 ≤ j → j < k + 2 + 2 * i → ws1[j]? = ws1[j]? := fun _ _ _ => rfl
      have hqfa_a : ∀ ad, x_ad ad ws1 → x_ad ad ws1 := fun _ z9 => z9
      refine lv_iload_n hx hb dN_init_15 rfl (lv_at hl 1 rfl) ?_
      refine lv_aload_n hx hb dN_init_16 rfl (lv_at hl 0 rfl) ?_
      refine va_get (D := D) (cl := xCl) (ci := 3) (v := .ref q1) (C := rnN) (T := tbN) (N := 3) hx hb hts inN hown hK hP k hc0 rfl 0 (by decide) (hts _ tw_136) (fun _ h9 => h9) rfl dN_init_17 ?_
      refine va_alen (v := 24) hx hb hK hP (k + 1) 2 hc1 hCR (by rfl) dN_init_20 ?_
      refine lv_icmp_ge (tgt := 43) hx hb dN_init_21 (by decide) (fun c21 => ?_) (fun c21 => ?_)
      · obtain rfl : i = 24 := by have c21 : nI 24 ≤ nI i := c21; rw [nI_leI (by omega) (by omega)] at c21; omega
        refine W.widen (k := 49) (n := 816) (by omega) (by omega) ?_
        have hwl : ws1.length = k + 50 := by rw [hwl]
        have hqfa_c : ∀ j, k + 2 ≤ j → j < k + 50 → ws1[j]? = ws1[j]? := fun _ _ _ => rfl
        have hqfa_a : ∀ ad, x_ad ad ws1 → x_ad ad ws1 := fun _ z9 => z9
        refine lv_aload_n hx hb dN_init_43 rfl (lv_at hl 0 rfl) ?_
        refine lv_bipush (v := 12) hx hb dN_init_44 (by decide) ?_
        refine va_newq hx hb hown (hts _ tw_119) hO9 hK hP hD hS hA (n := 12) (N' := 12) (by decide) (by decide) (by decide) (by decide) (by decide) dN_init_46 (fun q_23 cA9 H hK9 hP hD hS => ?_)
        rw [x_cr hCR hK hK9] at hP hD
        obtain ⟨ws_24, a_25l, a_25o, a_25n, hP, hD⟩ := x_app hP hD
        rw [hwl] at a_25l a_25n
        have h_26 := (a_25o k (by rw [hwl]; exact kn_lt (i := 0) (j := 50) (by decide))).trans hc0
        have h_27 := (a_25o (k + 1) (by rw [hwl]; exact kn_lt (i := 1) (j := 50) (by decide))).trans hc1
        have hqfa_c : ∀ j, k + 2 ≤ j → j < k + 50 → ws_24[j]? = ws1[j]? := fun j a9 b9 => (a_25o j (by rw [hwl]; exact Nat.lt_of_lt_of_le b9 (Nat.add_le_add_left (by decide : 50 ≤ 50) k))).trans (hqfa_c j a9 b9)
        have hqfa_a : ∀ ad, x_ad ad ws_24 → x_ad ad ws1 := fun ad z9 => hqfa_a ad (x_ad.app a_25o z9)
        have hlow : ∀ j, j < k → ws_24[j]? = ws[j]? := fun j z9 => (a_25o j (by rw [hwl]; exact Nat.lt_of_lt_of_le z9 (Nat.le_add_right k _))).trans (hlow j z9)
        have hwl : ws_24.length = k + 51 := a_25l
        refine va_putF (D := D) (cl := xCl) (ci := 3) (v := .ref q_23) (ty := .array (.object "GraphQuery$Row")) (C := rnN) (T := tbN) (N := 3) hx hb hts inN tyN toN nmN hown hK hP hD hS k h_26 rfl 1 (by decide) (hts _ tw_137) (fun _ h9 => h9) rfl hnm rfl (by decide +kernel) rfl rfl (Nat.le_of_ble_eq_true rfl) dN_init_49 (fun H locs hP hD hS => ?_)
        obtain ⟨ws_29, hu_28, hP, hD⟩ := x_gen h_26 hP hD
        have h_30 : ws_29[k]? = some (a, .inr (3, [.ref q1, .ref q_23, .int 0])) := hu_28.1
        have h_31 := (hu_28.2 (k + 1) (kn_ne (i := 1) (j := 0) (by decide))).trans h_27
        have h_32 := (hu_28.2 (k + 50) (kn_ne (i := 50) (j := 0) (by decide))).trans a_25n
        have hwl := (x_upd.len h_26 hu_28).trans hwl
        have hqfa_c : ∀ j, k + 2 ≤ j → j < k + 50 → ws_29[j]? = ws1[j]? := fun j a9 b9 => (hu_28.2 j (Nat.ne_of_gt (Nat.lt_of_lt_of_le (kn_lt (i := 0) (j := 2) (by decide)) a9))).trans (hqfa_c j a9 b9)
        have hqfa_a : ∀ ad, x_ad ad ws_29 → x_ad ad ws1 := fun ad z9 => hqfa_a ad (x_ad.upd h_26 hu_28 z9)
        have hlow : ∀ j, j < k → ws_29[j]? = ws[j]? := fun j z9 => (hu_28.2 j (Nat.ne_of_lt (Nat.lt_of_lt_of_le z9 (Nat.le_add_right k 0)))).trans (hlow j z9)
        refine lv_iconst (v := 0) hx hb dN_init_52 (by decide) ?_
        refine lv_istore_n (lv' := [(1, .int 0), (0, .ref a)]) hx hb dN_init_53 rfl hl (by decide) rfl (fun ls hl => ?_)
        exact loop_54 _ q1 q_23 fa _ 0 ws_29 _ _ _ (Nat.zero_le _) hwl hlow h_30 h_31 h_32 (fun ad z9 j hj => by obtain ⟨y1, y2⟩ := hpifa ad (hqfa_a ad z9) j hj; exact ⟨y1, y2.cg (fun x h1 h2 => hqfa_c x (by omega) (by omega))⟩) (fun ad z9 j hj => absurd hj (Nat.not_lt_zero _)) (Nat.lt_succ_self _) hP hD hS (lv_sub hl [1, 0] rfl)
      · have hi2 : i < 24 := by have c21 : ¬ nI 24 ≤ nI i := c21; rw [nI_leI (by omega) (by omega)] at c21; omega
        refine lv_aload_n hx hb dN_init_24 rfl (lv_at hl 0 rfl) ?_
        refine va_get (D := D) (cl := xCl) (ci := 3) (v := .ref q1) (C := rnN) (T := tbN) (N := 3) hx hb hts inN hown hK hP k hc0 rfl 0 (by decide) (hts _ tw_136) (fun _ h9 => h9) rfl dN_init_25 ?_
        refine lv_iload_n hx hb dN_init_28 rfl (lv_at hl 1 rfl) ?_
        refine va_new (ci := 2) (fs := [.null, .int 0, .int 0]) (C := rnR) (T := tbR) (N := 3) hx hb hts inR tyR toR hown (hts _ tw_119) (hts _ tw_121) (hts _ tw_7) hK hP hD hS hA rfl (fun j hj => by match j, hj with | 0, _ => rfl | 1, _ => rfl | 2, _ => rfl | n + 3, h => exact absurd h (by omega)) (show 1 + 2 * i + 1 ≤ 74 by omega) (show 24 + 33 * i + 3 ≤ 1224 by omega) dN_init_29 (fun q_33 H hP hD hS => ?_)
        obtain ⟨ws_34, a_35l, a_35o, a_35n, hP, hD⟩ := x_app hP hD
        rw [hwl] at a_35l a_35n
        have h_36 := (a_35o k (by rw [hwl]; omega)).trans hc0
        have h_37 := (a_35o (k + 1) (by rw [hwl]; omega)).trans hc1
        have hqfa_c : ∀ j, k + 2 ≤ j → j < k + 2 + 2 * i → ws_34[j]? = ws1[j]? := fun j a9 b9 => (a_35o j (by rw [hwl]; omega)).trans (hqfa_c j a9 b9)
        have hqfa_a : ∀ ad, x_ad ad ws_34 → x_ad ad ws1 := fun ad z9 => hqfa_a ad (x_ad.app a_35o z9)
        have hlow : ∀ j, j < k → ws_34[j]? = ws[j]? := fun j z9 => (a_35o j (by rw [hwl]; omega)).trans (hlow j z9)
        have hwl : ws_34.length = k + 2 + 2 * i + 1 := a_35l
        refine lv_dup hx hb dN_init_32 rfl ?_
        refine x_callv (x_runI (n := 0) (As := []) (rest := [.ref q_33, .int (nI i), .ref q1]) ⟨hx, hb, hml, hown, hts⟩ (cR_init l D tys A ws_34 cI hI (k + 2 + 2 * i + 0) q_33 a_35n hwl) tw_122 tw_123 tw_7 tw_124 rfl (by decide +kernel) rfl rfl ⟨by decide, by decide⟩ ⟨show 1 + 2 * i + 1 + 1 ≤ 74 by omega, show 24 + 33 * i + 3 + 30 ≤ 1224 by omega⟩ hK hP hD hS hA hN rfl hl.1 rfl (lv_room (Nat.le_of_ble_eq_true rfl)) dN_init_33) hS (fun ws_39 H locs hws38 hP hD hS => ?_)
        obtain ⟨gs38, ps38⟩ := hws38
        have h_40 := (gs38.2.1 k (by omega)).trans h_36
        have h_41 := (gs38.2.1 (k + 1) (by omega)).trans h_37
        have hqfa_c : ∀ j, k + 2 ≤ j → j < k + 2 + 2 * i → ws_39[j]? = ws1[j]? := fun j a9 b9 => (gs38.2.1 j (by omega)).trans (hqfa_c j a9 b9)
        have hqfa_a : ∀ ad, x_ad ad ws_39 → x_ad ad ws1 := fun ad z9 => hqfa_a ad (x_ad.gr a_35n hwl gs38 z9)
        have hlow : ∀ j, j < k → ws_39[j]? = ws[j]? := fun j z9 => (gs38.2.1 j (by omega)).trans (hlow j z9)
        obtain ⟨es38, os38⟩ := gs38.2.2
        have hwl : ws_39.length = k + 2 + 2 * i + 2 := gs38.1
        have ps38_c : ∀ j, k + 2 + 2 * i + 0 ≤ j → j < k + 2 + 2 * i + 0 + 2 → ws_39[j]? = ws_39[j]? := fun _ _ _ => rfl
        have ps38_a : ∀ ad, x_ad ad ws_39 → x_ad ad ws_39 := fun _ z9 => z9
        obtain ⟨ad9, had9⟩ := x_ad.ex ws_39
        obtain ⟨fs9, hfo9⟩ := (ps38 ad9 had9).obj
        have eq9 : q_33 = ad9 (k + 2 + 2 * i + 0) := had9 _ _ os38
        rw [← eq9] at hfo9
        refine va_astq hx hb hK hP hD hS (k + 1) 2 (k + 2 + 2 * i + 0) 2 h_41 hCR hfo9 rfl (vp_in_nI (by omega) (by omega)) dN_init_36 (fun H locs hP hD hS => ?_)
        obtain ⟨ws_43, hu_42, hP, hD⟩ := x_gen h_41 hP hD
        have h_44 : ws_43[k + 1]? = some (q1, .inl (cR, 24, .inr (.inr (.inr (.inr (va_up fa ((nI i)).toNatClampNeg (some q_33))))))) := hu_42.1
        have h_45 := (hu_42.2 k (kn_ne (i := 0) (j := 1) (by decide))).trans h_40
        have h_46 := (hu_42.2 (k + 2 + 2 * i + 0) (by omega)).trans hfo9
        have hwl := (x_upd.len h_41 hu_42).trans hwl
        have hqfa_c : ∀ j, k + 2 ≤ j → j < k + 2 + 2 * i → ws_43[j]? = ws1[j]? := fun j a9 b9 => (hu_42.2 j (Nat.ne_of_gt (Nat.lt_of_lt_of_le (kn_lt (i := 1) (j := 2) (by decide)) a9))).trans (hqfa_c j a9 b9)
        have hqfa_a : ∀ ad, x_ad ad ws_43 → x_ad ad ws1 := fun ad z9 => hqfa_a ad (x_ad.upd h_41 hu_42 z9)
        have ps38_c : ∀ j, k + 2 + 2 * i + 0 ≤ j → j < k + 2 + 2 * i + 0 + 2 → ws_43[j]? = ws_39[j]? := fun j a9 b9 => (hu_42.2 j (by omega)).trans (ps38_c j a9 b9)
        have ps38_a : ∀ ad, x_ad ad ws_43 → x_ad ad ws_39 := fun ad z9 => ps38_a ad (x_ad.upd h_41 hu_42 z9)
        have hlow : ∀ j, j < k → ws_43[j]? = ws[j]? := fun j z9 => (hu_42.2 j (Nat.ne_of_lt (Nat.lt_of_lt_of_le z9 (Nat.le_add_right k 1)))).trans (hlow j z9)
        refine lv_iinc (v := (nI (i + 1))) (lv' := [(1, .int (nI (i + 1))), (0, .ref a)]) hx hb dN_init_37 hl (k := 1) rfl (nI_1 _) (by decide) rfl (fun ls hl => ?_)
        refine W.widen (k := 1 + 2 * (i + 1)) (n := 24 + 33 * (i + 1)) (by show 1 + 2 * i + 1 + 1 ≤ 1 + 2 * (i + 1); omega) (by show 24 + 33 * i + 3 + 30 ≤ 24 + 33 * (i + 1); omega) ?_
        refine lv_goto (tgt := 15) hx hb dN_init_40 (by decide) ?_
        exact ih q1 _ (i + 1) ws_43 _ _ _ (by omega) (by rw [hwl]; omega) hlow h_45 h_44 (fun ad z9 j hj => by by_cases z8 : j = i; (subst z8; exact ⟨by show va_up fa (nI j).toNatClampNeg (some q_33) j = _; rw [nI_clamp (by omega), up_s, show q_33 = ad (k + 2 + 2 * j) from z9 _ _ h_46], (ps38 ad (ps38_a ad z9)).cg (fun x h1 h2 => ps38_c x (by omega) (by omega))⟩); (obtain ⟨y1, y2⟩ := hpifa ad (hqfa_a ad z9) j (by omega); exact ⟨by show va_up fa (nI i).toNatClampNeg (some q_33) j = _; rw [nI_clamp (by omega), up_o z8]; exact y1, y2.cg (fun x h1 h2 => hqfa_c x (by omega) (by omega))⟩)) (by omega) hP hD hS (lv_sub hl [1, 0] rfl)
  refine lv_aload_n hx hb dN_init_0 rfl (lv_at hl 0 rfl) ?_
  refine W.objInit hx hb hown (hts _ tw_118) (hts _ tw_21) (hts _ tw_22) rfl (by rw [hml]; exact hl.1) rfl dN_init_1 (Nat.le_of_ble_eq_true rfl) (Nat.le_of_ble_eq_true rfl) ?_
  refine W.eq (g2 := F0 m 4 ls []) rfl ?_
  refine lv_aload_n hx hb dN_init_4 rfl (lv_at hl 0 rfl) ?_
  refine lv_bipush (v := 24) hx hb dN_init_5 (by decide) ?_
  refine va_newq hx hb hown (hts _ tw_119) hO9 hK hP hD hS hA (n := 24) (N' := 24) (by decide) (by decide) (by decide) (by decide) (by decide) dN_init_7 (fun q_47 cA9 H hK9 hP hD hS => ?_)
  rw [x_cr hCR hK hK9] at hP hD
  obtain ⟨ws_48, a_49l, a_49o, a_49n, hP, hD⟩ := x_app hP hD
  rw [hwl] at a_49l a_49n
  have h_50 := (a_49o k (by rw [hwl]; exact kn_lt (i := 0) (j := 1) (by decide))).trans hk0
  have hlow : ∀ j, j < k → ws_48[j]? = ws[j]? := fun j z9 => (a_49o j (by rw [hwl]; exact Nat.lt_of_lt_of_le z9 (Nat.le_add_right k _))).trans (hlow j z9)
  have hwl : ws_48.length = k + 2 := a_49l
  refine va_putF (D := D) (cl := xCl) (ci := 3) (v := .ref q_47) (ty := .array (.object "GraphQuery$Row")) (C := rnN) (T := tbN) (N := 3) hx hb hts inN tyN toN nmN hown hK hP hD hS k h_50 rfl 0 (by decide) (hts _ tw_136) (fun _ h9 => h9) rfl hnm rfl (by decide +kernel) rfl rfl (Nat.le_of_ble_eq_true rfl) dN_init_10 (fun H locs hP hD hS => ?_)
  obtain ⟨ws_52, hu_51, hP, hD⟩ := x_gen h_50 hP hD
  have h_53 : ws_52[k]? = some (a, .inr (3, [.ref q_47, .null, .int 0])) := hu_51.1
  have h_54 := (hu_51.2 (k + 1) (kn_ne (i := 1) (j := 0) (by decide))).trans a_49n
  have hwl := (x_upd.len h_50 hu_51).trans hwl
  have hlow : ∀ j, j < k → ws_52[j]? = ws[j]? := fun j z9 => (hu_51.2 j (Nat.ne_of_lt (Nat.lt_of_lt_of_le z9 (Nat.le_add_right k 0)))).trans (hlow j z9)
  refine lv_iconst (v := 0) hx hb dN_init_13 (by decide) ?_
  refine lv_istore_n (lv' := [(1, .int 0), (0, .ref a)]) hx hb dN_init_14 rfl hl (by decide) rfl (fun ls hl => ?_)
  exact loop_15 _ q_47 _ 0 ws_52 _ _ _ (Nat.zero_le _) hwl hlow h_53 h_54 (fun ad z9 j hj => absurd hj (Nat.not_lt_zero _)) (Nat.lt_succ_self _) hP hD hS (lv_sub hl [1, 0] rfl)

set_option maxHeartbeats 4000000 in
set_option maxRecDepth 100000 in
theorem cQ_init (l : Launch) (D : va_G) (tys : List (ClassId × FieldType)) (A : Nat → Prop) (ws : va_W) (cI : ClassId) (hI : tys[0]? = some (cI, .int)) (cC : ClassId) (hC : tys[1]? = some (cC, .char)) (cR : ClassId) (hCR : tys[2]? = some (cR, .object "GraphQuery$Row")) (k a : Nat) (hk0 : ws[k]? = some (a, .inr (6, [.null, .null, .null, .null, .null, .int 0, .int 0]))) (hwl : ws.length = k + 1) : x_Mov l yQ_init wQ_init ({ frames := 3, cells := 98, slots := 2356, locals := 240 }) D xCl tys A [.ref a] ws (fun ws1 => x_gr k 98 a ws ws1 ∧ ∀ ad, x_ad ad ws1 → QAt cI cC cR ad ws1 k ([], [], [], 0, -1)) := by
  have hlow : ∀ j, j < k → ws[j]? = ws[j]? := fun _ _ => rfl
  refine x_entero (by decide) rfl (Nat.le_of_ble_eq_true rfl) (fun p e s m args below meth c ls hx hb hr hlk hml hown hnm hts hK hP hD hS hA hN hO9 hl => ?_)
  have hl : lv_has ls 1 [(0, .ref a)] := hl
  refine lv_aload_n hx hb dQ_init_0 rfl (lv_at hl 0 rfl) ?_
  refine W.objInit hx hb hown (hts _ tw_20) (hts _ tw_21) (hts _ tw_22) rfl (by rw [hml]; exact hl.1) rfl dQ_init_1 (Nat.le_of_ble_eq_true rfl) (Nat.le_of_ble_eq_true rfl) ?_
  refine W.eq (g2 := F0 m 4 ls []) rfl ?_
  refine lv_aload_n hx hb dQ_init_4 rfl (lv_at hl 0 rfl) ?_
  refine va_new (ci := 0) (fs := [.null, .null, .null, .null, .null, .null, .null, .null, .int 0]) (C := rnG) (T := tbG) (N := 9) hx hb hts inG tyG toG hown (hts _ tw_23) (hts _ tw_24) (hts _ tw_2) hK hP hD hS hA rfl (fun j hj => by match j, hj with | 0, _ => rfl | 1, _ => rfl | 2, _ => rfl | 3, _ => rfl | 4, _ => rfl | 5, _ => rfl | 6, _ => rfl | 7, _ => rfl | 8, _ => rfl | n + 9, h => exact absurd h (by omega)) (by decide) (by decide) dQ_init_5 (fun q_1 H hP hD hS => ?_)
  obtain ⟨ws_2, a_3l, a_3o, a_3n, hP, hD⟩ := x_app hP hD
  rw [hwl] at a_3l a_3n
  have h_4 := (a_3o k (by rw [hwl]; exact kn_lt (i := 0) (j := 1) (by decide))).trans hk0
  have hlow : ∀ j, j < k → ws_2[j]? = ws[j]? := fun j z9 => (a_3o j (by rw [hwl]; exact Nat.lt_of_lt_of_le z9 (Nat.le_add_right k _))).trans (hlow j z9)
  have hwl : ws_2.length = k + 2 := a_3l
  refine lv_dup hx hb dQ_init_8 rfl ?_
  refine x_callv (x_runI (n := 0) (As := []) (rest := [.ref q_1, .ref a]) ⟨hx, hb, hml, hown, hts⟩ (cG_init l D tys A ws_2 cI hI (k + 1) q_1 a_3n hwl) tw_25 tw_26 tw_2 tw_27 rfl (by decide +kernel) rfl rfl ⟨by decide, by decide⟩ ⟨by decide, by decide⟩ hK hP hD hS hA hN rfl hl.1 rfl (lv_room (Nat.le_of_ble_eq_true rfl)) dQ_init_9) hS (fun ws_6 H locs hws5 hP hD hS => ?_)
  obtain ⟨gs5, ps5⟩ := hws5
  have h_7 := (gs5.2.1 k (by exact kn_lt (i := 0) (j := 1) (by decide))).trans h_4
  have hlow : ∀ j, j < k → ws_6[j]? = ws[j]? := fun j z9 => (gs5.2.1 j (by exact Nat.lt_of_lt_of_le z9 (Nat.le_add_right k _))).trans (hlow j z9)
  obtain ⟨es5, os5⟩ := gs5.2.2
  have hwl : ws_6.length = k + 10 := gs5.1
  have ps5_c : ∀ j, k + 1 ≤ j → j < k + 10 → ws_6[j]? = ws_6[j]? := fun _ _ _ => rfl
  have ps5_a : ∀ ad, x_ad ad ws_6 → x_ad ad ws_6 := fun _ z9 => z9
  refine va_putF (D := D) (cl := xCl) (ci := 6) (v := .ref q_1) (ty := .object "GraphQuery$Graph") (C := rnQ) (T := tbQ) (N := 7) hx hb hts inQ tyQ toQ nmQ hown hK hP hD hS k h_7 rfl 0 (by decide) (hts _ tw_148) (fun _ h9 => h9) rfl hnm rfl (by decide +kernel) rfl rfl (Nat.le_of_ble_eq_true rfl) dQ_init_12 (fun H locs hP hD hS => ?_)
  obtain ⟨ws_9, hu_8, hP, hD⟩ := x_gen h_7 hP hD
  have h_10 : ws_9[k]? = some (a, .inr (6, [.ref q_1, .null, .null, .null, .null, .int 0, .int 0])) := hu_8.1
  have h_11 := (hu_8.2 (k + 1) (kn_ne (i := 1) (j := 0) (by decide))).trans os5
  have hwl := (x_upd.len h_7 hu_8).trans hwl
  have ps5_c : ∀ j, k + 1 ≤ j → j < k + 10 → ws_9[j]? = ws_6[j]? := fun j a9 b9 => (hu_8.2 j (Nat.ne_of_gt (Nat.lt_of_lt_of_le (kn_lt (i := 0) (j := 1) (by decide)) a9))).trans (ps5_c j a9 b9)
  have ps5_a : ∀ ad, x_ad ad ws_9 → x_ad ad ws_6 := fun ad z9 => ps5_a ad (x_ad.upd h_7 hu_8 z9)
  have hlow : ∀ j, j < k → ws_9[j]? = ws[j]? := fun j z9 => (hu_8.2 j (Nat.ne_of_lt (Nat.lt_of_lt_of_le z9 (Nat.le_add_right k 0)))).trans (hlow j z9)
  refine lv_aload_n hx hb dQ_init_15 rfl (lv_at hl 0 rfl) ?_
  refine va_new (ci := 5) (fs := [.null, .int 0]) (C := rnX) (T := tbX) (N := 2) hx hb hts inX tyX toX hown (hts _ tw_58) (hts _ tw_59) (hts _ tw_3) hK hP hD hS hA rfl (fun j hj => by match j, hj with | 0, _ => rfl | 1, _ => rfl | n + 2, h => exact absurd h (by omega)) (by decide) (by decide) dQ_init_16 (fun q_12 H hP hD hS => ?_)
  obtain ⟨ws_13, a_14l, a_14o, a_14n, hP, hD⟩ := x_app hP hD
  rw [hwl] at a_14l a_14n
  have h_15 := (a_14o k (by rw [hwl]; exact kn_lt (i := 0) (j := 10) (by decide))).trans h_10
  have h_16 := (a_14o (k + 1) (by rw [hwl]; exact kn_lt (i := 1) (j := 10) (by decide))).trans h_11
  have ps5_c : ∀ j, k + 1 ≤ j → j < k + 10 → ws_13[j]? = ws_6[j]? := fun j a9 b9 => (a_14o j (by rw [hwl]; exact Nat.lt_of_lt_of_le b9 (Nat.add_le_add_left (by decide : 10 ≤ 10) k))).trans (ps5_c j a9 b9)
  have ps5_a : ∀ ad, x_ad ad ws_13 → x_ad ad ws_6 := fun ad z9 => ps5_a ad (x_ad.app a_14o z9)
  have hlow : ∀ j, j < k → ws_13[j]? = ws[j]? := fun j z9 => (a_14o j (by rw [hwl]; exact Nat.lt_of_lt_of_le z9 (Nat.le_add_right k _))).trans (hlow j z9)
  have hwl : ws_13.length = k + 11 := a_14l
  refine lv_dup hx hb dQ_init_19 rfl ?_
  refine x_callv (x_runI (n := 0) (As := []) (rest := [.ref q_12, .ref a]) ⟨hx, hb, hml, hown, hts⟩ (cX_init l D tys A ws_13 cI hI cC hC (k + 10) q_12 a_14n hwl) tw_60 tw_61 tw_3 tw_62 rfl (by decide +kernel) rfl rfl ⟨by decide, by decide⟩ ⟨by decide, by decide⟩ hK hP hD hS hA hN rfl hl.1 rfl (lv_room (Nat.le_of_ble_eq_true rfl)) dQ_init_20) hS (fun ws_18 H locs hws17 hP hD hS => ?_)
  obtain ⟨gs17, ps17⟩ := hws17
  have h_19 := (gs17.2.1 k (by exact kn_lt (i := 0) (j := 10) (by decide))).trans h_15
  have h_20 := (gs17.2.1 (k + 1) (by exact kn_lt (i := 1) (j := 10) (by decide))).trans h_16
  have ps5_c : ∀ j, k + 1 ≤ j → j < k + 10 → ws_18[j]? = ws_6[j]? := fun j a9 b9 => (gs17.2.1 j (by exact Nat.lt_of_lt_of_le b9 (Nat.add_le_add_left (by decide : 10 ≤ 10) k))).trans (ps5_c j a9 b9)
  have ps5_a : ∀ ad, x_ad ad ws_18 → x_ad ad ws_6 := fun ad z9 => ps5_a ad (x_ad.gr a_14n hwl gs17 z9)
  have hlow : ∀ j, j < k → ws_18[j]? = ws[j]? := fun j z9 => (gs17.2.1 j (by exact Nat.lt_of_lt_of_le z9 (Nat.le_add_right k _))).trans (hlow j z9)
  obtain ⟨es17, os17⟩ := gs17.2.2
  have hwl : ws_18.length = k + 12 := gs17.1
  have ps17_c : ∀ j, k + 10 ≤ j → j < k + 12 → ws_18[j]? = ws_18[j]? := fun _ _ _ => rfl
  have ps17_a : ∀ ad, x_ad ad ws_18 → x_ad ad ws_18 := fun _ z9 => z9
  refine va_putF (D := D) (cl := xCl) (ci := 6) (v := .ref q_12) (ty := .object "GraphQuery$Text") (C := rnQ) (T := tbQ) (N := 7) hx hb hts inQ tyQ toQ nmQ hown hK hP hD hS k h_19 rfl 1 (by decide) (hts _ tw_149) (fun _ h9 => h9) rfl hnm rfl (by decide +kernel) rfl rfl (Nat.le_of_ble_eq_true rfl) dQ_init_23 (fun H locs hP hD hS => ?_)
  obtain ⟨ws_22, hu_21, hP, hD⟩ := x_gen h_19 hP hD
  have h_23 : ws_22[k]? = some (a, .inr (6, [.ref q_1, .ref q_12, .null, .null, .null, .int 0, .int 0])) := hu_21.1
  have h_24 := (hu_21.2 (k + 1) (kn_ne (i := 1) (j := 0) (by decide))).trans h_20
  have h_25 := (hu_21.2 (k + 10) (kn_ne (i := 10) (j := 0) (by decide))).trans os17
  have hwl := (x_upd.len h_19 hu_21).trans hwl
  have ps5_c : ∀ j, k + 1 ≤ j → j < k + 10 → ws_22[j]? = ws_6[j]? := fun j a9 b9 => (hu_21.2 j (Nat.ne_of_gt (Nat.lt_of_lt_of_le (kn_lt (i := 0) (j := 1) (by decide)) a9))).trans (ps5_c j a9 b9)
  have ps5_a : ∀ ad, x_ad ad ws_22 → x_ad ad ws_6 := fun ad z9 => ps5_a ad (x_ad.upd h_19 hu_21 z9)
  have ps17_c : ∀ j, k + 10 ≤ j → j < k + 12 → ws_22[j]? = ws_18[j]? := fun j a9 b9 => (hu_21.2 j (Nat.ne_of_gt (Nat.lt_of_lt_of_le (kn_lt (i := 0) (j := 10) (by decide)) a9))).trans (ps17_c j a9 b9)
  have ps17_a : ∀ ad, x_ad ad ws_22 → x_ad ad ws_18 := fun ad z9 => ps17_a ad (x_ad.upd h_19 hu_21 z9)
  have hlow : ∀ j, j < k → ws_22[j]? = ws[j]? := fun j z9 => (hu_21.2 j (Nat.ne_of_lt (Nat.lt_of_lt_of_le z9 (Nat.le_add_right k 0)))).trans (hlow j z9)
  refine lv_aload_n hx hb dQ_init_26 rfl (lv_at hl 0 rfl) ?_
  refine va_new (ci := 1) (fs := [.null, .null, .null, .int 0, .int 0]) (C := rnP) (T := tbP) (N := 5) hx hb hts inP tyP toP hown (hts _ tw_72) (hts _ tw_73) (hts _ tw_4) hK hP hD hS hA rfl (fun j hj => by match j, hj with | 0, _ => rfl | 1, _ => rfl | 2, _ => rfl | 3, _ => rfl | 4, _ => rfl | n + 5, h => exact absurd h (by omega)) (by decide) (by decide) dQ_init_27 (fun q_26 H hP hD hS => ?_)
  obtain ⟨ws_27, a_28l, a_28o, a_28n, hP, hD⟩ := x_app hP hD
  rw [hwl] at a_28l a_28n
  have h_29 := (a_28o k (by rw [hwl]; exact kn_lt (i := 0) (j := 12) (by decide))).trans h_23
  have h_30 := (a_28o (k + 1) (by rw [hwl]; exact kn_lt (i := 1) (j := 12) (by decide))).trans h_24
  have h_31 := (a_28o (k + 10) (by rw [hwl]; exact kn_lt (i := 10) (j := 12) (by decide))).trans h_25
  have ps5_c : ∀ j, k + 1 ≤ j → j < k + 10 → ws_27[j]? = ws_6[j]? := fun j a9 b9 => (a_28o j (by rw [hwl]; exact Nat.lt_of_lt_of_le b9 (Nat.add_le_add_left (by decide : 10 ≤ 12) k))).trans (ps5_c j a9 b9)
  have ps5_a : ∀ ad, x_ad ad ws_27 → x_ad ad ws_6 := fun ad z9 => ps5_a ad (x_ad.app a_28o z9)
  have ps17_c : ∀ j, k + 10 ≤ j → j < k + 12 → ws_27[j]? = ws_18[j]? := fun j a9 b9 => (a_28o j (by rw [hwl]; exact Nat.lt_of_lt_of_le b9 (Nat.add_le_add_left (by decide : 12 ≤ 12) k))).trans (ps17_c j a9 b9)
  have ps17_a : ∀ ad, x_ad ad ws_27 → x_ad ad ws_18 := fun ad z9 => ps17_a ad (x_ad.app a_28o z9)
  have hlow : ∀ j, j < k → ws_27[j]? = ws[j]? := fun j z9 => (a_28o j (by rw [hwl]; exact Nat.lt_of_lt_of_le z9 (Nat.le_add_right k _))).trans (hlow j z9)
  have hwl : ws_27.length = k + 13 := a_28l
  refine lv_dup hx hb dQ_init_30 rfl ?_
  refine x_callv (x_runI (n := 0) (As := []) (rest := [.ref q_26, .ref a]) ⟨hx, hb, hml, hown, hts⟩ (cP_init l D tys A ws_27 cI hI (k + 12) q_26 a_28n hwl) tw_74 tw_75 tw_4 tw_76 rfl (by decide +kernel) rfl rfl ⟨by decide, by decide⟩ ⟨by decide, by decide⟩ hK hP hD hS hA hN rfl hl.1 rfl (lv_room (Nat.le_of_ble_eq_true rfl)) dQ_init_31) hS (fun ws_33 H locs hws32 hP hD hS => ?_)
  obtain ⟨gs32, ps32⟩ := hws32
  have h_34 := (gs32.2.1 k (by exact kn_lt (i := 0) (j := 12) (by decide))).trans h_29
  have h_35 := (gs32.2.1 (k + 1) (by exact kn_lt (i := 1) (j := 12) (by decide))).trans h_30
  have h_36 := (gs32.2.1 (k + 10) (by exact kn_lt (i := 10) (j := 12) (by decide))).trans h_31
  have ps5_c : ∀ j, k + 1 ≤ j → j < k + 10 → ws_33[j]? = ws_6[j]? := fun j a9 b9 => (gs32.2.1 j (by exact Nat.lt_of_lt_of_le b9 (Nat.add_le_add_left (by decide : 10 ≤ 12) k))).trans (ps5_c j a9 b9)
  have ps5_a : ∀ ad, x_ad ad ws_33 → x_ad ad ws_6 := fun ad z9 => ps5_a ad (x_ad.gr a_28n hwl gs32 z9)
  have ps17_c : ∀ j, k + 10 ≤ j → j < k + 12 → ws_33[j]? = ws_18[j]? := fun j a9 b9 => (gs32.2.1 j (by exact Nat.lt_of_lt_of_le b9 (Nat.add_le_add_left (by decide : 12 ≤ 12) k))).trans (ps17_c j a9 b9)
  have ps17_a : ∀ ad, x_ad ad ws_33 → x_ad ad ws_18 := fun ad z9 => ps17_a ad (x_ad.gr a_28n hwl gs32 z9)
  have hlow : ∀ j, j < k → ws_33[j]? = ws[j]? := fun j z9 => (gs32.2.1 j (by exact Nat.lt_of_lt_of_le z9 (Nat.le_add_right k _))).trans (hlow j z9)
  obtain ⟨es32, os32⟩ := gs32.2.2
  have hwl : ws_33.length = k + 22 := gs32.1
  have ps32_c : ∀ j, k + 12 ≤ j → j < k + 22 → ws_33[j]? = ws_33[j]? := fun _ _ _ => rfl
  have ps32_a : ∀ ad, x_ad ad ws_33 → x_ad ad ws_33 := fun _ z9 => z9
  refine va_putF (D := D) (cl := xCl) (ci := 6) (v := .ref q_26) (ty := .object "GraphQuery$Parser") (C := rnQ) (T := tbQ) (N := 7) hx hb hts inQ tyQ toQ nmQ hown hK hP hD hS k h_34 rfl 2 (by decide) (hts _ tw_150) (fun _ h9 => h9) rfl hnm rfl (by decide +kernel) rfl rfl (Nat.le_of_ble_eq_true rfl) dQ_init_34 (fun H locs hP hD hS => ?_)
  obtain ⟨ws_38, hu_37, hP, hD⟩ := x_gen h_34 hP hD
  have h_39 : ws_38[k]? = some (a, .inr (6, [.ref q_1, .ref q_12, .ref q_26, .null, .null, .int 0, .int 0])) := hu_37.1
  have h_40 := (hu_37.2 (k + 1) (kn_ne (i := 1) (j := 0) (by decide))).trans h_35
  have h_41 := (hu_37.2 (k + 10) (kn_ne (i := 10) (j := 0) (by decide))).trans h_36
  have h_42 := (hu_37.2 (k + 12) (kn_ne (i := 12) (j := 0) (by decide))).trans os32
  have hwl := (x_upd.len h_34 hu_37).trans hwl
  have ps5_c : ∀ j, k + 1 ≤ j → j < k + 10 → ws_38[j]? = ws_6[j]? := fun j a9 b9 => (hu_37.2 j (Nat.ne_of_gt (Nat.lt_of_lt_of_le (kn_lt (i := 0) (j := 1) (by decide)) a9))).trans (ps5_c j a9 b9)
  have ps5_a : ∀ ad, x_ad ad ws_38 → x_ad ad ws_6 := fun ad z9 => ps5_a ad (x_ad.upd h_34 hu_37 z9)
  have ps17_c : ∀ j, k + 10 ≤ j → j < k + 12 → ws_38[j]? = ws_18[j]? := fun j a9 b9 => (hu_37.2 j (Nat.ne_of_gt (Nat.lt_of_lt_of_le (kn_lt (i := 0) (j := 10) (by decide)) a9))).trans (ps17_c j a9 b9)
  have ps17_a : ∀ ad, x_ad ad ws_38 → x_ad ad ws_18 := fun ad z9 => ps17_a ad (x_ad.upd h_34 hu_37 z9)
  have ps32_c : ∀ j, k + 12 ≤ j → j < k + 22 → ws_38[j]? = ws_33[j]? := fun j a9 b9 => (hu_37.2 j (Nat.ne_of_gt (Nat.lt_of_lt_of_le (kn_lt (i := 0) (j := 12) (by decide)) a9))).trans (ps32_c j a9 b9)
  have ps32_a : ∀ ad, x_ad ad ws_38 → x_ad ad ws_33 := fun ad z9 => ps32_a ad (x_ad.upd h_34 hu_37 z9)
  have hlow : ∀ j, j < k → ws_38[j]? = ws[j]? := fun j z9 => (hu_37.2 j (Nat.ne_of_lt (Nat.lt_of_lt_of_le z9 (Nat.le_add_right k 0)))).trans (hlow j z9)
  refine lv_aload_n hx hb dQ_init_37 rfl (lv_at hl 0 rfl) ?_
  refine va_new (ci := 3) (fs := [.null, .null, .int 0]) (C := rnN) (T := tbN) (N := 3) hx hb hts inN tyN toN hown (hts _ tw_113) (hts _ tw_114) (hts _ tw_6) hK hP hD hS hA rfl (fun j hj => by match j, hj with | 0, _ => rfl | 1, _ => rfl | 2, _ => rfl | n + 3, h => exact absurd h (by omega)) (by decide) (by decide) dQ_init_38 (fun q_43 H hP hD hS => ?_)
  obtain ⟨ws_44, a_45l, a_45o, a_45n, hP, hD⟩ := x_app hP hD
  rw [hwl] at a_45l a_45n
  have h_46 := (a_45o k (by rw [hwl]; exact kn_lt (i := 0) (j := 22) (by decide))).trans h_39
  have h_47 := (a_45o (k + 1) (by rw [hwl]; exact kn_lt (i := 1) (j := 22) (by decide))).trans h_40
  have h_48 := (a_45o (k + 10) (by rw [hwl]; exact kn_lt (i := 10) (j := 22) (by decide))).trans h_41
  have h_49 := (a_45o (k + 12) (by rw [hwl]; exact kn_lt (i := 12) (j := 22) (by decide))).trans h_42
  have ps5_c : ∀ j, k + 1 ≤ j → j < k + 10 → ws_44[j]? = ws_6[j]? := fun j a9 b9 => (a_45o j (by rw [hwl]; exact Nat.lt_of_lt_of_le b9 (Nat.add_le_add_left (by decide : 10 ≤ 22) k))).trans (ps5_c j a9 b9)
  have ps5_a : ∀ ad, x_ad ad ws_44 → x_ad ad ws_6 := fun ad z9 => ps5_a ad (x_ad.app a_45o z9)
  have ps17_c : ∀ j, k + 10 ≤ j → j < k + 12 → ws_44[j]? = ws_18[j]? := fun j a9 b9 => (a_45o j (by rw [hwl]; exact Nat.lt_of_lt_of_le b9 (Nat.add_le_add_left (by decide : 12 ≤ 22) k))).trans (ps17_c j a9 b9)
  have ps17_a : ∀ ad, x_ad ad ws_44 → x_ad ad ws_18 := fun ad z9 => ps17_a ad (x_ad.app a_45o z9)
  have ps32_c : ∀ j, k + 12 ≤ j → j < k + 22 → ws_44[j]? = ws_33[j]? := fun j a9 b9 => (a_45o j (by rw [hwl]; exact Nat.lt_of_lt_of_le b9 (Nat.add_le_add_left (by decide : 22 ≤ 22) k))).trans (ps32_c j a9 b9)
  have ps32_a : ∀ ad, x_ad ad ws_44 → x_ad ad ws_33 := fun ad z9 => ps32_a ad (x_ad.app a_45o z9)
  have hlow : ∀ j, j < k → ws_44[j]? = ws[j]? := fun j z9 => (a_45o j (by rw [hwl]; exact Nat.lt_of_lt_of_le z9 (Nat.le_add_right k _))).trans (hlow j z9)
  have hwl : ws_44.length = k + 23 := a_45l
  refine lv_dup hx hb dQ_init_41 rfl ?_
  refine x_callv (x_runIo (n := 0) (As := []) (rest := [.ref q_43, .ref a]) ⟨hx, hb, hml, hown, hts⟩ (cN_init l D tys A ws_44 cI hI cR hCR (k + 22) q_43 a_45n hwl) tw_115 tw_116 tw_6 tw_117 rfl (by decide +kernel) rfl rfl ⟨by decide, by decide⟩ ⟨by decide, by decide⟩ hK hP hD hS hA hN hO9 rfl hl.1 rfl (lv_room (Nat.le_of_ble_eq_true rfl)) dQ_init_42) hS (fun ws_51 H locs hws50 hP hD hS => ?_)
  obtain ⟨gs50, ps50⟩ := hws50
  have h_52 := (gs50.2.1 k (by exact kn_lt (i := 0) (j := 22) (by decide))).trans h_46
  have h_53 := (gs50.2.1 (k + 1) (by exact kn_lt (i := 1) (j := 22) (by decide))).trans h_47
  have h_54 := (gs50.2.1 (k + 10) (by exact kn_lt (i := 10) (j := 22) (by decide))).trans h_48
  have h_55 := (gs50.2.1 (k + 12) (by exact kn_lt (i := 12) (j := 22) (by decide))).trans h_49
  have ps5_c : ∀ j, k + 1 ≤ j → j < k + 10 → ws_51[j]? = ws_6[j]? := fun j a9 b9 => (gs50.2.1 j (by exact Nat.lt_of_lt_of_le b9 (Nat.add_le_add_left (by decide : 10 ≤ 22) k))).trans (ps5_c j a9 b9)
  have ps5_a : ∀ ad, x_ad ad ws_51 → x_ad ad ws_6 := fun ad z9 => ps5_a ad (x_ad.gr a_45n hwl gs50 z9)
  have ps17_c : ∀ j, k + 10 ≤ j → j < k + 12 → ws_51[j]? = ws_18[j]? := fun j a9 b9 => (gs50.2.1 j (by exact Nat.lt_of_lt_of_le b9 (Nat.add_le_add_left (by decide : 12 ≤ 22) k))).trans (ps17_c j a9 b9)
  have ps17_a : ∀ ad, x_ad ad ws_51 → x_ad ad ws_18 := fun ad z9 => ps17_a ad (x_ad.gr a_45n hwl gs50 z9)
  have ps32_c : ∀ j, k + 12 ≤ j → j < k + 22 → ws_51[j]? = ws_33[j]? := fun j a9 b9 => (gs50.2.1 j (by exact Nat.lt_of_lt_of_le b9 (Nat.add_le_add_left (by decide : 22 ≤ 22) k))).trans (ps32_c j a9 b9)
  have ps32_a : ∀ ad, x_ad ad ws_51 → x_ad ad ws_33 := fun ad z9 => ps32_a ad (x_ad.gr a_45n hwl gs50 z9)
  have hlow : ∀ j, j < k → ws_51[j]? = ws[j]? := fun j z9 => (gs50.2.1 j (by exact Nat.lt_of_lt_of_le z9 (Nat.le_add_right k _))).trans (hlow j z9)
  obtain ⟨es50, os50⟩ := gs50.2.2
  have hwl : ws_51.length = k + 97 := gs50.1
  have ps50_c : ∀ j, k + 22 ≤ j → j < k + 97 → ws_51[j]? = ws_51[j]? := fun _ _ _ => rfl
  have ps50_a : ∀ ad, x_ad ad ws_51 → x_ad ad ws_51 := fun _ z9 => z9
  refine va_putF (D := D) (cl := xCl) (ci := 6) (v := .ref q_43) (ty := .object "GraphQuery$Runner") (C := rnQ) (T := tbQ) (N := 7) hx hb hts inQ tyQ toQ nmQ hown hK hP hD hS k h_52 rfl 3 (by decide) (hts _ tw_151) (fun _ h9 => h9) rfl hnm rfl (by decide +kernel) rfl rfl (Nat.le_of_ble_eq_true rfl) dQ_init_45 (fun H locs hP hD hS => ?_)
  obtain ⟨ws_57, hu_56, hP, hD⟩ := x_gen h_52 hP hD
  have h_58 : ws_57[k]? = some (a, .inr (6, [.ref q_1, .ref q_12, .ref q_26, .ref q_43, .null, .int 0, .int 0])) := hu_56.1
  have h_59 := (hu_56.2 (k + 1) (kn_ne (i := 1) (j := 0) (by decide))).trans h_53
  have h_60 := (hu_56.2 (k + 10) (kn_ne (i := 10) (j := 0) (by decide))).trans h_54
  have h_61 := (hu_56.2 (k + 12) (kn_ne (i := 12) (j := 0) (by decide))).trans h_55
  have h_62 := (hu_56.2 (k + 22) (kn_ne (i := 22) (j := 0) (by decide))).trans os50
  have hwl := (x_upd.len h_52 hu_56).trans hwl
  have ps5_c : ∀ j, k + 1 ≤ j → j < k + 10 → ws_57[j]? = ws_6[j]? := fun j a9 b9 => (hu_56.2 j (Nat.ne_of_gt (Nat.lt_of_lt_of_le (kn_lt (i := 0) (j := 1) (by decide)) a9))).trans (ps5_c j a9 b9)
  have ps5_a : ∀ ad, x_ad ad ws_57 → x_ad ad ws_6 := fun ad z9 => ps5_a ad (x_ad.upd h_52 hu_56 z9)
  have ps17_c : ∀ j, k + 10 ≤ j → j < k + 12 → ws_57[j]? = ws_18[j]? := fun j a9 b9 => (hu_56.2 j (Nat.ne_of_gt (Nat.lt_of_lt_of_le (kn_lt (i := 0) (j := 10) (by decide)) a9))).trans (ps17_c j a9 b9)
  have ps17_a : ∀ ad, x_ad ad ws_57 → x_ad ad ws_18 := fun ad z9 => ps17_a ad (x_ad.upd h_52 hu_56 z9)
  have ps32_c : ∀ j, k + 12 ≤ j → j < k + 22 → ws_57[j]? = ws_33[j]? := fun j a9 b9 => (hu_56.2 j (Nat.ne_of_gt (Nat.lt_of_lt_of_le (kn_lt (i := 0) (j := 12) (by decide)) a9))).trans (ps32_c j a9 b9)
  have ps32_a : ∀ ad, x_ad ad ws_57 → x_ad ad ws_33 := fun ad z9 => ps32_a ad (x_ad.upd h_52 hu_56 z9)
  have ps50_c : ∀ j, k + 22 ≤ j → j < k + 97 → ws_57[j]? = ws_51[j]? := fun j a9 b9 => (hu_56.2 j (Nat.ne_of_gt (Nat.lt_of_lt_of_le (kn_lt (i := 0) (j := 22) (by decide)) a9))).trans (ps50_c j a9 b9)
  have ps50_a : ∀ ad, x_ad ad ws_57 → x_ad ad ws_51 := fun ad z9 => ps50_a ad (x_ad.upd h_52 hu_56 z9)
  have hlow : ∀ j, j < k → ws_57[j]? = ws[j]? := fun j z9 => (hu_56.2 j (Nat.ne_of_lt (Nat.lt_of_lt_of_le z9 (Nat.le_add_right k 0)))).trans (hlow j z9)
  refine lv_aload_n hx hb dQ_init_48 rfl (lv_at hl 0 rfl) ?_
  refine va_new (ci := 2) (fs := [.null, .int 0, .int 0]) (C := rnR) (T := tbR) (N := 3) hx hb hts inR tyR toR hown (hts _ tw_146) (hts _ tw_121) (hts _ tw_7) hK hP hD hS hA rfl (fun j hj => by match j, hj with | 0, _ => rfl | 1, _ => rfl | 2, _ => rfl | n + 3, h => exact absurd h (by omega)) (by decide) (by decide) dQ_init_49 (fun q_63 H hP hD hS => ?_)
  obtain ⟨ws_64, a_65l, a_65o, a_65n, hP, hD⟩ := x_app hP hD
  rw [hwl] at a_65l a_65n
  have h_66 := (a_65o k (by rw [hwl]; exact kn_lt (i := 0) (j := 97) (by decide))).trans h_58
  have h_67 := (a_65o (k + 1) (by rw [hwl]; exact kn_lt (i := 1) (j := 97) (by decide))).trans h_59
  have h_68 := (a_65o (k + 10) (by rw [hwl]; exact kn_lt (i := 10) (j := 97) (by decide))).trans h_60
  have h_69 := (a_65o (k + 12) (by rw [hwl]; exact kn_lt (i := 12) (j := 97) (by decide))).trans h_61
  have h_70 := (a_65o (k + 22) (by rw [hwl]; exact kn_lt (i := 22) (j := 97) (by decide))).trans h_62
  have ps5_c : ∀ j, k + 1 ≤ j → j < k + 10 → ws_64[j]? = ws_6[j]? := fun j a9 b9 => (a_65o j (by rw [hwl]; exact Nat.lt_of_lt_of_le b9 (Nat.add_le_add_left (by decide : 10 ≤ 97) k))).trans (ps5_c j a9 b9)
  have ps5_a : ∀ ad, x_ad ad ws_64 → x_ad ad ws_6 := fun ad z9 => ps5_a ad (x_ad.app a_65o z9)
  have ps17_c : ∀ j, k + 10 ≤ j → j < k + 12 → ws_64[j]? = ws_18[j]? := fun j a9 b9 => (a_65o j (by rw [hwl]; exact Nat.lt_of_lt_of_le b9 (Nat.add_le_add_left (by decide : 12 ≤ 97) k))).trans (ps17_c j a9 b9)
  have ps17_a : ∀ ad, x_ad ad ws_64 → x_ad ad ws_18 := fun ad z9 => ps17_a ad (x_ad.app a_65o z9)
  have ps32_c : ∀ j, k + 12 ≤ j → j < k + 22 → ws_64[j]? = ws_33[j]? := fun j a9 b9 => (a_65o j (by rw [hwl]; exact Nat.lt_of_lt_of_le b9 (Nat.add_le_add_left (by decide : 22 ≤ 97) k))).trans (ps32_c j a9 b9)
  have ps32_a : ∀ ad, x_ad ad ws_64 → x_ad ad ws_33 := fun ad z9 => ps32_a ad (x_ad.app a_65o z9)
  have ps50_c : ∀ j, k + 22 ≤ j → j < k + 97 → ws_64[j]? = ws_51[j]? := fun j a9 b9 => (a_65o j (by rw [hwl]; exact Nat.lt_of_lt_of_le b9 (Nat.add_le_add_left (by decide : 97 ≤ 97) k))).trans (ps50_c j a9 b9)
  have ps50_a : ∀ ad, x_ad ad ws_64 → x_ad ad ws_51 := fun ad z9 => ps50_a ad (x_ad.app a_65o z9)
  have hlow : ∀ j, j < k → ws_64[j]? = ws[j]? := fun j z9 => (a_65o j (by rw [hwl]; exact Nat.lt_of_lt_of_le z9 (Nat.le_add_right k _))).trans (hlow j z9)
  have hwl : ws_64.length = k + 98 := a_65l
  refine lv_dup hx hb dQ_init_52 rfl ?_
  refine x_callv (x_runI (n := 0) (As := []) (rest := [.ref q_63, .ref a]) ⟨hx, hb, hml, hown, hts⟩ (cR_init l D tys A ws_64 cI hI (k + 97) q_63 a_65n hwl) tw_147 tw_123 tw_7 tw_124 rfl (by decide +kernel) rfl rfl ⟨by decide, by decide⟩ ⟨by decide, by decide⟩ hK hP hD hS hA hN rfl hl.1 rfl (lv_room (Nat.le_of_ble_eq_true rfl)) dQ_init_53) hS (fun ws_72 H locs hws71 hP hD hS => ?_)
  obtain ⟨gs71, ps71⟩ := hws71
  have h_73 := (gs71.2.1 k (by exact kn_lt (i := 0) (j := 97) (by decide))).trans h_66
  have h_74 := (gs71.2.1 (k + 1) (by exact kn_lt (i := 1) (j := 97) (by decide))).trans h_67
  have h_75 := (gs71.2.1 (k + 10) (by exact kn_lt (i := 10) (j := 97) (by decide))).trans h_68
  have h_76 := (gs71.2.1 (k + 12) (by exact kn_lt (i := 12) (j := 97) (by decide))).trans h_69
  have h_77 := (gs71.2.1 (k + 22) (by exact kn_lt (i := 22) (j := 97) (by decide))).trans h_70
  have ps5_c : ∀ j, k + 1 ≤ j → j < k + 10 → ws_72[j]? = ws_6[j]? := fun j a9 b9 => (gs71.2.1 j (by exact Nat.lt_of_lt_of_le b9 (Nat.add_le_add_left (by decide : 10 ≤ 97) k))).trans (ps5_c j a9 b9)
  have ps5_a : ∀ ad, x_ad ad ws_72 → x_ad ad ws_6 := fun ad z9 => ps5_a ad (x_ad.gr a_65n hwl gs71 z9)
  have ps17_c : ∀ j, k + 10 ≤ j → j < k + 12 → ws_72[j]? = ws_18[j]? := fun j a9 b9 => (gs71.2.1 j (by exact Nat.lt_of_lt_of_le b9 (Nat.add_le_add_left (by decide : 12 ≤ 97) k))).trans (ps17_c j a9 b9)
  have ps17_a : ∀ ad, x_ad ad ws_72 → x_ad ad ws_18 := fun ad z9 => ps17_a ad (x_ad.gr a_65n hwl gs71 z9)
  have ps32_c : ∀ j, k + 12 ≤ j → j < k + 22 → ws_72[j]? = ws_33[j]? := fun j a9 b9 => (gs71.2.1 j (by exact Nat.lt_of_lt_of_le b9 (Nat.add_le_add_left (by decide : 22 ≤ 97) k))).trans (ps32_c j a9 b9)
  have ps32_a : ∀ ad, x_ad ad ws_72 → x_ad ad ws_33 := fun ad z9 => ps32_a ad (x_ad.gr a_65n hwl gs71 z9)
  have ps50_c : ∀ j, k + 22 ≤ j → j < k + 97 → ws_72[j]? = ws_51[j]? := fun j a9 b9 => (gs71.2.1 j (by exact Nat.lt_of_lt_of_le b9 (Nat.add_le_add_left (by decide : 97 ≤ 97) k))).trans (ps50_c j a9 b9)
  have ps50_a : ∀ ad, x_ad ad ws_72 → x_ad ad ws_51 := fun ad z9 => ps50_a ad (x_ad.gr a_65n hwl gs71 z9)
  have hlow : ∀ j, j < k → ws_72[j]? = ws[j]? := fun j z9 => (gs71.2.1 j (by exact Nat.lt_of_lt_of_le z9 (Nat.le_add_right k _))).trans (hlow j z9)
  obtain ⟨es71, os71⟩ := gs71.2.2
  have hwl : ws_72.length = k + 99 := gs71.1
  have ps71_c : ∀ j, k + 97 ≤ j → j < k + 99 → ws_72[j]? = ws_72[j]? := fun _ _ _ => rfl
  have ps71_a : ∀ ad, x_ad ad ws_72 → x_ad ad ws_72 := fun _ z9 => z9
  refine va_putF (D := D) (cl := xCl) (ci := 6) (v := .ref q_63) (ty := .object "GraphQuery$Row") (C := rnQ) (T := tbQ) (N := 7) hx hb hts inQ tyQ toQ nmQ hown hK hP hD hS k h_73 rfl 4 (by decide) (hts _ tw_152) (fun _ h9 => h9) rfl hnm rfl (by decide +kernel) rfl rfl (Nat.le_of_ble_eq_true rfl) dQ_init_56 (fun H locs hP hD hS => ?_)
  obtain ⟨ws_79, hu_78, hP, hD⟩ := x_gen h_73 hP hD
  have h_80 : ws_79[k]? = some (a, .inr (6, [.ref q_1, .ref q_12, .ref q_26, .ref q_43, .ref q_63, .int 0, .int 0])) := hu_78.1
  have h_81 := (hu_78.2 (k + 1) (kn_ne (i := 1) (j := 0) (by decide))).trans h_74
  have h_82 := (hu_78.2 (k + 10) (kn_ne (i := 10) (j := 0) (by decide))).trans h_75
  have h_83 := (hu_78.2 (k + 12) (kn_ne (i := 12) (j := 0) (by decide))).trans h_76
  have h_84 := (hu_78.2 (k + 22) (kn_ne (i := 22) (j := 0) (by decide))).trans h_77
  have h_85 := (hu_78.2 (k + 97) (kn_ne (i := 97) (j := 0) (by decide))).trans os71
  have hwl := (x_upd.len h_73 hu_78).trans hwl
  have ps5_c : ∀ j, k + 1 ≤ j → j < k + 10 → ws_79[j]? = ws_6[j]? := fun j a9 b9 => (hu_78.2 j (Nat.ne_of_gt (Nat.lt_of_lt_of_le (kn_lt (i := 0) (j := 1) (by decide)) a9))).trans (ps5_c j a9 b9)
  have ps5_a : ∀ ad, x_ad ad ws_79 → x_ad ad ws_6 := fun ad z9 => ps5_a ad (x_ad.upd h_73 hu_78 z9)
  have ps17_c : ∀ j, k + 10 ≤ j → j < k + 12 → ws_79[j]? = ws_18[j]? := fun j a9 b9 => (hu_78.2 j (Nat.ne_of_gt (Nat.lt_of_lt_of_le (kn_lt (i := 0) (j := 10) (by decide)) a9))).trans (ps17_c j a9 b9)
  have ps17_a : ∀ ad, x_ad ad ws_79 → x_ad ad ws_18 := fun ad z9 => ps17_a ad (x_ad.upd h_73 hu_78 z9)
  have ps32_c : ∀ j, k + 12 ≤ j → j < k + 22 → ws_79[j]? = ws_33[j]? := fun j a9 b9 => (hu_78.2 j (Nat.ne_of_gt (Nat.lt_of_lt_of_le (kn_lt (i := 0) (j := 12) (by decide)) a9))).trans (ps32_c j a9 b9)
  have ps32_a : ∀ ad, x_ad ad ws_79 → x_ad ad ws_33 := fun ad z9 => ps32_a ad (x_ad.upd h_73 hu_78 z9)
  have ps50_c : ∀ j, k + 22 ≤ j → j < k + 97 → ws_79[j]? = ws_51[j]? := fun j a9 b9 => (hu_78.2 j (Nat.ne_of_gt (Nat.lt_of_lt_of_le (kn_lt (i := 0) (j := 22) (by decide)) a9))).trans (ps50_c j a9 b9)
  have ps50_a : ∀ ad, x_ad ad ws_79 → x_ad ad ws_51 := fun ad z9 => ps50_a ad (x_ad.upd h_73 hu_78 z9)
  have ps71_c : ∀ j, k + 97 ≤ j → j < k + 99 → ws_79[j]? = ws_72[j]? := fun j a9 b9 => (hu_78.2 j (Nat.ne_of_gt (Nat.lt_of_lt_of_le (kn_lt (i := 0) (j := 97) (by decide)) a9))).trans (ps71_c j a9 b9)
  have ps71_a : ∀ ad, x_ad ad ws_79 → x_ad ad ws_72 := fun ad z9 => ps71_a ad (x_ad.upd h_73 hu_78 z9)
  have hlow : ∀ j, j < k → ws_79[j]? = ws[j]? := fun j z9 => (hu_78.2 j (Nat.ne_of_lt (Nat.lt_of_lt_of_le z9 (Nat.le_add_right k 0)))).trans (hlow j z9)
  refine lv_aload_n hx hb dQ_init_59 rfl (lv_at hl 0 rfl) ?_
  refine lv_iconst (v := 0) hx hb dQ_init_60 (by decide) ?_
  refine va_put (D := D) (cl := xCl) (ci := 6) (v := .int 0) (ty := .int) (C := rnQ) (T := tbQ) (N := 7) hx hb hts inQ tyQ toQ nmQ hown hK hP hD hS k h_80 rfl 5 (by decide) (hts _ tw_153) (fun _ h9 => h9) rfl (by decide +kernel) rfl rfl (Nat.le_of_ble_eq_true rfl) dQ_init_61 (fun H locs hP hD hS => ?_)
  obtain ⟨ws_87, hu_86, hP, hD⟩ := x_gen h_80 hP hD
  have h_88 : ws_87[k]? = some (a, .inr (6, [.ref q_1, .ref q_12, .ref q_26, .ref q_43, .ref q_63, .int 0, .int 0])) := hu_86.1
  have h_89 := (hu_86.2 (k + 1) (kn_ne (i := 1) (j := 0) (by decide))).trans h_81
  have h_90 := (hu_86.2 (k + 10) (kn_ne (i := 10) (j := 0) (by decide))).trans h_82
  have h_91 := (hu_86.2 (k + 12) (kn_ne (i := 12) (j := 0) (by decide))).trans h_83
  have h_92 := (hu_86.2 (k + 22) (kn_ne (i := 22) (j := 0) (by decide))).trans h_84
  have h_93 := (hu_86.2 (k + 97) (kn_ne (i := 97) (j := 0) (by decide))).trans h_85
  have hwl := (x_upd.len h_80 hu_86).trans hwl
  have ps5_c : ∀ j, k + 1 ≤ j → j < k + 10 → ws_87[j]? = ws_6[j]? := fun j a9 b9 => (hu_86.2 j (Nat.ne_of_gt (Nat.lt_of_lt_of_le (kn_lt (i := 0) (j := 1) (by decide)) a9))).trans (ps5_c j a9 b9)
  have ps5_a : ∀ ad, x_ad ad ws_87 → x_ad ad ws_6 := fun ad z9 => ps5_a ad (x_ad.upd h_80 hu_86 z9)
  have ps17_c : ∀ j, k + 10 ≤ j → j < k + 12 → ws_87[j]? = ws_18[j]? := fun j a9 b9 => (hu_86.2 j (Nat.ne_of_gt (Nat.lt_of_lt_of_le (kn_lt (i := 0) (j := 10) (by decide)) a9))).trans (ps17_c j a9 b9)
  have ps17_a : ∀ ad, x_ad ad ws_87 → x_ad ad ws_18 := fun ad z9 => ps17_a ad (x_ad.upd h_80 hu_86 z9)
  have ps32_c : ∀ j, k + 12 ≤ j → j < k + 22 → ws_87[j]? = ws_33[j]? := fun j a9 b9 => (hu_86.2 j (Nat.ne_of_gt (Nat.lt_of_lt_of_le (kn_lt (i := 0) (j := 12) (by decide)) a9))).trans (ps32_c j a9 b9)
  have ps32_a : ∀ ad, x_ad ad ws_87 → x_ad ad ws_33 := fun ad z9 => ps32_a ad (x_ad.upd h_80 hu_86 z9)
  have ps50_c : ∀ j, k + 22 ≤ j → j < k + 97 → ws_87[j]? = ws_51[j]? := fun j a9 b9 => (hu_86.2 j (Nat.ne_of_gt (Nat.lt_of_lt_of_le (kn_lt (i := 0) (j := 22) (by decide)) a9))).trans (ps50_c j a9 b9)
  have ps50_a : ∀ ad, x_ad ad ws_87 → x_ad ad ws_51 := fun ad z9 => ps50_a ad (x_ad.upd h_80 hu_86 z9)
  have ps71_c : ∀ j, k + 97 ≤ j → j < k + 99 → ws_87[j]? = ws_72[j]? := fun j a9 b9 => (hu_86.2 j (Nat.ne_of_gt (Nat.lt_of_lt_of_le (kn_lt (i := 0) (j := 97) (by decide)) a9))).trans (ps71_c j a9 b9)
  have ps71_a : ∀ ad, x_ad ad ws_87 → x_ad ad ws_72 := fun ad z9 => ps71_a ad (x_ad.upd h_80 hu_86 z9)
  have hlow : ∀ j, j < k → ws_87[j]? = ws[j]? := fun j z9 => (hu_86.2 j (Nat.ne_of_lt (Nat.lt_of_lt_of_le z9 (Nat.le_add_right k 0)))).trans (hlow j z9)
  refine lv_aload_n hx hb dQ_init_64 rfl (lv_at hl 0 rfl) ?_
  refine lv_iconst (v := (-1)) hx hb dQ_init_65 (by decide) ?_
  refine va_put (D := D) (cl := xCl) (ci := 6) (v := .int (-1)) (ty := .int) (C := rnQ) (T := tbQ) (N := 7) hx hb hts inQ tyQ toQ nmQ hown hK hP hD hS k h_88 rfl 6 (by decide) (hts _ tw_154) (fun _ h9 => h9) rfl (by decide +kernel) rfl rfl (Nat.le_of_ble_eq_true rfl) dQ_init_66 (fun H locs hP hD hS => ?_)
  obtain ⟨ws_95, hu_94, hP, hD⟩ := x_gen h_88 hP hD
  have h_96 : ws_95[k]? = some (a, .inr (6, [.ref q_1, .ref q_12, .ref q_26, .ref q_43, .ref q_63, .int 0, .int (-1)])) := hu_94.1
  have h_97 := (hu_94.2 (k + 1) (kn_ne (i := 1) (j := 0) (by decide))).trans h_89
  have h_98 := (hu_94.2 (k + 10) (kn_ne (i := 10) (j := 0) (by decide))).trans h_90
  have h_99 := (hu_94.2 (k + 12) (kn_ne (i := 12) (j := 0) (by decide))).trans h_91
  have h_100 := (hu_94.2 (k + 22) (kn_ne (i := 22) (j := 0) (by decide))).trans h_92
  have h_101 := (hu_94.2 (k + 97) (kn_ne (i := 97) (j := 0) (by decide))).trans h_93
  have hwl := (x_upd.len h_88 hu_94).trans hwl
  have ps5_c : ∀ j, k + 1 ≤ j → j < k + 10 → ws_95[j]? = ws_6[j]? := fun j a9 b9 => (hu_94.2 j (Nat.ne_of_gt (Nat.lt_of_lt_of_le (kn_lt (i := 0) (j := 1) (by decide)) a9))).trans (ps5_c j a9 b9)
  have ps5_a : ∀ ad, x_ad ad ws_95 → x_ad ad ws_6 := fun ad z9 => ps5_a ad (x_ad.upd h_88 hu_94 z9)
  have ps17_c : ∀ j, k + 10 ≤ j → j < k + 12 → ws_95[j]? = ws_18[j]? := fun j a9 b9 => (hu_94.2 j (Nat.ne_of_gt (Nat.lt_of_lt_of_le (kn_lt (i := 0) (j := 10) (by decide)) a9))).trans (ps17_c j a9 b9)
  have ps17_a : ∀ ad, x_ad ad ws_95 → x_ad ad ws_18 := fun ad z9 => ps17_a ad (x_ad.upd h_88 hu_94 z9)
  have ps32_c : ∀ j, k + 12 ≤ j → j < k + 22 → ws_95[j]? = ws_33[j]? := fun j a9 b9 => (hu_94.2 j (Nat.ne_of_gt (Nat.lt_of_lt_of_le (kn_lt (i := 0) (j := 12) (by decide)) a9))).trans (ps32_c j a9 b9)
  have ps32_a : ∀ ad, x_ad ad ws_95 → x_ad ad ws_33 := fun ad z9 => ps32_a ad (x_ad.upd h_88 hu_94 z9)
  have ps50_c : ∀ j, k + 22 ≤ j → j < k + 97 → ws_95[j]? = ws_51[j]? := fun j a9 b9 => (hu_94.2 j (Nat.ne_of_gt (Nat.lt_of_lt_of_le (kn_lt (i := 0) (j := 22) (by decide)) a9))).trans (ps50_c j a9 b9)
  have ps50_a : ∀ ad, x_ad ad ws_95 → x_ad ad ws_51 := fun ad z9 => ps50_a ad (x_ad.upd h_88 hu_94 z9)
  have ps71_c : ∀ j, k + 97 ≤ j → j < k + 99 → ws_95[j]? = ws_72[j]? := fun j a9 b9 => (hu_94.2 j (Nat.ne_of_gt (Nat.lt_of_lt_of_le (kn_lt (i := 0) (j := 97) (by decide)) a9))).trans (ps71_c j a9 b9)
  have ps71_a : ∀ ad, x_ad ad ws_95 → x_ad ad ws_72 := fun ad z9 => ps71_a ad (x_ad.upd h_88 hu_94 z9)
  have hlow : ∀ j, j < k → ws_95[j]? = ws[j]? := fun j z9 => (hu_94.2 j (Nat.ne_of_lt (Nat.lt_of_lt_of_le z9 (Nat.le_add_right k 0)))).trans (hlow j z9)
  exact x_vret hx hb hr hlk hK hP hD hS dQ_init_69 (by refine ⟨⟨hwl, hlow, _, h_96⟩, fun ad z9 => ?_⟩; have e0 : a = ad k := z9 k _ h_96; have e1 : q_1 = ad (k + 1) := z9 (k + 1) _ h_97; have e10 : q_12 = ad (k + 10) := z9 (k + 10) _ h_98; have e12 : q_26 = ad (k + 12) := z9 (k + 12) _ h_99; have e22 : q_43 = ad (k + 22) := z9 (k + 22) _ h_100; have e97 : q_63 = ad (k + 97) := z9 (k + 97) _ h_101; subst e0; subst e1; subst e10; subst e12; subst e22; subst e97; exact ⟨h_96, (ps5 ad (ps5_a ad z9)).cg ps5_c, (ps17 ad (ps17_a ad z9)).cg ps17_c, ⟨_, _, (ps32 ad (ps32_a ad z9)).cg ps32_c⟩, ⟨_, _, _, (ps50 ad (ps50_a ad z9)).cg ps50_c⟩, (ps71 ad (ps71_a ad z9)).cg ps71_c⟩)
