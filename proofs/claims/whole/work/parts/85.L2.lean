theorem lt_120 : (Cond.arrayOver (FieldType.object "GraphQuery$Row")) ∈ lw_tbl := List.mem_append_right _ (List.mem_append_left _ (List.mem_of_getElem? (i := 120) rfl))
theorem lt_189 : (Cond.methodLinkNest "GraphQuery$Graph" (44 : Nat) ({ cls := "GraphQuery", name := "isIn", desc := "(II)Z" } : MethodName) "GraphQuery") ∈ lw_tbl := List.mem_append_right _ (List.mem_append_left _ (List.mem_of_getElem? (i := 189) rfl))
theorem lt_317 : (Cond.methodLinkNest "GraphQuery$Text" (84 : Nat) ({ cls := "GraphQuery", name := "isJoin", desc := "(I)Z" } : MethodName) "GraphQuery") ∈ lw_tbl := List.mem_append_right _ (List.mem_append_right _ (List.mem_append_left _ (List.mem_of_getElem? (i := 77) rfl)))
theorem lt_382 : (Cond.methodLinkNest "GraphQuery$Parser" (55 : Nat) ({ cls := "GraphQuery", name := "isJoin", desc := "(I)Z" } : MethodName) "GraphQuery") ∈ lw_tbl := List.mem_append_right _ (List.mem_append_right _ (List.mem_append_left _ (List.mem_of_getElem? (i := 142) rfl)))
theorem lt_454 : (Cond.methodLinkNest "GraphQuery$Row" (22 : Nat) ({ cls := "GraphQuery", name := "isIn", desc := "(II)Z" } : MethodName) "GraphQuery") ∈ lw_tbl := List.mem_append_right _ (List.mem_append_right _ (List.mem_append_left _ (List.mem_of_getElem? (i := 214) rfl)))
theorem lt_455 : (Cond.methodLinkNest "GraphQuery$Runner" (50 : Nat) ({ cls := "GraphQuery", name := "isJoin", desc := "(I)Z" } : MethodName) "GraphQuery") ∈ lw_tbl := List.mem_append_right _ (List.mem_append_right _ (List.mem_append_left _ (List.mem_of_getElem? (i := 215) rfl)))
theorem lt_245 : (Cond.stringRef "GraphQuery$Text" (56 : Nat) "all") ∈ lw_tbl := List.mem_append_right _ (List.mem_append_right _ (List.mem_append_left _ (List.mem_of_getElem? (i := 5) rfl)))
theorem lt_259 : (Cond.laysStatic "java/lang/String" "COMPACT_STRINGS" "Z") ∈ lw_tbl := List.mem_append_right _ (List.mem_append_right _ (List.mem_append_left _ (List.mem_of_getElem? (i := 19) rfl)))
theorem lt_275 : (Cond.laysStatic "jdk/internal/util/Preconditions" "SIOOBE_FORMATTER" "Ljava/util/function/BiFunction;") ∈ lw_tbl := List.mem_append_right _ (List.mem_append_right _ (List.mem_append_left _ (List.mem_of_getElem? (i := 35) rfl)))
theorem lt_298 : (Cond.stringRef "GraphQuery$Text" (62 : Nat) "deps") ∈ lw_tbl := List.mem_append_right _ (List.mem_append_right _ (List.mem_append_left _ (List.mem_of_getElem? (i := 58) rfl)))
theorem lt_299 : (Cond.stringRef "GraphQuery$Text" (64 : Nat) "users") ∈ lw_tbl := List.mem_append_right _ (List.mem_append_right _ (List.mem_append_left _ (List.mem_of_getElem? (i := 59) rfl)))
theorem lt_300 : (Cond.stringRef "GraphQuery$Text" (66 : Nat) "way") ∈ lw_tbl := List.mem_append_right _ (List.mem_append_right _ (List.mem_append_left _ (List.mem_of_getElem? (i := 60) rfl)))
theorem lt_301 : (Cond.stringRef "GraphQuery$Text" (68 : Nat) "kind") ∈ lw_tbl := List.mem_append_right _ (List.mem_append_right _ (List.mem_append_left _ (List.mem_of_getElem? (i := 61) rfl)))
theorem lt_302 : (Cond.stringRef "GraphQuery$Text" (70 : Nat) "tests") ∈ lw_tbl := List.mem_append_right _ (List.mem_append_right _ (List.mem_append_left _ (List.mem_of_getElem? (i := 62) rfl)))
theorem lt_303 : (Cond.stringRef "GraphQuery$Text" (72 : Nat) "same") ∈ lw_tbl := List.mem_append_right _ (List.mem_append_right _ (List.mem_append_left _ (List.mem_of_getElem? (i := 63) rfl)))
theorem lt_304 : (Cond.stringRef "GraphQuery$Text" (74 : Nat) "let") ∈ lw_tbl := List.mem_append_right _ (List.mem_append_right _ (List.mem_append_left _ (List.mem_of_getElem? (i := 64) rfl)))
theorem lt_305 : (Cond.stringRef "GraphQuery$Text" (76 : Nat) "in") ∈ lw_tbl := List.mem_append_right _ (List.mem_append_right _ (List.mem_append_left _ (List.mem_of_getElem? (i := 65) rfl)))
abbrev lfl : List Cond := flatC (Jvm.Cond.and given_1 narrow_1)
def tmS (i : Nat) : Term := .string "GraphQuery$Text" (sIdx.getD i 0)
theorem ln_ex : ∀ i, i < 9 → Cond.exactly (tmS i) "java/lang/String" ∈ lfl := by decide +kernel
theorem ln_co : ∀ i, i < 9 → Cond.eq (.field (tmS i) "java/lang/String" "coder" "B") (.int 0) ∈ lfl := by decide +kernel
theorem ln_ar : ∀ i, i < 9 → Cond.arrayOf (.field (tmS i) "java/lang/String" "value" "[B") .byte ∈ lfl := by decide +kernel
theorem ln_le : ∀ i, i < 9 → Cond.eq (.length (.field (tmS i) "java/lang/String" "value" "[B")) (.int (Int32.ofNat (sLen.getD i 0))) ∈ lfl := by decide +kernel
theorem ln_el : ∀ i, i < 9 → ∀ j, j < sLen.getD i 0 → Cond.eq (.elem (.field (tmS i) "java/lang/String" "value" "[B") (.int (Int32.ofNat j))) (.int ((sByt.getD i []).getD j 0)) ∈ lfl := by decide +kernel
theorem ln_ne : ∀ i, i < 9 → ∀ j, j < 9 → i ≠ j → Cond.not (Cond.eq (tmS i) (tmS j)) ∈ lfl ∨ Cond.not (Cond.eq (tmS j) (tmS i)) ∈ lfl := by decide +kernel
theorem ln_cs : Cond.eq (.static "java/lang/String" "COMPACT_STRINGS" "Z") (.int 1) ∈ lfl := by decide +kernel
theorem ln_sf : Cond.isRef (.static "jdk/internal/util/Preconditions" "SIOOBE_FORMATTER" "Ljava/util/function/BiFunction;") ∈ lfl := by decide +kernel
theorem ln_sr : ∀ i, i < 9 → Cond.stringRef "GraphQuery$Text" (sIdx.getD i 0) (sTx.getD i "") ∈ lw_tbl := fun i hi => match i, hi with
  | 0, _ => lt_245
  | 1, _ => lt_298
  | 2, _ => lt_299
  | 3, _ => lt_300
  | 4, _ => lt_301
  | 5, _ => lt_302
  | 6, _ => lt_303
  | 7, _ => lt_304
  | 8, _ => lt_305
  | n + 9, h => absurd h (by omega)
theorem lw_hts {s : State} {b : Nat} (h : ∀ w ∈ lw_tbl, w.before #[Value.ref b] s = true) : ∀ w ∈ xT, w.before #[Value.ref b] s = true := fun w hw => h w (List.mem_filter.mp hw).1
theorem lw_xN {s : State} {b : Nat} (h : ∀ w ∈ lw_tbl, w.before #[Value.ref b] s = true) : xN s := ⟨va_Nw.of rfl (h _ lt_189), va_Nw.of rfl (h _ lt_317), va_Nw.of rfl (h _ lt_382), va_Nw.of rfl (h _ lt_454), va_Nw.of rfl (h _ lt_455)⟩
theorem lw_xE {s : State} {b : Nat} (h : ∀ w ∈ lw_tbl, w.before #[Value.ref b] s = true) (hgv : (Jvm.Cond.and given_1 narrow_1).before #[Value.ref b] s = true) : ∃ (adK adV : Nat → Nat) (zf : Value), (zf = .null ∨ ∃ t, zf = .ref t) ∧ xE (fun q : Nat => s.heap.size ≤ q) adK adV zf s := by
  have hs := flat_of_before _ hgv
  have hT := lw_hts h
  have hA : ∀ a : Nat, a < s.heap.size → ¬ (fun q : Nat => s.heap.size ≤ q) a := fun a ha => Nat.not_le.mpr ha
  obtain ⟨adK, adV, hS, hK⟩ := vk_Sof (N := 9) (tm := tmS) (len := sLen) (byt := sByt) (A := fun q : Nat => s.heap.size ≤ q) (args := #[Value.ref b]) (s := s) (by decide) (fun i hi => hs _ (ln_ex i hi)) (fun i hi => hs _ (ln_co i hi)) (fun i hi => hs _ (ln_ar i hi)) (fun i hi => hs _ (ln_le i hi)) (fun i hi j hj => hs _ (ln_el i hi j hj)) (fun i j hi hj hij => (ln_ne i hi j hj hij).elim (fun z => Or.inl (hs _ z)) (fun z => Or.inr (hs _ z))) hA
  have z1 := va_Zof (h _ lt_259) (hT _ tw_9) (va_eqt (hs _ ln_cs)) hA
  have hR : ∀ i, i < 9 → vk_R "GraphQuery$Text" (sIdx.getD i 0) (sTx.getD i "") (adK i) s := fun i hi => vk_R.of (h _ (ln_sr i hi)) (hK i hi)
  rcases va_Zqof (h _ lt_275) (hT _ tw_11) (hs _ ln_sf) hA with z2 | ⟨t, z2⟩
  · exact ⟨adK, adV, .null, Or.inl rfl, z1, z2, hS, hR⟩
  · exact ⟨adK, adV, .ref t, Or.inr ⟨t, rfl⟩, z1, z2, hS, hR⟩
theorem lw_tys {s : State} {b : Nat} (h : ∀ w ∈ lw_tbl, w.before #[Value.ref b] s = true) : ∃ cI cC cR : ClassId, ∀ (k : Nat) (q : ClassId × FieldType), ([(cI, .int), (cC, .char), (cR, .object "GraphQuery$Row")] : List (ClassId × FieldType))[k]? = some q → ArrOfT s q.1 q.2 ∧ va_RA s q.1 q.2 := by
  have hT := lw_hts h
  obtain ⟨cI, kI, oI, i1, i2, i3⟩ := Cond.arrayClass_spec (hT _ tw_57)
  obtain ⟨cC, kC, oC, c1, c2, c3⟩ := Cond.arrayClass_spec (hT _ tw_71)
  obtain ⟨oR, cR, kR, r1, r2, r3, r4, r5⟩ := Cond.arrayOver_spec (h _ lt_120)
  refine ⟨cI, cC, cR, fun k q hq => ?_⟩
  match k, hq with
  | 0, hq => cases hq; exact ⟨fun n z => ⟨(fun k h => by cases h), kI, i2, oI, i3⟩, i1⟩
  | 1, hq => cases hq; exact ⟨fun n z => ⟨(fun k h => by cases h), kC, c2, oC, c3⟩, c1⟩
  | 2, hq => cases hq; exact ⟨fun n z => ⟨(fun k h => by cases h), kR, r3, oR, r4⟩, kR, oR, r3, r4, r1, r5⟩
  | n + 3, hq => simp at hq
theorem lw_cls {s : State} {b : Nat} (h : ∀ w ∈ lw_tbl, w.before #[Value.ref b] s = true) : ∃ D : va_G, ∀ (k : Nat) (q : vw_C), xCl[k]? = some q → u_Kn s q.1 q.2.1 q.2.2 (D.1 k) (D.2 k) := by
  have hT := lw_hts h
  obtain ⟨c0, i0, hk0⟩ := u_known (C := rnG) (T := tbG) (N := 9) (n := 9) hT inG (hT _ tw_24)
  obtain ⟨c1, i1, hk1⟩ := u_known (C := rnP) (T := tbP) (N := 5) (n := 5) hT inP (hT _ tw_73)
  obtain ⟨c2, i2, hk2⟩ := u_known (C := rnR) (T := tbR) (N := 3) (n := 3) hT inR (hT _ tw_121)
  obtain ⟨c3, i3, hk3⟩ := u_known (C := rnN) (T := tbN) (N := 3) (n := 3) hT inN (hT _ tw_114)
  obtain ⟨c4, i4, hk4⟩ := u_known (C := rnT) (T := tbT) (N := 4) (n := 4) hT inT (hT _ tw_79)
  obtain ⟨c5, i5, hk5⟩ := u_known (C := rnX) (T := tbX) (N := 2) (n := 2) hT inX (hT _ tw_59)
  obtain ⟨c6, i6, hk6⟩ := u_known (C := rnQ) (T := tbQ) (N := 7) (n := 7) hT inQ (hT _ tw_16)
  obtain ⟨c7, i7, hk7⟩ := u_known (C := rnM) (T := tbM) (N := 39) (n := 39) hT inM (hT _ tw_612)
  refine ⟨(fun k => match k with | 0 => c0 | 1 => c1 | 2 => c2 | 3 => c3 | 4 => c4 | 5 => c5 | 6 => c6 | _ => c7, fun k => match k with | 0 => i0 | 1 => i1 | 2 => i2 | 3 => i3 | 4 => i4 | 5 => i5 | 6 => i6 | _ => i7), fun k q hq => ?_⟩
  match k, hq with
  | 0, hq => cases hq; exact hk0
  | 1, hq => cases hq; exact hk1
  | 2, hq => cases hq; exact hk2
  | 3, hq => cases hq; exact hk3
  | 4, hq => cases hq; exact hk4
  | 5, hq => cases hq; exact hk5
  | 6, hq => cases hq; exact hk6
  | 7, hq => cases hq; exact hk7
  | n + 8, hq => simp at hq
/-- all that stays fixed while the law runs -/
def LF (p : Program) (s : State) (m : MethodId) (c : Code) (b L : Nat) (xs : Nat → Int32) (D : va_G) (tys : List (ClassId × FieldType)) (A : Nat → Prop) (adK adV : Nat → Nat) (zf : Value) (cI cC cR : ClassId) : Prop :=
  p.tables.exec = Jvm.exec ∧ c.code = code ∧ c.maxLocals = 4 ∧ s.vm.findClass R_law = some m.cls ∧ (∀ w ∈ xT, w.before #[Value.ref b] s = true) ∧ va_K D xCl tys s ∧ (∀ q, s.heap.size ≤ q → A q) ∧ xN s ∧ xE A adK adV zf s ∧ (zf = .null ∨ ∃ t, zf = .ref t) ∧ va_X b L xs s s.heap ∧ b < s.heap.size ∧ ¬ A b ∧ tys[0]? = some (cI, .int) ∧ tys[1]? = some (cC, .char) ∧ tys[2]? = some (cR, .object "GraphQuery$Row") ∧ L ≤ 2048
theorem lw_LF {p : Program} {s : State} {m : MethodId} {meth : Method} {c : Code} {b L : Nat} {xs : Nat → Int32} (hL : L ≤ 2048) (C0 : lw_At p s m meth c b L xs) : ∃ (D : va_G) (tys : List (ClassId × FieldType)) (adK adV : Nat → Nat) (zf : Value) (cI cC cR : ClassId), LF p s m c b L xs D tys (fun q : Nat => s.heap.size ≤ q) adK adV zf cI cC cR := by
  obtain ⟨hx, hb, hr, hml, hown, hts, hX, hbl, hlocks, hgv⟩ := C0
  obtain ⟨cI, cC, cR, hA⟩ := lw_tys hts
  obtain ⟨D, hD⟩ := lw_cls hts
  obtain ⟨adK, adV, zf, hzf, hE⟩ := lw_xE hts hgv
  exact ⟨D, [(cI, .int), (cC, .char), (cR, .object "GraphQuery$Row")], adK, adV, zf, cI, cC, cR, hx, hb, hml, hown, lw_hts hts, ⟨hD, hA⟩, fun _ h => h, lw_xN hts, hE, hzf, hX, hbl, Nat.not_le.mpr hbl, rfl, rfl, rfl, hL⟩
theorem near_same {g : Gr} {v : Int32} (hg : GrOK g) (h : v = -1 ∨ ∃ n : Nat, n < 60 ∧ v = nI n) : nearS g v = if v = -1 then -1 else (mnear g v.toInt.toNat g.length).1 := by
  rcases h with rfl | ⟨n, hn, rfl⟩
  · unfold nearS
    rw [if_neg (by decide), if_pos rfl]
  · have hz : (nI n).toInt = (n : Int) := nI_toInt (by omega)
    have hm : ¬ nI n = -1 := by
      intro h
      have h1 := congrArg Int32.toInt h
      rw [hz] at h1
      have h2 : (-1 : Int32).toInt = -1 := by decide
      omega
    unfold nearS
    rw [if_neg hm, hz, if_pos ⟨by omega, by omega⟩, Int.toNat_natCast]
    exact near_eq hg hn
