-- ===== Parser: the pure picture =====
/-- at, program, slots, openLets -/
abbrev PSt : Type := Nat × List Tok × (Nat → Int32) × Nat
def tkAt (T : List Tok) (st : PSt) : Tok := T.getD st.1 (0, 0, 0)
def pAdv (st : PSt) : PSt := (st.1 + 1, st.2)
def pEmit (T : List Tok) (K v : Int32) (st : PSt) : PSt := (st.1, tpA st.2.1 (K, v, (tkAt T st).2.2), st.2.2)
def pTake (T : List Tok) (K : Int32) (st : PSt) : Bool × PSt := if (tkAt T st).1 = K then (true, pAdv st) else (false, st)
def slI (sl : Nat → Int32) (v : Int32) : Int32 := if 0 ≤ v.toInt ∧ v.toInt < 26 then sl v.toInt.toNat else -1
def slU (sl : Nat → Int32) (v x : Int32) : Nat → Int32 := if 0 ≤ v.toInt ∧ v.toInt < 26 then upd sl v.toInt.toNat x else sl
def pSet (v x : Int32) (st : PSt) : PSt := (st.1, st.2.1, slU st.2.2.1 v x, st.2.2.2)
def pOpen (n : Nat) (st : PSt) : PSt := (st.1, st.2.1, st.2.2.1, n)
def isJnI (K : Int32) : Bool := decide (K = 43 ∨ K = 45 ∨ K = 38)
def pLetter (T : List Tok) (st : PSt) : Bool × PSt := if slI st.2.2.1 (tkAt T st).2.1 = -1 then (false, st) else (true, pAdv (pEmit T 3 (slI st.2.2.1 (tkAt T st).2.1) st))
/-- the joins behind a SUM's first TERM -/
def pMore (T : List Tok) (t : PSt → Bool × PSt) : Nat → PSt → Bool × PSt
  | 0, st => (true, st)
  | n + 1, st => if isJnI (tkAt T st).1 = true then (if (t (pAdv st)).1 = true then pMore T t n (pEmit T (tkAt T st).1 0 (t (pAdv st)).2) else (false, (t (pAdv st)).2)) else (true, st)
def pSum (T : List Tok) (t : PSt → Bool × PSt) (st : PSt) : Bool × PSt := if (t st).1 = true then pMore T t 80 (t st).2 else (false, (t st).2)
def pEnd (T : List Tok) (K v : Int32) (st : PSt) : Bool × PSt := pTake T 41 (pEmit T K v st)
def pRounds (T : List Tok) (S : PSt → Bool × PSt) (K : Int32) (st : PSt) : Bool × PSt :=
  if (pTake T 40 (pAdv st)).1 = true then
    (if (S (pTake T 40 (pAdv st)).2).1 = true then
      (if (pTake T 44 (S (pTake T 40 (pAdv st)).2).2).1 = true then
        (if (pTake T 4 (pTake T 44 (S (pTake T 40 (pAdv st)).2).2).2).1 = true then pEnd T K (tkAt T (pTake T 44 (S (pTake T 40 (pAdv st)).2).2).2).2.1 (pTake T 4 (pTake T 44 (S (pTake T 40 (pAdv st)).2).2).2).2
        else (false, (pTake T 4 (pTake T 44 (S (pTake T 40 (pAdv st)).2).2).2).2))
      else pEnd T K 30 (pTake T 44 (S (pTake T 40 (pAdv st)).2).2).2)
    else (false, (S (pTake T 40 (pAdv st)).2).2))
  else (false, (pTake T 40 (pAdv st)).2)
def pPlain (T : List Tok) (S : PSt → Bool × PSt) (K : Int32) (st : PSt) : Bool × PSt :=
  if (pTake T 40 (pAdv st)).1 = true then
    (if (S (pTake T 40 (pAdv st)).2).1 = true then pEnd T K 0 (S (pTake T 40 (pAdv st)).2).2
    else (false, (S (pTake T 40 (pAdv st)).2).2))
  else (false, (pTake T 40 (pAdv st)).2)
def pWay (T : List Tok) (S : PSt → Bool × PSt) (st : PSt) : Bool × PSt :=
  if (pTake T 40 (pAdv st)).1 = true then
    (if (S (pTake T 40 (pAdv st)).2).1 = true then
      (if (pTake T 44 (S (pTake T 40 (pAdv st)).2).2).1 = true then
        (if (S (pTake T 44 (S (pTake T 40 (pAdv st)).2).2).2).1 = true then pEnd T 8 0 (S (pTake T 44 (S (pTake T 40 (pAdv st)).2).2).2).2
        else (false, (S (pTake T 44 (S (pTake T 40 (pAdv st)).2).2).2).2))
      else (false, (pTake T 44 (S (pTake T 40 (pAdv st)).2).2).2))
    else (false, (S (pTake T 40 (pAdv st)).2).2))
  else (false, (pTake T 40 (pAdv st)).2)
def pKind (T : List Tok) (S : PSt → Bool × PSt) (st : PSt) : Bool × PSt :=
  if (pTake T 40 (pAdv st)).1 = true then
    (if (pTake T 4 (pTake T 40 (pAdv st)).2).1 = true then
      (if (pTake T 44 (pTake T 4 (pTake T 40 (pAdv st)).2).2).1 = true then
        (if (S (pTake T 44 (pTake T 4 (pTake T 40 (pAdv st)).2).2).2).1 = true then pEnd T 9 (tkAt T (pTake T 40 (pAdv st)).2).2.1 (S (pTake T 44 (pTake T 4 (pTake T 40 (pAdv st)).2).2).2).2
        else (false, (S (pTake T 44 (pTake T 4 (pTake T 40 (pAdv st)).2).2).2).2))
      else (false, (pTake T 44 (pTake T 4 (pTake T 40 (pAdv st)).2).2).2))
    else (false, (pTake T 4 (pTake T 40 (pAdv st)).2).2))
  else (false, (pTake T 40 (pAdv st)).2)
/-- the SUM behind in, with the LETTER bound -/
def pBound (T : List Tok) (S : PSt → Bool × PSt) (v : Int32) (x : PSt) : Bool × PSt :=
  ((S (pOpen (x.2.2.2 + 1) (pSet v (nI x.2.2.2) (pEmit T 12 (nI x.2.2.2) x)))).1, pSet v (slI x.2.2.1 v) (pOpen ((S (pOpen (x.2.2.2 + 1) (pSet v (nI x.2.2.2) (pEmit T 12 (nI x.2.2.2) x)))).2.2.2.2 - 1) (S (pOpen (x.2.2.2 + 1) (pSet v (nI x.2.2.2) (pEmit T 12 (nI x.2.2.2) x)))).2))
def pLet (T : List Tok) (S : PSt → Bool × PSt) (st : PSt) : Bool × PSt :=
  if (pTake T 3 (pAdv st)).1 = true then
    (if (pTake T 61 (pTake T 3 (pAdv st)).2).1 = true then
      (if (S (pTake T 61 (pTake T 3 (pAdv st)).2).2).1 = true then
        (if (pTake T 13 (S (pTake T 61 (pTake T 3 (pAdv st)).2).2).2).1 = true then pBound T S (tkAt T (pAdv st)).2.1 (pTake T 13 (S (pTake T 61 (pTake T 3 (pAdv st)).2).2).2).2
        else (false, (pTake T 13 (S (pTake T 61 (pTake T 3 (pAdv st)).2).2).2).2))
      else (false, (S (pTake T 61 (pTake T 3 (pAdv st)).2).2).2))
    else (false, (pTake T 61 (pTake T 3 (pAdv st)).2).2))
  else (false, (pTake T 3 (pAdv st)).2)
def pParen (T : List Tok) (S : PSt → Bool × PSt) (st : PSt) : Bool × PSt := if (S (pAdv st)).1 = true then pTake T 41 (S (pAdv st)).2 else (false, (S (pAdv st)).2)
/-- a TERM with d levels left -/
def pTerm (T : List Tok) : Nat → PSt → Bool × PSt
  | 0, st => (false, st)
  | d + 1, st =>
    if (tkAt T st).1 = 2 ∨ (tkAt T st).1 = 5 then (true, pAdv (pEmit T (tkAt T st).1 (tkAt T st).2.1 st))
    else if (tkAt T st).1 = 3 then pLetter T st
    else if (tkAt T st).1 = 40 then pParen T (pSum T (pTerm T d)) st
    else if (tkAt T st).1 = 6 ∨ (tkAt T st).1 = 7 then pRounds T (pSum T (pTerm T d)) (tkAt T st).1 st
    else if (tkAt T st).1 = 10 ∨ (tkAt T st).1 = 11 then pPlain T (pSum T (pTerm T d)) (tkAt T st).1 st
    else if (tkAt T st).1 = 8 then pWay T (pSum T (pTerm T d)) st
    else if (tkAt T st).1 = 9 then pKind T (pSum T (pTerm T d)) st
    else if (tkAt T st).1 = 12 then pLet T (pSum T (pTerm T d)) st
    else (false, st)
/-- the cells k .. k + 9 are a Parser over the tokens T -/
def ParserAt (cI : ClassId) (ad : Nat → Nat) (ws : va_W) (k : Nat) (T : List Tok) (st : PSt) : Prop :=
  ws[k]? = some (ad k, .inr (1, [.ref (ad (k + 1)), .ref (ad (k + 5)), .ref (ad (k + 9)), .int (nI st.1), .int (nI st.2.2.2)])) ∧ TapeAt cI ad ws (k + 1) T ∧ TapeAt cI ad ws (k + 5) st.2.1 ∧ ws[k + 9]? = some (ad (k + 9), .inl (cI, 26, .inl st.2.2.1)) ∧ st.1 ≤ T.length
theorem ParserAt.tk {cI : ClassId} {ad : Nat → Nat} {ws : va_W} {k : Nat} {T : List Tok} {st : PSt} (h : ParserAt cI ad ws k T st) : tpE T (nI st.1) = tkAt T st := by
  obtain ⟨-, h1, -, -, h2⟩ := h
  have := h1.le
  exact tpE_n T (by omega)
theorem tk_lt {T : List Tok} {st : PSt} (h : ¬ (tkAt T st).1 = 0) : st.1 < T.length := by
  rcases Nat.lt_or_ge st.1 T.length with q | q
  · exact q
  · exfalso
    apply h
    unfold tkAt
    rw [List.getD_eq_getElem?_getD, List.getElem?_eq_none q]; rfl
theorem ParserAt.adv {cI : ClassId} {ad : Nat → Nat} {ws ws1 : va_W} {k : Nat} {T : List Tok} {st : PSt} {v : Int32} (h : ParserAt cI ad ws k T st) (u : x_upd ws k (ad k, .inr (1, [.ref (ad (k + 1)), .ref (ad (k + 5)), .ref (ad (k + 9)), .int v, .int (nI st.2.2.2)])) ws1) (ev : v = nI st.1 + 1) (hk : ¬ (tkAt T st).1 = 0) : ParserAt cI ad ws1 k T (pAdv st) := by
  obtain ⟨-, h1, h2, h3, h4⟩ := h
  have e : v = nI (pAdv st).1 := by rw [ev, nI_1]; rfl
  subst e
  exact ⟨u.1, h1.keep (u.fr (a := k) (b := k + 1) (by omega) (by omega)) (by omega), h2.keep (u.fr (a := k) (b := k + 1) (by omega) (by omega)) (by omega), (u.2 _ (by omega)).trans h3, tk_lt hk⟩
theorem ParserAt.opn {cI : ClassId} {ad : Nat → Nat} {ws ws1 : va_W} {k n : Nat} {T : List Tok} {st : PSt} {v : Int32} (h : ParserAt cI ad ws k T st) (u : x_upd ws k (ad k, .inr (1, [.ref (ad (k + 1)), .ref (ad (k + 5)), .ref (ad (k + 9)), .int (nI st.1), .int v])) ws1) (ev : v = nI n) : ParserAt cI ad ws1 k T (pOpen n st) := by
  obtain ⟨-, h1, h2, h3, h4⟩ := h
  subst ev
  exact ⟨u.1, h1.keep (u.fr (a := k) (b := k + 1) (by omega) (by omega)) (by omega), h2.keep (u.fr (a := k) (b := k + 1) (by omega) (by omega)) (by omega), (u.2 _ (by omega)).trans h3, h4⟩

set_option maxHeartbeats 4000000 in
set_option maxRecDepth 100000 in
theorem cP_slotOf (l : Launch) (D : va_G) (tys : List (ClassId × FieldType)) (A : Nat → Prop) (ws : va_W) (cI : ClassId) (hI : tys[0]? = some (cI, .int)) (ad : Nat → Nat) (k : Nat) (T : List Tok) (st : PSt) (v : Int32) (hp : ParserAt cI ad ws k T st) : x_Mi l yP_slotOf wP_slotOf (xR 0) D xCl tys A [.ref (ad k), .int v] ws (fun r ws1 => r = slI st.2.2.1 v ∧ ws = ws1) := by
  have hF : x_fr k (k + 10) ws ws := x_fr.rf
  obtain ⟨q0, qt, qp, qs, qa⟩ := id hp
  obtain ⟨fsTq, htoq⟩ := qt.obj
  obtain ⟨fsPq, hpoq⟩ := qp.obj
  refine x_enter (by decide) rfl (Nat.le_of_ble_eq_true rfl) (fun p e s m args below meth c ls hx hb hr hlk hml hown hnm hts hK hP hD hS hA hN hl => ?_)
  have hl : lv_has ls 2 [(0, .ref (ad k)), (1, .int v)] := hl
  refine lv_iload_n hx hb dP_slotOf_0 rfl (lv_at hl 1 rfl) ?_
  refine lv_if_lt (tgt := 22) hx hb dP_slotOf_1 (by decide) (fun c1 => ?_) (fun c1 => ?_)
  · refine lv_iconst (v := (-1)) hx hb dP_slotOf_22 (by decide) ?_
    exact x_iret hx hb hr hlk hK hP hD hS dP_slotOf_23 ⟨(if_neg (fun hc => by rw [i32_lt, i32_0] at c1; omega)).symm, rfl⟩
  · refine lv_iload_n hx hb dP_slotOf_4 rfl (lv_at hl 1 rfl) ?_
    refine lv_aload_n hx hb dP_slotOf_5 rfl (lv_at hl 0 rfl) ?_
    refine va_get (D := D) (cl := xCl) (ci := 1) (v := .ref (ad (k + 9))) (C := rnP) (T := tbP) (N := 5) hx hb hts inP hown hK hP k q0 rfl 2 (by decide) (hts _ tw_99) (fun _ h9 => h9) rfl dP_slotOf_6 ?_
    refine va_alen (v := 26) hx hb hK hP (k + 9) 0 qs hI (by rfl) dP_slotOf_9 ?_
    refine lv_icmp_ge (tgt := 22) hx hb dP_slotOf_10 (by decide) (fun c10 => ?_) (fun c10 => ?_)
    · refine lv_iconst (v := (-1)) hx hb dP_slotOf_22 (by decide) ?_
      exact x_iret hx hb hr hlk hK hP hD hS dP_slotOf_23 ⟨(if_neg (fun hc => by rw [i32_le, show (26 : Int32).toInt = 26 from rfl] at c10; omega)).symm, rfl⟩
    · obtain ⟨j, hj, ej⟩ := ix_of (n := 26) (by omega) c1 c10
      refine lv_aload_n hx hb dP_slotOf_13 rfl (lv_at hl 0 rfl) ?_
      refine va_get (D := D) (cl := xCl) (ci := 1) (v := .ref (ad (k + 9))) (C := rnP) (T := tbP) (N := 5) hx hb hts inP hown hK hP k q0 rfl 2 (by decide) (hts _ tw_99) (fun _ h9 => h9) rfl dP_slotOf_14 ?_
      refine lv_iload_n hx hb dP_slotOf_17 rfl (lv_at hl 1 rfl) ?_
      refine va_iald hx hb hK hP (k + 9) 0 qs hI (by rw [ej]; exact vp_in_nI (by omega) (by omega)) dP_slotOf_18 ?_
      refine lv_topi (fun v_1 ev_1 => ?_)
      refine lv_goto (tgt := 23) hx hb dP_slotOf_19 (by decide) ?_
      exact x_iret hx hb hr hlk hK hP hD hS dP_slotOf_23 ⟨by rw [ev_1, ej, nI_clamp (by omega)]; unfold slI; rw [nI_toInt (by omega), if_pos ⟨by omega, by omega⟩]; simp, rfl⟩

set_option maxHeartbeats 4000000 in
set_option maxRecDepth 100000 in
theorem cP_setSlot (l : Launch) (D : va_G) (tys : List (ClassId × FieldType)) (A : Nat → Prop) (ws : va_W) (cI : ClassId) (hI : tys[0]? = some (cI, .int)) (ad : Nat → Nat) (k : Nat) (T : List Tok) (st : PSt) (v xx : Int32) (hp : ParserAt cI ad ws k T st) : x_Mv l yP_setSlot wP_setSlot (xR 0) D xCl tys A [.ref (ad k), .int v, .int xx] ws (fun ws1 => x_fr k (k + 10) ws ws1 ∧ ParserAt cI ad ws1 k T (pSet v xx st)) := by
  have hF : x_fr k (k + 10) ws ws := x_fr.rf
  obtain ⟨q0, qt, qp, qs, qa⟩ := id hp
  obtain ⟨fsTq, htoq⟩ := qt.obj
  obtain ⟨fsPq, hpoq⟩ := qp.obj
  refine x_enter (by decide) rfl (Nat.le_of_ble_eq_true rfl) (fun p e s m args below meth c ls hx hb hr hlk hml hown hnm hts hK hP hD hS hA hN hl => ?_)
  have hl : lv_has ls 3 [(0, .ref (ad k)), (1, .int v), (2, .int xx)] := hl
  refine lv_iload_n hx hb dP_setSlot_0 rfl (lv_at hl 1 rfl) ?_
  refine lv_if_lt (tgt := 20) hx hb dP_setSlot_1 (by decide) (fun c1 => ?_) (fun c1 => ?_)
  · exact x_vret hx hb hr hlk hK hP hD hS dP_setSlot_20 ⟨hF, by have e : pSet v xx st = st := (by unfold pSet slU; rw [if_neg (fun hc => (by rw [i32_lt, i32_0] at c1; omega))]); rw [e]; exact hp⟩
  · refine lv_iload_n hx hb dP_setSlot_4 rfl (lv_at hl 1 rfl) ?_
    refine lv_aload_n hx hb dP_setSlot_5 rfl (lv_at hl 0 rfl) ?_
    refine va_get (D := D) (cl := xCl) (ci := 1) (v := .ref (ad (k + 9))) (C := rnP) (T := tbP) (N := 5) hx hb hts inP hown hK hP k q0 rfl 2 (by decide) (hts _ tw_99) (fun _ h9 => h9) rfl dP_setSlot_6 ?_
    refine va_alen (v := 26) hx hb hK hP (k + 9) 0 qs hI (by rfl) dP_setSlot_9 ?_
    refine lv_icmp_ge (tgt := 20) hx hb dP_setSlot_10 (by decide) (fun c10 => ?_) (fun c10 => ?_)
    · exact x_vret hx hb hr hlk hK hP hD hS dP_setSlot_20 ⟨hF, by have e : pSet v xx st = st := (by unfold pSet slU; rw [if_neg (fun hc => (by rw [i32_le, show (26 : Int32).toInt = 26 from rfl] at c10; omega))]); rw [e]; exact hp⟩
    · obtain ⟨j, hj, ej⟩ := ix_of (n := 26) (by omega) c1 c10
      refine lv_aload_n hx hb dP_setSlot_13 rfl (lv_at hl 0 rfl) ?_
      refine va_get (D := D) (cl := xCl) (ci := 1) (v := .ref (ad (k + 9))) (C := rnP) (T := tbP) (N := 5) hx hb hts inP hown hK hP k q0 rfl 2 (by decide) (hts _ tw_99) (fun _ h9 => h9) rfl dP_setSlot_14 ?_
      refine lv_iload_n hx hb dP_setSlot_17 rfl (lv_at hl 1 rfl) ?_
      refine lv_iload_n hx hb dP_setSlot_18 rfl (lv_at hl 2 rfl) ?_
      refine va_iast hx hb hK hP hD hS (k + 9) 0 qs hI (by rw [ej]; exact vp_in_nI (by omega) (by omega)) dP_setSlot_19 (fun H locs hP hD hS => ?_)
      obtain ⟨ws_2, hu_1, hP, hD⟩ := x_gen qs hP hD
      have h_3 : ws_2[k + 9]? = some (ad (k + 9), .inl (cI, 26, .inl (upd st.2.2.1 (v).toNatClampNeg xx))) := hu_1.1
      have h_4 := (hu_1.2 k (by omega)).trans q0
      have h_5 := (hu_1.2 (k + 1) (by omega)).trans htoq
      have h_6 := (hu_1.2 (k + 5) (by omega)).trans hpoq
      exact x_vret hx hb hr hlk hK hP hD hS dP_setSlot_20 ⟨hu_1.fr (by omega) (by omega), (by have e : pSet v xx st = (st.1, st.2.1, upd st.2.2.1 j xx, st.2.2.2) := (by unfold pSet slU; rw [ej, nI_toInt (by omega), if_pos ⟨by omega, by omega⟩]; simp); rw [e]; exact ⟨h_4, qt.keep (hu_1.fr (a := k + 9) (b := k + 10) (by omega) (by omega)) (by omega), qp.keep (hu_1.fr (a := k + 9) (b := k + 10) (by omega) (by omega)) (by omega), (by have q9 := h_3; rw [ej, nI_clamp (by omega)] at q9; exact q9), qa⟩)⟩

set_option maxHeartbeats 4000000 in
set_option maxRecDepth 100000 in
theorem cP_stopPlace (l : Launch) (D : va_G) (tys : List (ClassId × FieldType)) (A : Nat → Prop) (ws : va_W) (cI : ClassId) (hI : tys[0]? = some (cI, .int)) (ad : Nat → Nat) (k : Nat) (T : List Tok) (st : PSt) (hp : ParserAt cI ad ws k T st) : x_Mi l yP_stopPlace wP_stopPlace (xR 1) D xCl tys A [.ref (ad k)] ws (fun r ws1 => r = (tkAt T st).2.2 ∧ ws = ws1) := by
  have hF : x_fr k (k + 10) ws ws := x_fr.rf
  obtain ⟨q0, qt, qp, qs, qa⟩ := id hp
  obtain ⟨fsTq, htoq⟩ := qt.obj
  obtain ⟨fsPq, hpoq⟩ := qp.obj
  refine x_enter (by decide) rfl (Nat.le_of_ble_eq_true rfl) (fun p e s m args below meth c ls hx hb hr hlk hml hown hnm hts hK hP hD hS hA hN hl => ?_)
  have hl : lv_has ls 1 [(0, .ref (ad k))] := hl
  refine lv_aload_n hx hb dP_stopPlace_0 rfl (lv_at hl 0 rfl) ?_
  refine va_get (D := D) (cl := xCl) (ci := 1) (v := .ref (ad (k + 1))) (C := rnP) (T := tbP) (N := 5) hx hb hts inP hown hK hP k q0 rfl 0 (by decide) (hts _ tw_97) (fun _ h9 => h9) rfl dP_stopPlace_1 ?_
  refine lv_aload_n hx hb dP_stopPlace_4 rfl (lv_at hl 0 rfl) ?_
  refine va_get (D := D) (cl := xCl) (ci := 1) (v := .int (nI st.1)) (C := rnP) (T := tbP) (N := 5) hx hb hts inP hown hK hP k q0 rfl 3 (by decide) (hts _ tw_100) (fun _ h9 => h9) rfl dP_stopPlace_5 ?_
  refine x_calli (x_runV (n := 1) (As := [.int (nI st.1)]) (rest := []) ⟨hx, hb, hml, hown, hts⟩ (cT_placeAt l D tys A ws cI hI ad (k + 1) T ((nI st.1)) qt) tw_341 tw_342 tw_343 tw_5 tw_344 (by decide +kernel) rfl rfl (xR_ok (by omega) (by omega)) ⟨Nat.zero_le _, Nat.zero_le _⟩ (va_recv hK hP (ci := 4) (q0 := k + 1) rfl htoq) hK hP hD hS hA hN rfl hl.1 rfl (lv_room (Nat.le_of_ble_eq_true rfl)) dP_stopPlace_8) hS (fun rpl ws_1 H locs hpl hP hD hS => ?_)
  obtain ⟨hpl, rfl⟩ := hpl
  rw [hp.tk] at hpl
  exact x_iret hx hb hr hlk hK hP hD hS dP_stopPlace_11 ⟨hpl, rfl⟩

set_option maxHeartbeats 4000000 in
set_option maxRecDepth 100000 in
theorem cP_program (l : Launch) (D : va_G) (tys : List (ClassId × FieldType)) (A : Nat → Prop) (ws : va_W) (cI : ClassId) (hI : tys[0]? = some (cI, .int)) (ad : Nat → Nat) (k : Nat) (T : List Tok) (st : PSt) (hp : ParserAt cI ad ws k T st) : x_Mr l yP_program wP_program (xR 0) D xCl tys A [.ref (ad k)] ws (fun a ws1 => a = ad (k + 5) ∧ ws = ws1) := by
  have hF : x_fr k (k + 10) ws ws := x_fr.rf
  obtain ⟨q0, qt, qp, qs, qa⟩ := id hp
  obtain ⟨fsTq, htoq⟩ := qt.obj
  obtain ⟨fsPq, hpoq⟩ := qp.obj
  refine x_enter (by decide) rfl (Nat.le_of_ble_eq_true rfl) (fun p e s m args below meth c ls hx hb hr hlk hml hown hnm hts hK hP hD hS hA hN hl => ?_)
  have hl : lv_has ls 1 [(0, .ref (ad k))] := hl
  refine lv_aload_n hx hb dP_program_0 rfl (lv_at hl 0 rfl) ?_
  refine va_get (D := D) (cl := xCl) (ci := 1) (v := .ref (ad (k + 5))) (C := rnP) (T := tbP) (N := 5) hx hb hts inP hown hK hP k q0 rfl 1 (by decide) (hts _ tw_98) (fun _ h9 => h9) rfl dP_program_1 ?_
  exact x_aret hx hb hr (Or.inl ⟨_, rfl⟩) hlk hK hP hD hS dP_program_4 ⟨rfl, rfl⟩

set_option maxHeartbeats 4000000 in
set_option maxRecDepth 100000 in
/-- Parser.take(kind) -/
theorem cP_take (l : Launch) (D : va_G) (tys : List (ClassId × FieldType)) (A : Nat → Prop) (ws : va_W) (cI : ClassId) (hI : tys[0]? = some (cI, .int)) (ad : Nat → Nat) (k : Nat) (T : List Tok) (st : PSt) (kk : Int32) (hk0 : ¬ kk = 0) (hp : ParserAt cI ad ws k T st) : x_Mi l yP_take wP_take (xR 1) D xCl tys A [.ref (ad k), .int kk] ws (fun r ws1 => r = b2i (pTake T kk st).1 ∧ x_fr k (k + 10) ws ws1 ∧ ParserAt cI ad ws1 k T (pTake T kk st).2) := by
  have hF : x_fr k (k + 10) ws ws := x_fr.rf
  obtain ⟨q0, qt, qp, qs, qa⟩ := id hp
  obtain ⟨fsTq, htoq⟩ := qt.obj
  obtain ⟨fsPq, hpoq⟩ := qp.obj
  refine x_enter (by decide) rfl (Nat.le_of_ble_eq_true rfl) (fun p e s m args below meth c ls hx hb hr hlk hml hown hnm hts hK hP hD hS hA hN hl => ?_)
  have hl : lv_has ls 2 [(0, .ref (ad k)), (1, .int kk)] := hl
  refine lv_aload_n hx hb dP_take_0 rfl (lv_at hl 0 rfl) ?_
  refine va_get (D := D) (cl := xCl) (ci := 1) (v := .ref (ad (k + 1))) (C := rnP) (T := tbP) (N := 5) hx hb hts inP hown hK hP k q0 rfl 0 (by decide) (hts _ tw_97) (fun _ h9 => h9) rfl dP_take_1 ?_
  refine lv_aload_n hx hb dP_take_4 rfl (lv_at hl 0 rfl) ?_
  refine va_get (D := D) (cl := xCl) (ci := 1) (v := .int (nI st.1)) (C := rnP) (T := tbP) (N := 5) hx hb hts inP hown hK hP k q0 rfl 3 (by decide) (hts _ tw_100) (fun _ h9 => h9) rfl dP_take_5 ?_
  refine x_calli (x_runV (n := 1) (As := [.int (nI st.1)]) (rest := []) ⟨hx, hb, hml, hown, hts⟩ (cT_kindAt l D tys A ws cI hI ad (k + 1) T ((nI st.1)) qt) tw_329 tw_330 tw_331 tw_5 tw_332 (by decide +kernel) rfl rfl (xR_ok (by omega) (by omega)) ⟨Nat.zero_le _, Nat.zero_le _⟩ (va_recv hK hP (ci := 4) (q0 := k + 1) rfl htoq) hK hP hD hS hA hN rfl hl.1 rfl (lv_room (Nat.le_of_ble_eq_true rfl)) dP_take_8) hS (fun rkd ws_1 H locs hkd hP hD hS => ?_)
  obtain ⟨hkd, rfl⟩ := hkd
  rw [hp.tk] at hkd
  refine lv_iload_n hx hb dP_take_11 rfl (lv_at hl 1 rfl) ?_
  refine lv_icmp_eq (tgt := 17) hx hb dP_take_12 (by decide) (fun c12 => ?_) (fun c12 => ?_)
  · refine lv_aload_n hx hb dP_take_17 rfl (lv_at hl 0 rfl) ?_
    refine lv_dup hx hb dP_take_18 rfl ?_
    refine va_get (D := D) (cl := xCl) (ci := 1) (v := .int (nI st.1)) (C := rnP) (T := tbP) (N := 5) hx hb hts inP hown hK hP k q0 rfl 3 (by decide) (hts _ tw_100) (fun _ h9 => h9) rfl dP_take_19 ?_
    refine lv_iconst (v := 1) hx hb dP_take_22 (by decide) ?_
    refine lv_iadd hx hb dP_take_23 ?_
    refine lv_topi (fun v_2 ev_2 => ?_)
    refine va_put (D := D) (cl := xCl) (ci := 1) (v := .int v_2) (ty := .int) (C := rnP) (T := tbP) (N := 5) hx hb hts inP tyP toP nmP hown hK hP hD hS k q0 rfl 3 (by decide) (hts _ tw_100) (fun _ h9 => h9) rfl (by decide +kernel) rfl rfl (Nat.le_of_ble_eq_true rfl) dP_take_24 (fun H locs hP hD hS => ?_)
    obtain ⟨ws_4, hu_3, hP, hD⟩ := x_gen q0 hP hD
    have h_5 : ws_4[k]? = some (ad k, .inr (1, [.ref (ad (k + 1)), .ref (ad (k + 5)), .ref (ad (k + 9)), .int v_2, .int (nI st.2.2.2)])) := hu_3.1
    have h_6 := (hu_3.2 (k + 1) (by omega)).trans htoq
    have h_7 := (hu_3.2 (k + 5) (by omega)).trans hpoq
    have h_8 := (hu_3.2 (k + 9) (by omega)).trans qs
    refine lv_iconst (v := 1) hx hb dP_take_27 (by decide) ?_
    exact x_zret hx hb hr rfl hlk hK hP hD hS dP_take_28 ⟨by rw [show pTake T kk st = (true, pAdv st) from if_pos (by rw [← hkd]; exact c12)]; rfl, hu_3.fr (by omega) (by omega), by rw [show pTake T kk st = (true, pAdv st) from if_pos (by rw [← hkd]; exact c12)]; exact hp.adv hu_3 ev_2 (by rw [← hkd, c12]; exact hk0)⟩
  · refine lv_iconst (v := 0) hx hb dP_take_15 (by decide) ?_
    exact x_zret hx hb hr rfl hlk hK hP hD hS dP_take_16 ⟨by rw [show pTake T kk st = (false, st) from if_neg (by rw [← hkd]; exact c12)]; rfl, hF, by rw [show pTake T kk st = (false, st) from if_neg (by rw [← hkd]; exact c12)]; exact hp⟩

set_option maxHeartbeats 4000000 in
set_option maxRecDepth 100000 in
/-- Parser.emit(kind, value) -/
theorem cP_emit (l : Launch) (D : va_G) (tys : List (ClassId × FieldType)) (A : Nat → Prop) (ws : va_W) (cI : ClassId) (hI : tys[0]? = some (cI, .int)) (ad : Nat → Nat) (k : Nat) (T : List Tok) (st : PSt) (aa vv : Int32) (hp : ParserAt cI ad ws k T st) : x_Mv l yP_emit wP_emit (xR 1) D xCl tys A [.ref (ad k), .int aa, .int vv] ws (fun ws1 => x_fr k (k + 10) ws ws1 ∧ ParserAt cI ad ws1 k T (pEmit T aa vv st)) := by
  have hF : x_fr k (k + 10) ws ws := x_fr.rf
  obtain ⟨q0, qt, qp, qs, qa⟩ := id hp
  obtain ⟨fsTq, htoq⟩ := qt.obj
  obtain ⟨fsPq, hpoq⟩ := qp.obj
  refine x_enter (by decide) rfl (Nat.le_of_ble_eq_true rfl) (fun p e s m args below meth c ls hx hb hr hlk hml hown hnm hts hK hP hD hS hA hN hl => ?_)
  have hl : lv_has ls 3 [(0, .ref (ad k)), (1, .int aa), (2, .int vv)] := hl
  refine lv_aload_n hx hb dP_emit_0 rfl (lv_at hl 0 rfl) ?_
  refine va_get (D := D) (cl := xCl) (ci := 1) (v := .ref (ad (k + 5))) (C := rnP) (T := tbP) (N := 5) hx hb hts inP hown hK hP k q0 rfl 1 (by decide) (hts _ tw_98) (fun _ h9 => h9) rfl dP_emit_1 ?_
  refine lv_iload_n hx hb dP_emit_4 rfl (lv_at hl 1 rfl) ?_
  refine lv_iload_n hx hb dP_emit_5 rfl (lv_at hl 2 rfl) ?_
  refine lv_aload_n hx hb dP_emit_6 rfl (lv_at hl 0 rfl) ?_
  refine va_get (D := D) (cl := xCl) (ci := 1) (v := .ref (ad (k + 1))) (C := rnP) (T := tbP) (N := 5) hx hb hts inP hown hK hP k q0 rfl 0 (by decide) (hts _ tw_97) (fun _ h9 => h9) rfl dP_emit_7 ?_
  refine lv_aload_n hx hb dP_emit_10 rfl (lv_at hl 0 rfl) ?_
  refine va_get (D := D) (cl := xCl) (ci := 1) (v := .int (nI st.1)) (C := rnP) (T := tbP) (N := 5) hx hb hts inP hown hK hP k q0 rfl 3 (by decide) (hts _ tw_100) (fun _ h9 => h9) rfl dP_emit_11 ?_
  refine x_calli (x_runV (n := 1) (As := [.int (nI st.1)]) (rest := [.int vv, .int aa, .ref (ad (k + 5))]) ⟨hx, hb, hml, hown, hts⟩ (cT_placeAt l D tys A ws cI hI ad (k + 1) T ((nI st.1)) qt) tw_341 tw_342 tw_343 tw_5 tw_344 (by decide +kernel) rfl rfl (xR_ok (by omega) (by omega)) ⟨Nat.zero_le _, Nat.zero_le _⟩ (va_recv hK hP (ci := 4) (q0 := k + 1) rfl htoq) hK hP hD hS hA hN rfl hl.1 rfl (lv_room (Nat.le_of_ble_eq_true rfl)) dP_emit_14) hS (fun rpl ws_1 H locs hpl hP hD hS => ?_)
  obtain ⟨hpl, rfl⟩ := hpl
  rw [hp.tk] at hpl
  refine x_callv (x_runV (n := 3) (As := [.int aa, .int vv, .int rpl]) (rest := []) ⟨hx, hb, hml, hown, hts⟩ (cT_add l D tys A ws cI hI ad (k + 5) st.2.1 aa vv rpl qp) tw_345 tw_311 tw_312 tw_5 tw_313 (by decide +kernel) rfl rfl ⟨by decide, by decide⟩ ⟨Nat.zero_le _, Nat.zero_le _⟩ (va_recv hK hP (ci := 4) (q0 := k + 5) rfl hpoq) hK hP hD hS hA hN rfl hl.1 rfl (lv_room (Nat.le_of_ble_eq_true rfl)) dP_emit_17) hS (fun ws_2 H locs hta hP hD hS => ?_)
  exact x_vret hx hb hr hlk hK hP hD hS dP_emit_20 ⟨hta.1.wd (by omega) (by omega), (hta.1 _ (by omega)).trans q0, qt.keep hta.1 (by omega), (by have q9 := hta.2; rw [hpl] at q9; exact q9), (hta.1 _ (by omega)).trans qs, qa⟩

set_option maxHeartbeats 4000000 in
set_option maxRecDepth 100000 in
/-- Parser.letterTerm() -/
theorem cP_letterTerm (l : Launch) (D : va_G) (tys : List (ClassId × FieldType)) (A : Nat → Prop) (ws : va_W) (cI : ClassId) (hI : tys[0]? = some (cI, .int)) (ad : Nat → Nat) (k : Nat) (T : List Tok) (st : PSt) (hkn : ¬ (tkAt T st).1 = 0) (hp : ParserAt cI ad ws k T st) : x_Mi l yP_letterTerm wP_letterTerm (xR 2) D xCl tys A [.ref (ad k)] ws (fun r ws1 => r = b2i (pLetter T st).1 ∧ x_fr k (k + 10) ws ws1 ∧ ParserAt cI ad ws1 k T (pLetter T st).2) := by
  have hF : x_fr k (k + 10) ws ws := x_fr.rf
  obtain ⟨q0, qt, qp, qs, qa⟩ := id hp
  obtain ⟨fsTq, htoq⟩ := qt.obj
  obtain ⟨fsPq, hpoq⟩ := qp.obj
  refine x_enter (by decide) rfl (Nat.le_of_ble_eq_true rfl) (fun p e s m args below meth c ls hx hb hr hlk hml hown hnm hts hK hP hD hS hA hN hl => ?_)
  have hl : lv_has ls 2 [(0, .ref (ad k))] := hl
  refine lv_aload_n hx hb dP_letterTerm_0 rfl (lv_at hl 0 rfl) ?_
  refine lv_aload_n hx hb dP_letterTerm_1 rfl (lv_at hl 0 rfl) ?_
  refine va_get (D := D) (cl := xCl) (ci := 1) (v := .ref (ad (k + 1))) (C := rnP) (T := tbP) (N := 5) hx hb hts inP hown hK hP k q0 rfl 0 (by decide) (hts _ tw_97) (fun _ h9 => h9) rfl dP_letterTerm_2 ?_
  refine lv_aload_n hx hb dP_letterTerm_5 rfl (lv_at hl 0 rfl) ?_
  refine va_get (D := D) (cl := xCl) (ci := 1) (v := .int (nI st.1)) (C := rnP) (T := tbP) (N := 5) hx hb hts inP hown hK hP k q0 rfl 3 (by decide) (hts _ tw_100) (fun _ h9 => h9) rfl dP_letterTerm_6 ?_
  refine x_calli (x_runV (n := 1) (As := [.int (nI st.1)]) (rest := [.ref (ad k)]) ⟨hx, hb, hml, hown, hts⟩ (cT_valueAt l D tys A ws cI hI ad (k + 1) T ((nI st.1)) qt) tw_333 tw_334 tw_335 tw_5 tw_336 (by decide +kernel) rfl rfl (xR_ok (by omega) (by omega)) ⟨Nat.zero_le _, Nat.zero_le _⟩ (va_recv hK hP (ci := 4) (q0 := k + 1) rfl htoq) hK hP hD hS hA hN rfl hl.1 rfl (lv_room (Nat.le_of_ble_eq_true rfl)) dP_letterTerm_9) hS (fun rvl ws_1 H locs hvl hP hD hS => ?_)
  obtain ⟨hvl, rfl⟩ := hvl
  rw [hp.tk] at hvl
  refine x_calli (x_runV (n := 1) (As := [.int rvl]) (rest := []) ⟨hx, hb, hml, hown, hts⟩ (cP_slotOf l D tys A ws cI hI ad k T st rvl hp) tw_350 tw_352 ts_P_slotOf tw_4 tw_353 (by decide +kernel) rfl rfl (xR_ok (by omega) (by omega)) ⟨Nat.zero_le _, Nat.zero_le _⟩ (va_recv hK hP (ci := 1) (q0 := k) rfl q0) hK hP hD hS hA hN rfl hl.1 rfl (lv_room (Nat.le_of_ble_eq_true rfl)) dP_letterTerm_12) hS (fun rsl ws_2 H locs hsl hP hD hS => ?_)
  obtain ⟨hsl, rfl⟩ := hsl
  refine lv_istore_n (lv' := [(1, .int rsl), (0, .ref (ad k))]) hx hb dP_letterTerm_15 rfl hl (by decide) rfl (fun ls hl => ?_)
  refine lv_iload_n hx hb dP_letterTerm_16 rfl (lv_at hl 0 rfl) ?_
  refine lv_iconst (v := (-1)) hx hb dP_letterTerm_17 (by decide) ?_
  refine lv_icmp_ne (tgt := 23) hx hb dP_letterTerm_18 (by decide) (fun c18 => ?_) (fun c18 => ?_)
  · refine lv_aload_n hx hb dP_letterTerm_23 rfl (lv_at hl 1 rfl) ?_
    refine lv_iconst (v := 3) hx hb dP_letterTerm_24 (by decide) ?_
    refine lv_iload_n hx hb dP_letterTerm_25 rfl (lv_at hl 0 rfl) ?_
    refine x_callv (x_runV (n := 2) (As := [.int 3, .int rsl]) (rest := []) ⟨hx, hb, hml, hown, hts⟩ (cP_emit l D tys A ws cI hI ad k T st 3 rsl hp) tw_337 tw_339 ts_P_emit tw_4 tw_340 (by decide +kernel) rfl rfl (xR_ok (by omega) (by omega)) ⟨Nat.zero_le _, Nat.zero_le _⟩ (va_recv hK hP (ci := 1) (q0 := k) rfl q0) hK hP hD hS hA hN rfl hl.1 rfl (lv_room (Nat.le_of_ble_eq_true rfl)) dP_letterTerm_26) hS (fun ws_4 H locs hv_3 hP hD hS => ?_)
    obtain ⟨hF9, hp⟩ := hv_3
    have hF := hF.tr hF9
    obtain ⟨q_50, q_5t, q_5p, q_5s, q_5a⟩ := id hp
    obtain ⟨fsTq_5, htoq_5⟩ := q_5t.obj
    obtain ⟨fsPq_5, hpoq_5⟩ := q_5p.obj
    refine lv_aload_n hx hb dP_letterTerm_29 rfl (lv_at hl 1 rfl) ?_
    refine lv_dup hx hb dP_letterTerm_30 rfl ?_
    refine va_get (D := D) (cl := xCl) (ci := 1) (v := .int (nI ((pEmit T 3 rsl st)).1)) (C := rnP) (T := tbP) (N := 5) hx hb hts inP hown hK hP k q_50 rfl 3 (by decide) (hts _ tw_100) (fun _ h9 => h9) rfl dP_letterTerm_31 ?_
    refine lv_iconst (v := 1) hx hb dP_letterTerm_34 (by decide) ?_
    refine lv_iadd hx hb dP_letterTerm_35 ?_
    refine lv_topi (fun v_6 ev_6 => ?_)
    refine va_put (D := D) (cl := xCl) (ci := 1) (v := .int v_6) (ty := .int) (C := rnP) (T := tbP) (N := 5) hx hb hts inP tyP toP nmP hown hK hP hD hS k q_50 rfl 3 (by decide) (hts _ tw_100) (fun _ h9 => h9) rfl (by decide +kernel) rfl rfl (Nat.le_of_ble_eq_true rfl) dP_letterTerm_36 (fun H locs hP hD hS => ?_)
    obtain ⟨ws_8, hu_7, hP, hD⟩ := x_gen q_50 hP hD
    have h_9 : ws_8[k]? = some (ad k, .inr (1, [.ref (ad (k + 1)), .ref (ad (k + 5)), .ref (ad (k + 9)), .int v_6, .int (nI ((pEmit T 3 rsl st)).2.2.2)])) := hu_7.1
    have h_10 := (hu_7.2 (k + 1) (by omega)).trans htoq_5
    have h_11 := (hu_7.2 (k + 5) (by omega)).trans hpoq_5
    have h_12 := (hu_7.2 (k + 9) (by omega)).trans q_5s
    have hp := hp.adv hu_7 ev_6 (hkn)
    have hF := hF.tr (hu_7.fr (a := k) (b := k + 10) (by omega) (by omega))
    obtain ⟨q_130, q_13t, q_13p, q_13s, q_13a⟩ := id hp
    obtain ⟨fsTq_13, htoq_13⟩ := q_13t.obj
    obtain ⟨fsPq_13, hpoq_13⟩ := q_13p.obj
    refine lv_iconst (v := 1) hx hb dP_letterTerm_39 (by decide) ?_
    exact x_zret hx hb hr rfl hlk hK hP hD hS dP_letterTerm_40 ⟨by unfold pLetter; rw [if_neg (by rw [← hvl, ← hsl]; exact c18)]; rfl, hF, by unfold pLetter; rw [if_neg (by rw [← hvl, ← hsl]; exact c18), ← hvl, ← hsl]; exact hp⟩
  · refine lv_iconst (v := 0) hx hb dP_letterTerm_21 (by decide) ?_
    exact x_zret hx hb hr rfl hlk hK hP hD hS dP_letterTerm_22 ⟨by unfold pLetter; rw [if_pos (by rw [← hvl, ← hsl]; exact c18)]; rfl, hF, by unfold pLetter; rw [if_pos (by rw [← hvl, ← hsl]; exact c18)]; exact hp⟩
