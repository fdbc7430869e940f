-- ===== Graph: the pure picture =====
/-- the targets in order: name (10 * package + digit), kind, needs -/
abbrev Gr : Type := List (Nat × Nat × List Nat)
def gN (g : Gr) (t : Nat) : Nat := (g.getD t (0, 0, [])).1
def gK (g : Gr) (t : Nat) : Nat := (g.getD t (0, 0, [])).2.1
def gD (g : Gr) (t : Nat) : List Nat := (g.getD t (0, 0, [])).2.2
/-- the number of the target of a name -/
def gNumN (g : Gr) (nm : Nat) : Nat → Option Nat
  | 0 => none
  | n + 1 => match gNumN g nm n with
    | some t => some t
    | none => if gN g n = nm then some n else none
def gNum (g : Gr) (nm : Nat) : Option Nat := gNumN g nm g.length
def gNo (g : Gr) (nm : Nat) : Int32 := match gNum g nm with
  | some t => nI t
  | none => -1
def GrOK (g : Gr) : Prop := g.length ≤ 30 ∧ (∀ t, t < g.length → gN g t < 60 ∧ gK g t < 4) ∧ (∀ t u, t < g.length → u < g.length → gN g t = gN g u → t = u) ∧ ∀ t, (gD g t).Nodup ∧ (gD g t).length ≤ 8 ∧ ∀ u ∈ gD g t, u < g.length
/-- the arrays hold the targets -/
def GrRel (g : Gr) (F : Nat → Nat → Int32) : Prop := GrOK g ∧ (∀ t, t < g.length → F 1 t = nI (gN g t)) ∧ (∀ t, t < g.length → F 2 t = nI (gK g t)) ∧ (∀ nm, nm < 60 → F 3 nm = gNo g nm) ∧ (∀ t i, t < 30 → i < (gD g t).length → F 4 (t * 8 + i) = nI ((gD g t).getD i 0)) ∧ (∀ t, t < 30 → F 5 t = nI (gD g t).length) ∧ (∀ t, t < 30 → ∀ i, i < 32 → bt (F 6 t) i = decide (i ∈ gD g t)) ∧ ∀ u, u < 30 → ∀ i, i < 32 → bt (F 7 u) i = decide (u ∈ gD g i)
/-- the cells k .. k + 8 are a Graph with these arrays -/
def GraphF (cI : ClassId) (ad : Nat → Nat) (ws : va_W) (k : Nat) (F : Nat → Nat → Int32) (n : Nat) : Prop := ws[k]? = some (ad k, .inr (0, [.ref (ad (k + 1)), .ref (ad (k + 2)), .ref (ad (k + 3)), .ref (ad (k + 4)), .ref (ad (k + 5)), .ref (ad (k + 6)), .ref (ad (k + 7)), .ref (ad (k + 8)), .int (nI n)])) ∧ ws[k + 1]? = some (ad (k + 1), .inl (cI, 30, .inl (F 1))) ∧ ws[k + 2]? = some (ad (k + 2), .inl (cI, 30, .inl (F 2))) ∧ ws[k + 3]? = some (ad (k + 3), .inl (cI, 60, .inl (F 3))) ∧ ws[k + 4]? = some (ad (k + 4), .inl (cI, 240, .inl (F 4))) ∧ ws[k + 5]? = some (ad (k + 5), .inl (cI, 30, .inl (F 5))) ∧ ws[k + 6]? = some (ad (k + 6), .inl (cI, 30, .inl (F 6))) ∧ ws[k + 7]? = some (ad (k + 7), .inl (cI, 30, .inl (F 7))) ∧ ws[k + 8]? = some (ad (k + 8), .inl (cI, 30, .inl (F 8)))
def GraphAt (cI : ClassId) (ad : Nat → Nat) (ws : va_W) (k : Nat) (g : Gr) : Prop := ∃ F, GraphF cI ad ws k F g.length ∧ GrRel g F
theorem gD_out {g : Gr} {t : Nat} (h : g.length ≤ t) : gD g t = [] := by
  unfold gD
  rw [List.getD_eq_getElem?_getD, List.getElem?_eq_none h]; rfl
theorem GraphAt.obj {cI : ClassId} {ad : Nat → Nat} {ws : va_W} {k : Nat} {g : Gr} (h : GraphAt cI ad ws k g) : ∃ fs, ws[k]? = some (ad k, .inr (0, fs)) := by
  obtain ⟨F, h0, -⟩ := h
  exact ⟨_, h0.1⟩
theorem GraphAt.ok {cI : ClassId} {ad : Nat → Nat} {ws : va_W} {k : Nat} {g : Gr} (h : GraphAt cI ad ws k g) : GrOK g := by
  obtain ⟨F, -, h0⟩ := h
  exact h0.1
theorem GraphAt.keep {cI : ClassId} {ad : Nat → Nat} {ws ws1 : va_W} {k a b : Nat} {g : Gr} (h : GraphAt cI ad ws k g) (hf : x_fr a b ws ws1) (hd : k + 9 ≤ a ∨ b ≤ k) : GraphAt cI ad ws1 k g := by
  obtain ⟨F, ⟨h0, h1, h2, h3, h4, h5, h6, h7, h8⟩, r⟩ := h
  exact ⟨F, ⟨(hf _ (by omega)).trans h0, (hf _ (by omega)).trans h1, (hf _ (by omega)).trans h2, (hf _ (by omega)).trans h3, (hf _ (by omega)).trans h4, (hf _ (by omega)).trans h5, (hf _ (by omega)).trans h6, (hf _ (by omega)).trans h7, (hf _ (by omega)).trans h8⟩, r⟩
-- ===== below =====
def blw (v b : Int32) : Bool := decide (0 ≤ v.toInt) && decide (v.toInt < b.toInt)
theorem blw_neg {v b : Int32} (h : v < 0) : blw v b = false := by
  rw [i32_lt, i32_0] at h
  unfold blw
  rw [decide_eq_false (by omega)]; rfl
theorem blw_ge {v b : Int32} (h : b ≤ v) : blw v b = false := by
  rw [i32_le] at h
  unfold blw
  rw [decide_eq_false (p := v.toInt < b.toInt) (by omega)]; cases decide (0 ≤ v.toInt) <;> rfl
theorem blw_in {v b : Int32} (h : ¬ v < 0) (h2 : ¬ b ≤ v) : blw v b = true := by
  rw [i32_lt, i32_0] at h
  rw [i32_le] at h2
  unfold blw
  rw [decide_eq_true (by omega), decide_eq_true (by omega)]; rfl
theorem blw_of {v : Int32} {n : Nat} {r : Int32} (hn : n < 2 ^ 31) (e : r = b2i (blw v (nI n))) (h : ¬ r = 0) : ∃ j : Nat, j < n ∧ v = nI j := by
  rw [e, b2i_n0] at h
  unfold blw at h
  rw [nI_toInt hn, Bool.and_eq_true, decide_eq_true_eq, decide_eq_true_eq] at h
  obtain ⟨j, hj, rfl⟩ := nI_of (x := v) (by rw [i32_lt, i32_0]; omega)
  rw [nI_toInt hj] at h
  exact ⟨j, by omega, rfl⟩
theorem blw_no {v : Int32} {n : Nat} {r : Int32} (hn : n < 2 ^ 31) (e : r = b2i (blw v (nI n))) (h : r = 0) : ¬ (0 ≤ v.toInt ∧ v.toInt < (n : Int)) := by
  rw [e, b2i_0] at h
  unfold blw at h
  rw [nI_toInt hn] at h
  intro hc
  rw [decide_eq_true hc.1, decide_eq_true hc.2] at h
  cases h

set_option maxHeartbeats 4000000 in
set_option maxRecDepth 100000 in
/-- Graph.below(value, bound) -/
theorem cG_below (l : Launch) (D : va_G) (tys : List (ClassId × FieldType)) (A : Nat → Prop) (ws : va_W) (v b : Int32) : x_Mi l yG_below wG_below (xR 0) D xCl tys A [.int v, .int b] ws (fun r ws1 => r = b2i (blw v b) ∧ ws = ws1) := by
  refine x_enter (by decide) rfl (Nat.le_of_ble_eq_true rfl) (fun p e s m args below meth c ls hx hb hr hlk hml hown hnm hts hK hP hD hS hA hN hl => ?_)
  have hl : lv_has ls 2 [(0, .int v), (1, .int b)] := hl
  refine lv_iload_n hx hb dG_below_0 rfl (lv_at hl 0 rfl) ?_
  refine lv_if_lt (tgt := 13) hx hb dG_below_1 (by decide) (fun c1 => ?_) (fun c1 => ?_)
  · refine lv_iconst (v := 0) hx hb dG_below_13 (by decide) ?_
    exact x_zret hx hb hr rfl hlk hK hP hD hS dG_below_14 ⟨by rw [blw_neg c1]; rfl, rfl⟩
  · refine lv_iload_n hx hb dG_below_4 rfl (lv_at hl 0 rfl) ?_
    refine lv_iload_n hx hb dG_below_5 rfl (lv_at hl 1 rfl) ?_
    refine lv_icmp_ge (tgt := 13) hx hb dG_below_6 (by decide) (fun c6 => ?_) (fun c6 => ?_)
    · refine lv_iconst (v := 0) hx hb dG_below_13 (by decide) ?_
      exact x_zret hx hb hr rfl hlk hK hP hD hS dG_below_14 ⟨by rw [blw_ge c6]; rfl, rfl⟩
    · refine lv_iconst (v := 1) hx hb dG_below_9 (by decide) ?_
      refine lv_goto (tgt := 14) hx hb dG_below_10 (by decide) ?_
      exact x_zret hx hb hr rfl hlk hK hP hD hS dG_below_14 ⟨by rw [blw_in c1 c6]; rfl, rfl⟩

/-- the i-th need of t, -1 where there is none -/
def gAt (g : Gr) (t i : Int32) : Int32 := if 0 ≤ t.toInt ∧ 0 ≤ i.toInt ∧ i.toInt < (gD g t.toInt.toNat).length then nI ((gD g t.toInt.toNat).getD i.toInt.toNat 0) else -1
theorem gAt_nI (g : Gr) {t i : Nat} (ht : t < 2 ^ 31) (hi : i < (gD g t).length) (hi2 : i < 2 ^ 31) : gAt g (nI t) (nI i) = nI ((gD g t).getD i 0) := by
  unfold gAt
  rw [nI_toInt ht, nI_toInt hi2, if_pos ⟨by omega, by omega, by simpa using hi⟩]; simp
theorem gAt_no {g : Gr} {t i : Int32} (h : ¬ (0 ≤ t.toInt ∧ 0 ≤ i.toInt ∧ i.toInt < (gD g t.toInt.toNat).length)) : gAt g t i = -1 := if_neg h
theorem gAt_noT {g : Gr} {t i : Int32} (h : ¬ (0 ≤ t.toInt ∧ t.toInt < g.length)) : gAt g t i = -1 := gAt_no (fun hc => by
  have e : gD g t.toInt.toNat = [] := gD_out (by omega)
  rw [e] at hc
  simp at hc
  omega)

set_option maxHeartbeats 4000000 in
set_option maxRecDepth 100000 in
/-- Graph.needAt(t, i) -/
theorem cG_needAt (l : Launch) (D : va_G) (tys : List (ClassId × FieldType)) (A : Nat → Prop) (ws : va_W) (cI : ClassId) (hI : tys[0]? = some (cI, .int)) (ad : Nat → Nat) (k : Nat) (g : Gr) (t i : Int32) (hG : GraphAt cI ad ws k g) : x_Mi l yG_needAt wG_needAt (xR 1) D xCl tys A [.ref (ad k), .int t, .int i] ws (fun r ws1 => r = gAt g t i ∧ ws = ws1) := by
  obtain ⟨F, ⟨h0, h1, h2, h3, h4, h5, h6, h7, h8⟩, hR⟩ := id hG
  obtain ⟨⟨hle, hok1, hok2, hok3⟩, hr1, hr2, hr3, hr4, hr5, hr6, hr7⟩ := id hR
  refine x_enter (by decide) rfl (Nat.le_of_ble_eq_true rfl) (fun p e s m args below meth c ls hx hb hr hlk hml hown hnm hts hK hP hD hS hA hN hl => ?_)
  have hl : lv_has ls 3 [(0, .ref (ad k)), (1, .int t), (2, .int i)] := hl
  refine lv_iload_n hx hb dG_needAt_0 rfl (lv_at hl 1 rfl) ?_
  refine lv_aload_n hx hb dG_needAt_1 rfl (lv_at hl 0 rfl) ?_
  refine va_get (D := D) (cl := xCl) (ci := 0) (v := .int (nI g.length)) (C := rnG) (T := tbG) (N := 9) hx hb hts inG hown hK hP k h0 rfl 8 (by decide) (hts _ tw_37) (fun _ h9 => h9) rfl dG_needAt_2 ?_
  refine x_calli (x_runS (n := 2) (As := [.int t, .int (nI g.length)]) (rest := []) ⟨hx, hb, hml, hown, hts⟩ (cG_below l D tys A ws t ((nI g.length))) tw_178 tw_179 tw_2 tw_180 (by decide +kernel) rfl rfl ⟨by decide, by decide⟩ ⟨Nat.zero_le _, Nat.zero_le _⟩ hK hP hD hS hA hN rfl hl.1 rfl (lv_room (Nat.le_of_ble_eq_true rfl)) dG_needAt_5) hS (fun rhb1 ws_1 H locs hb1 hP hD hS => ?_)
  obtain ⟨hb1, rfl⟩ := hb1
  refine lv_if_eq (tgt := 30) hx hb dG_needAt_8 (by decide) (fun c8 => ?_) (fun c8 => ?_)
  · refine lv_iconst (v := (-1)) hx hb dG_needAt_30 (by decide) ?_
    exact x_iret hx hb hr hlk hK hP hD hS dG_needAt_31 ⟨by rw [gAt_noT (blw_no (by omega) hb1 c8)], rfl⟩
  · obtain ⟨ta, hta, rfl⟩ := blw_of (by omega) hb1 c8
    refine lv_iload_n hx hb dG_needAt_11 rfl (lv_at hl 2 rfl) ?_
    refine lv_bipush (v := 8) hx hb dG_needAt_12 (by decide) ?_
    refine x_calli (x_runS (n := 2) (As := [.int i, .int 8]) (rest := []) ⟨hx, hb, hml, hown, hts⟩ (cG_below l D tys A ws i 8) tw_178 tw_179 tw_2 tw_180 (by decide +kernel) rfl rfl ⟨by decide, by decide⟩ ⟨Nat.zero_le _, Nat.zero_le _⟩ hK hP hD hS hA hN rfl hl.1 rfl (lv_room (Nat.le_of_ble_eq_true rfl)) dG_needAt_14) hS (fun rhb2 ws_2 H locs hb2 hP hD hS => ?_)
    obtain ⟨hb2, rfl⟩ := hb2
    refine lv_if_eq (tgt := 30) hx hb dG_needAt_17 (by decide) (fun c17 => ?_) (fun c17 => ?_)
    · refine lv_iconst (v := (-1)) hx hb dG_needAt_30 (by decide) ?_
      exact x_iret hx hb hr hlk hK hP hD hS dG_needAt_31 ⟨by have q := blw_no (n := 8) (by omega) hb2 c17; rw [gAt_no (fun hc => q ⟨hc.2.1, by have := (hok3 (nI ta).toInt.toNat).2.1; omega⟩)], rfl⟩
    · obtain ⟨ib, hib8, rfl⟩ := blw_of (n := 8) (by omega) hb2 c17
      refine lv_iload_n hx hb dG_needAt_20 rfl (lv_at hl 2 rfl) ?_
      refine lv_aload_n hx hb dG_needAt_21 rfl (lv_at hl 0 rfl) ?_
      refine va_get (D := D) (cl := xCl) (ci := 0) (v := .ref (ad (k + 5))) (C := rnG) (T := tbG) (N := 9) hx hb hts inG hown hK hP k h0 rfl 4 (by decide) (hts _ tw_33) (fun _ h9 => h9) rfl dG_needAt_22 ?_
      refine lv_iload_n hx hb dG_needAt_25 rfl (lv_at hl 1 rfl) ?_
      refine va_iald hx hb hK hP (k + 5) 0 h5 hI (vp_in_nI (by omega) (by omega)) dG_needAt_26 ?_
      refine lv_topi (fun v_3 ev_3 => ?_)
      refine lv_icmp_lt (tgt := 32) hx hb dG_needAt_27 (by decide) (fun c27 => ?_) (fun c27 => ?_)
      · have hib : ib < (gD g ta).length := by rw [ev_3, nI_clamp (by omega), hr5 ta (by omega), nI_ltI (by omega) (by have := (hok3 ta).2.1; omega)] at c27; exact c27
        have hi8 : ib < 8 := hib8
        refine lv_aload_n hx hb dG_needAt_32 rfl (lv_at hl 0 rfl) ?_
        refine va_get (D := D) (cl := xCl) (ci := 0) (v := .ref (ad (k + 4))) (C := rnG) (T := tbG) (N := 9) hx hb hts inG hown hK hP k h0 rfl 3 (by decide) (hts _ tw_32) (fun _ h9 => h9) rfl dG_needAt_33 ?_
        refine lv_iload_n hx hb dG_needAt_36 rfl (lv_at hl 1 rfl) ?_
        refine lv_bipush (v := 8) hx hb dG_needAt_37 (by decide) ?_
        refine lv_imul hx hb dG_needAt_39 ?_
        refine lv_topi (fun v_4 ev_4 => ?_)
        refine lv_iload_n hx hb dG_needAt_40 rfl (lv_at hl 2 rfl) ?_
        refine lv_iadd hx hb dG_needAt_41 ?_
        refine lv_topi (fun v_5 ev_5 => ?_)
        refine va_iald hx hb hK hP (k + 4) 0 h4 hI (by rw [ev_5, ev_4, show (8 : Int32) = nI 8 from rfl, pk_mul, nI_add]; exact vp_in_nI (by omega) (by omega)) dG_needAt_42 ?_
        refine lv_topi (fun v_6 ev_6 => ?_)
        exact x_iret hx hb hr hlk hK hP hD hS dG_needAt_43 ⟨by rw [ev_6, ev_5, ev_4, show (8 : Int32) = nI 8 from rfl, pk_mul, nI_add, nI_clamp (by omega), hr4 ta ib (by omega) hib, gAt_nI g (by omega) hib (by omega)], rfl⟩
      · refine lv_iconst (v := (-1)) hx hb dG_needAt_30 (by decide) ?_
        exact x_iret hx hb hr hlk hK hP hD hS dG_needAt_31 ⟨by rw [ev_3, nI_clamp (by omega), hr5 ta (by omega)] at c27; rw [gAt_no (fun hc => c27 (by have q9 := (hok3 ta).2.1; rw [nI_toInt (n := ta) (by omega), nI_toInt (n := ib) (by omega)] at hc; rw [nI_ltI (by omega) (by omega)]; have := hc.2.2; simp at this; omega))], rfl⟩

def gNoI (g : Gr) (v : Int32) : Int32 := if 0 ≤ v.toInt ∧ v.toInt < 60 then gNo g v.toInt.toNat else -1
theorem gNoI_nI (g : Gr) {n : Nat} (h : n < 60) : gNoI g (nI n) = gNo g n := by
  unfold gNoI
  rw [nI_toInt (by omega), if_pos ⟨by omega, by omega⟩]; simp

set_option maxHeartbeats 4000000 in
set_option maxRecDepth 100000 in
/-- Graph.numberOf(name) -/
theorem cG_numberOf (l : Launch) (D : va_G) (tys : List (ClassId × FieldType)) (A : Nat → Prop) (ws : va_W) (cI : ClassId) (hI : tys[0]? = some (cI, .int)) (ad : Nat → Nat) (k : Nat) (g : Gr) (v : Int32) (hG : GraphAt cI ad ws k g) : x_Mi l yG_numberOf wG_numberOf (xR 1) D xCl tys A [.ref (ad k), .int v] ws (fun r ws1 => r = gNoI g v ∧ ws = ws1) := by
  obtain ⟨F, ⟨h0, h1, h2, h3, h4, h5, h6, h7, h8⟩, hR⟩ := id hG
  obtain ⟨⟨hle, hok1, hok2, hok3⟩, hr1, hr2, hr3, hr4, hr5, hr6, hr7⟩ := id hR
  refine x_enter (by decide) rfl (Nat.le_of_ble_eq_true rfl) (fun p e s m args below meth c ls hx hb hr hlk hml hown hnm hts hK hP hD hS hA hN hl => ?_)
  have hl : lv_has ls 2 [(0, .ref (ad k)), (1, .int v)] := hl
  refine lv_iload_n hx hb dG_numberOf_0 rfl (lv_at hl 1 rfl) ?_
  refine lv_aload_n hx hb dG_numberOf_1 rfl (lv_at hl 0 rfl) ?_
  refine va_get (D := D) (cl := xCl) (ci := 0) (v := .ref (ad (k + 3))) (C := rnG) (T := tbG) (N := 9) hx hb hts inG hown hK hP k h0 rfl 2 (by decide) (hts _ tw_31) (fun _ h9 => h9) rfl dG_numberOf_2 ?_
  refine va_alen (v := 60) hx hb hK hP (k + 3) 0 h3 hI (by rfl) dG_numberOf_5 ?_
  refine x_calli (x_runS (n := 2) (As := [.int v, .int 60]) (rest := []) ⟨hx, hb, hml, hown, hts⟩ (cG_below l D tys A ws v 60) tw_178 tw_179 tw_2 tw_180 (by decide +kernel) rfl rfl ⟨by decide, by decide⟩ ⟨Nat.zero_le _, Nat.zero_le _⟩ hK hP hD hS hA hN rfl hl.1 rfl (lv_room (Nat.le_of_ble_eq_true rfl)) dG_numberOf_6) hS (fun rhb1 ws_1 H locs hb1 hP hD hS => ?_)
  obtain ⟨hb1, rfl⟩ := hb1
  refine lv_if_eq (tgt := 21) hx hb dG_numberOf_9 (by decide) (fun c9 => ?_) (fun c9 => ?_)
  · refine lv_iconst (v := (-1)) hx hb dG_numberOf_21 (by decide) ?_
    exact x_iret hx hb hr hlk hK hP hD hS dG_numberOf_22 ⟨by have q := blw_no (n := 60) (by omega) hb1 c9; exact (if_neg q).symm, rfl⟩
  · obtain ⟨nb, hnb, rfl⟩ := blw_of (n := 60) (by omega) hb1 c9
    refine lv_aload_n hx hb dG_numberOf_12 rfl (lv_at hl 0 rfl) ?_
    refine va_get (D := D) (cl := xCl) (ci := 0) (v := .ref (ad (k + 3))) (C := rnG) (T := tbG) (N := 9) hx hb hts inG hown hK hP k h0 rfl 2 (by decide) (hts _ tw_31) (fun _ h9 => h9) rfl dG_numberOf_13 ?_
    refine lv_iload_n hx hb dG_numberOf_16 rfl (lv_at hl 1 rfl) ?_
    refine va_iald hx hb hK hP (k + 3) 0 h3 hI (vp_in_nI (by omega) (by omega)) dG_numberOf_17 ?_
    refine lv_topi (fun v_2 ev_2 => ?_)
    refine lv_goto (tgt := 22) hx hb dG_numberOf_18 (by decide) ?_
    exact x_iret hx hb hr hlk hK hP hD hS dG_numberOf_22 ⟨by rw [ev_2, nI_clamp (by omega), hr3 nb (by omega), gNoI_nI g hnb], rfl⟩

set_option maxHeartbeats 4000000 in
set_option maxRecDepth 100000 in
/-- Graph.usersOf(t) -/
theorem cG_usersOf (l : Launch) (D : va_G) (tys : List (ClassId × FieldType)) (A : Nat → Prop) (ws : va_W) (cI : ClassId) (hI : tys[0]? = some (cI, .int)) (ad : Nat → Nat) (k : Nat) (g : Gr) (t : Int32) (hG : GraphAt cI ad ws k g) : x_Mi l yG_usersOf wG_usersOf (xR 1) D xCl tys A [.ref (ad k), .int t] ws (fun r ws1 => (∀ i, i < 32 → bt r i = decide (0 ≤ t.toInt ∧ t.toInt.toNat ∈ gD g i)) ∧ ws = ws1) := by
  obtain ⟨F, ⟨h0, h1, h2, h3, h4, h5, h6, h7, h8⟩, hR⟩ := id hG
  obtain ⟨⟨hle, hok1, hok2, hok3⟩, hr1, hr2, hr3, hr4, hr5, hr6, hr7⟩ := id hR
  refine x_enter (by decide) rfl (Nat.le_of_ble_eq_true rfl) (fun p e s m args below meth c ls hx hb hr hlk hml hown hnm hts hK hP hD hS hA hN hl => ?_)
  have hl : lv_has ls 2 [(0, .ref (ad k)), (1, .int t)] := hl
  refine lv_iload_n hx hb dG_usersOf_0 rfl (lv_at hl 1 rfl) ?_
  refine lv_aload_n hx hb dG_usersOf_1 rfl (lv_at hl 0 rfl) ?_
  refine va_get (D := D) (cl := xCl) (ci := 0) (v := .int (nI g.length)) (C := rnG) (T := tbG) (N := 9) hx hb hts inG hown hK hP k h0 rfl 8 (by decide) (hts _ tw_37) (fun _ h9 => h9) rfl dG_usersOf_2 ?_
  refine x_calli (x_runS (n := 2) (As := [.int t, .int (nI g.length)]) (rest := []) ⟨hx, hb, hml, hown, hts⟩ (cG_below l D tys A ws t ((nI g.length))) tw_178 tw_179 tw_2 tw_180 (by decide +kernel) rfl rfl ⟨by decide, by decide⟩ ⟨Nat.zero_le _, Nat.zero_le _⟩ hK hP hD hS hA hN rfl hl.1 rfl (lv_room (Nat.le_of_ble_eq_true rfl)) dG_usersOf_5) hS (fun rhb1 ws_1 H locs hb1 hP hD hS => ?_)
  obtain ⟨hb1, rfl⟩ := hb1
  refine lv_if_eq (tgt := 20) hx hb dG_usersOf_8 (by decide) (fun c8 => ?_) (fun c8 => ?_)
  · refine lv_iconst (v := 0) hx hb dG_usersOf_20 (by decide) ?_
    exact x_iret hx hb hr hlk hK hP hD hS dG_usersOf_21 ⟨fun i hi => by have q := blw_no (by omega) hb1 c8; rw [b_0, decide_eq_false]; intro hc; have q2 := (hok3 i).2.2 t.toInt.toNat hc.2; omega, rfl⟩
  · obtain ⟨ta, hta, rfl⟩ := blw_of (by omega) hb1 c8
    refine lv_aload_n hx hb dG_usersOf_11 rfl (lv_at hl 0 rfl) ?_
    refine va_get (D := D) (cl := xCl) (ci := 0) (v := .ref (ad (k + 7))) (C := rnG) (T := tbG) (N := 9) hx hb hts inG hown hK hP k h0 rfl 6 (by decide) (hts _ tw_35) (fun _ h9 => h9) rfl dG_usersOf_12 ?_
    refine lv_iload_n hx hb dG_usersOf_15 rfl (lv_at hl 1 rfl) ?_
    refine va_iald hx hb hK hP (k + 7) 0 h7 hI (vp_in_nI (by omega) (by omega)) dG_usersOf_16 ?_
    refine lv_topi (fun v_2 ev_2 => ?_)
    refine lv_goto (tgt := 21) hx hb dG_usersOf_17 (by decide) ?_
    exact x_iret hx hb hr hlk hK hP hD hS dG_usersOf_21 ⟨fun i hi => by rw [ev_2, nI_clamp (by omega), hr7 ta (by omega) i hi]; exact decide_eq_decide.mpr ⟨fun hc => ⟨by rw [nI_toInt (by omega)]; omega, by rw [nI_toInt (by omega)]; simpa using hc⟩, fun hc => by have := hc.2; rw [nI_toInt (by omega)] at this; simpa using this⟩, rfl⟩

/-- the package of a target; 6 where there is none -/
def gP (g : Gr) (t : Int32) : Int32 := if 0 ≤ t.toInt ∧ t.toInt < g.length then nI (gN g t.toInt.toNat / 10) else 6

set_option maxHeartbeats 4000000 in
set_option maxRecDepth 100000 in
/-- Graph.packOf(t) -/
theorem cG_packOf (l : Launch) (D : va_G) (tys : List (ClassId × FieldType)) (A : Nat → Prop) (ws : va_W) (cI : ClassId) (hI : tys[0]? = some (cI, .int)) (ad : Nat → Nat) (k : Nat) (g : Gr) (t : Int32) (hG : GraphAt cI ad ws k g) : x_Mi l yG_packOf wG_packOf (xR 1) D xCl tys A [.ref (ad k), .int t] ws (fun r ws1 => r = gP g t ∧ ws = ws1) := by
  obtain ⟨F, ⟨h0, h1, h2, h3, h4, h5, h6, h7, h8⟩, hR⟩ := id hG
  obtain ⟨⟨hle, hok1, hok2, hok3⟩, hr1, hr2, hr3, hr4, hr5, hr6, hr7⟩ := id hR
  refine x_enter (by decide) rfl (Nat.le_of_ble_eq_true rfl) (fun p e s m args below meth c ls hx hb hr hlk hml hown hnm hts hK hP hD hS hA hN hl => ?_)
  have hl : lv_has ls 2 [(0, .ref (ad k)), (1, .int t)] := hl
  refine lv_iload_n hx hb dG_packOf_0 rfl (lv_at hl 1 rfl) ?_
  refine lv_aload_n hx hb dG_packOf_1 rfl (lv_at hl 0 rfl) ?_
  refine va_get (D := D) (cl := xCl) (ci := 0) (v := .int (nI g.length)) (C := rnG) (T := tbG) (N := 9) hx hb hts inG hown hK hP k h0 rfl 8 (by decide) (hts _ tw_37) (fun _ h9 => h9) rfl dG_packOf_2 ?_
  refine x_calli (x_runS (n := 2) (As := [.int t, .int (nI g.length)]) (rest := []) ⟨hx, hb, hml, hown, hts⟩ (cG_below l D tys A ws t ((nI g.length))) tw_178 tw_179 tw_2 tw_180 (by decide +kernel) rfl rfl ⟨by decide, by decide⟩ ⟨Nat.zero_le _, Nat.zero_le _⟩ hK hP hD hS hA hN rfl hl.1 rfl (lv_room (Nat.le_of_ble_eq_true rfl)) dG_packOf_5) hS (fun rhb1 ws_1 H locs hb1 hP hD hS => ?_)
  obtain ⟨hb1, rfl⟩ := hb1
  refine lv_if_eq (tgt := 23) hx hb dG_packOf_8 (by decide) (fun c8 => ?_) (fun c8 => ?_)
  · refine lv_bipush (v := 6) hx hb dG_packOf_23 (by decide) ?_
    exact x_iret hx hb hr hlk hK hP hD hS dG_packOf_25 ⟨by have q := blw_no (by omega) hb1 c8; exact (if_neg q).symm, rfl⟩
  · obtain ⟨ta, hta, rfl⟩ := blw_of (by omega) hb1 c8
    refine lv_aload_n hx hb dG_packOf_11 rfl (lv_at hl 0 rfl) ?_
    refine va_get (D := D) (cl := xCl) (ci := 0) (v := .ref (ad (k + 1))) (C := rnG) (T := tbG) (N := 9) hx hb hts inG hown hK hP k h0 rfl 0 (by decide) (hts _ tw_29) (fun _ h9 => h9) rfl dG_packOf_12 ?_
    refine lv_iload_n hx hb dG_packOf_15 rfl (lv_at hl 1 rfl) ?_
    refine va_iald hx hb hK hP (k + 1) 0 h1 hI (vp_in_nI (by omega) (by omega)) dG_packOf_16 ?_
    refine lv_topi (fun v_2 ev_2 => ?_)
    refine lv_bipush (v := 10) hx hb dG_packOf_17 (by decide) ?_
    refine lv_idiv hx hb dG_packOf_19 (by decide) ?_
    refine lv_topi (fun v_3 ev_3 => ?_)
    refine lv_goto (tgt := 25) hx hb dG_packOf_20 (by decide) ?_
    exact x_iret hx hb hr hlk hK hP hD hS dG_packOf_25 ⟨by have q := hok1 ta hta; rw [ev_3, ev_2, nI_clamp (by omega), hr1 ta hta, show (10 : Int32) = nI 10 from rfl, pk_div (by omega) (by omega) (by omega)]; unfold gP; rw [nI_toInt (by omega), if_pos ⟨by omega, by omega⟩]; simp, rfl⟩
